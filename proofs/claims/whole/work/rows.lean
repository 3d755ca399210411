section
-- ===== PART A: goes FIRST, ahead of the names: the tables' words, and 'selects' of the private methods out of them =====
/-- a private method of a class that the tables say can be made, by its rows of tables_1 -/
def lw_okq (q : MethodName × Nat) : Prop := (q.1.cls ≠ "java/lang/invoke/MethodHandle" ∧ q.1.cls ≠ "java/lang/invoke/VarHandle") ∧ Cond.instantiable q.1.cls q.2 ∈ tables_1 ∧ Cond.privateMethod q.1 ∈ tables_1 ∧ Cond.instanceMethod q.1 ∈ tables_1
theorem lw_p0 : lw_okq (⟨"EelLocks", "refusalOfTwo", "(II)I"⟩, 7) := ⟨⟨by decide +kernel, by decide +kernel⟩, List.mem_of_getElem? (i := 14) (by decide +kernel), List.mem_of_getElem? (i := 423) (by decide +kernel), List.mem_of_getElem? (i := 424) (by decide +kernel)⟩
theorem lw_p1 : lw_okq (⟨"EelLocks$Outlook", "suits", "(LEelLocks$Canal;LEelLocks$State;II)Z"⟩, 2) := ⟨⟨by decide +kernel, by decide +kernel⟩, List.mem_of_getElem? (i := 157) (by decide +kernel), List.mem_of_getElem? (i := 435) (by decide +kernel), List.mem_of_getElem? (i := 436) (by decide +kernel)⟩
theorem lw_p2 : lw_okq (⟨"EelLocks$Outlook", "makeNextOrder", "(I)V"⟩, 2) := ⟨⟨by decide +kernel, by decide +kernel⟩, List.mem_of_getElem? (i := 157) (by decide +kernel), List.mem_of_getElem? (i := 444) (by decide +kernel), List.mem_of_getElem? (i := 445) (by decide +kernel)⟩
theorem lw_p3 : lw_okq (⟨"EelLocks$Outlook", "exchange", "(II)V"⟩, 2) := ⟨⟨by decide +kernel, by decide +kernel⟩, List.mem_of_getElem? (i := 157) (by decide +kernel), List.mem_of_getElem? (i := 448) (by decide +kernel), List.mem_of_getElem? (i := 449) (by decide +kernel)⟩
theorem lw_p4 : lw_okq (⟨"EelLocks$Outlook", "suitsWith", "(LEelLocks$Canal;IIII)Z"⟩, 2) := ⟨⟨by decide +kernel, by decide +kernel⟩, List.mem_of_getElem? (i := 157) (by decide +kernel), List.mem_of_getElem? (i := 460) (by decide +kernel), List.mem_of_getElem? (i := 461) (by decide +kernel)⟩
theorem lw_p5 : lw_okq (⟨"EelLocks$Outlook", "canGive", "(LEelLocks$Canal;I)Z"⟩, 2) := ⟨⟨by decide +kernel, by decide +kernel⟩, List.mem_of_getElem? (i := 157) (by decide +kernel), List.mem_of_getElem? (i := 465) (by decide +kernel), List.mem_of_getElem? (i := 466) (by decide +kernel)⟩
theorem lw_p6 : lw_okq (⟨"EelLocks$Outlook", "canGiveBoth", "(LEelLocks$Canal;II)Z"⟩, 2) := ⟨⟨by decide +kernel, by decide +kernel⟩, List.mem_of_getElem? (i := 157) (by decide +kernel), List.mem_of_getElem? (i := 472) (by decide +kernel), List.mem_of_getElem? (i := 473) (by decide +kernel)⟩
theorem lw_p7 : lw_okq (⟨"EelLocks$Outlook", "lastHourOf", "(LEelLocks$Canal;I)I"⟩, 2) := ⟨⟨by decide +kernel, by decide +kernel⟩, List.mem_of_getElem? (i := 157) (by decide +kernel), List.mem_of_getElem? (i := 507) (by decide +kernel), List.mem_of_getElem? (i := 508) (by decide +kernel)⟩
theorem lw_p8 : lw_okq (⟨"EelLocks$Guesses", "comesOutSo", "(LEelLocks$Canal;III)Z"⟩, 6) := ⟨⟨by decide +kernel, by decide +kernel⟩, List.mem_of_getElem? (i := 170) (by decide +kernel), List.mem_of_getElem? (i := 540) (by decide +kernel), List.mem_of_getElem? (i := 541) (by decide +kernel)⟩
theorem lw_p9 : lw_okq (⟨"EelLocks$Guesses", "addGivers", "(LEelLocks$Canal;LEelLocks$State;II)V"⟩, 6) := ⟨⟨by decide +kernel, by decide +kernel⟩, List.mem_of_getElem? (i := 170) (by decide +kernel), List.mem_of_getElem? (i := 545) (by decide +kernel), List.mem_of_getElem? (i := 546) (by decide +kernel)⟩
theorem lw_p10 : lw_okq (⟨"EelLocks$Guesses", "findLosses", "(LEelLocks$Canal;III)V"⟩, 6) := ⟨⟨by decide +kernel, by decide +kernel⟩, List.mem_of_getElem? (i := 170) (by decide +kernel), List.mem_of_getElem? (i := 560) (by decide +kernel), List.mem_of_getElem? (i := 561) (by decide +kernel)⟩
theorem lw_p11 : lw_okq (⟨"EelLocks$Guesses", "isAtRest", "(II)Z"⟩, 6) := ⟨⟨by decide +kernel, by decide +kernel⟩, List.mem_of_getElem? (i := 170) (by decide +kernel), List.mem_of_getElem? (i := 565) (by decide +kernel), List.mem_of_getElem? (i := 566) (by decide +kernel)⟩
theorem lw_p12 : lw_okq (⟨"EelLocks$Guesses", "isAtWith", "(LEelLocks$Canal;III)Z"⟩, 6) := ⟨⟨by decide +kernel, by decide +kernel⟩, List.mem_of_getElem? (i := 170) (by decide +kernel), List.mem_of_getElem? (i := 581) (by decide +kernel), List.mem_of_getElem? (i := 582) (by decide +kernel)⟩
theorem lw_p13 : lw_okq (⟨"EelLocksModel", "readText", "()I"⟩, 23) := ⟨⟨by decide +kernel, by decide +kernel⟩, List.mem_of_getElem? (i := 625) (by decide +kernel), List.mem_of_getElem? (i := 717) (by decide +kernel), List.mem_of_getElem? (i := 718) (by decide +kernel)⟩
theorem lw_p14 : lw_okq (⟨"EelLocksModel", "figure", "(II)I"⟩, 23) := ⟨⟨by decide +kernel, by decide +kernel⟩, List.mem_of_getElem? (i := 625) (by decide +kernel), List.mem_of_getElem? (i := 721) (by decide +kernel), List.mem_of_getElem? (i := 722) (by decide +kernel)⟩
theorem lw_p15 : lw_okq (⟨"EelLocksModel", "isBarge", "(I)Z"⟩, 23) := ⟨⟨by decide +kernel, by decide +kernel⟩, List.mem_of_getElem? (i := 625) (by decide +kernel), List.mem_of_getElem? (i := 733) (by decide +kernel), List.mem_of_getElem? (i := 734) (by decide +kernel)⟩
def lw_privs_1 : List (MethodName × Nat) := [(⟨"EelLocks", "refusalOfTwo", "(II)I"⟩, 7), (⟨"EelLocks$Outlook", "suits", "(LEelLocks$Canal;LEelLocks$State;II)Z"⟩, 2), (⟨"EelLocks$Outlook", "makeNextOrder", "(I)V"⟩, 2), (⟨"EelLocks$Outlook", "exchange", "(II)V"⟩, 2), (⟨"EelLocks$Outlook", "suitsWith", "(LEelLocks$Canal;IIII)Z"⟩, 2), (⟨"EelLocks$Outlook", "canGive", "(LEelLocks$Canal;I)Z"⟩, 2), (⟨"EelLocks$Outlook", "canGiveBoth", "(LEelLocks$Canal;II)Z"⟩, 2), (⟨"EelLocks$Outlook", "lastHourOf", "(LEelLocks$Canal;I)I"⟩, 2), (⟨"EelLocks$Guesses", "comesOutSo", "(LEelLocks$Canal;III)Z"⟩, 6), (⟨"EelLocks$Guesses", "addGivers", "(LEelLocks$Canal;LEelLocks$State;II)V"⟩, 6), (⟨"EelLocks$Guesses", "findLosses", "(LEelLocks$Canal;III)V"⟩, 6), (⟨"EelLocks$Guesses", "isAtRest", "(II)Z"⟩, 6), (⟨"EelLocks$Guesses", "isAtWith", "(LEelLocks$Canal;III)Z"⟩, 6), (⟨"EelLocksModel", "readText", "()I"⟩, 23), (⟨"EelLocksModel", "figure", "(II)I"⟩, 23), (⟨"EelLocksModel", "isBarge", "(I)Z"⟩, 23)]
theorem lw_r1 : ∀ q ∈ lw_privs_1, lw_okq q := List.forall_mem_cons.mpr ⟨lw_p0, List.forall_mem_cons.mpr ⟨lw_p1, List.forall_mem_cons.mpr ⟨lw_p2, List.forall_mem_cons.mpr ⟨lw_p3, List.forall_mem_cons.mpr ⟨lw_p4, List.forall_mem_cons.mpr ⟨lw_p5, List.forall_mem_cons.mpr ⟨lw_p6, List.forall_mem_cons.mpr ⟨lw_p7, List.forall_mem_cons.mpr ⟨lw_p8, List.forall_mem_cons.mpr ⟨lw_p9, List.forall_mem_cons.mpr ⟨lw_p10, List.forall_mem_cons.mpr ⟨lw_p11, List.forall_mem_cons.mpr ⟨lw_p12, List.forall_mem_cons.mpr ⟨lw_p13, List.forall_mem_cons.mpr ⟨lw_p14, List.forall_mem_cons.mpr ⟨lw_p15, fun _ h => absurd h List.not_mem_nil⟩⟩⟩⟩⟩⟩⟩⟩⟩⟩⟩⟩⟩⟩⟩⟩
theorem lw_p16 : lw_okq (⟨"EelLocksModel", "placeOf", "(III)I"⟩, 23) := ⟨⟨by decide +kernel, by decide +kernel⟩, List.mem_of_getElem? (i := 625) (by decide +kernel), List.mem_of_getElem? (i := 737) (by decide +kernel), List.mem_of_getElem? (i := 738) (by decide +kernel)⟩
theorem lw_p17 : lw_okq (⟨"EelLocksModel", "isLock", "(I)Z"⟩, 23) := ⟨⟨by decide +kernel, by decide +kernel⟩, List.mem_of_getElem? (i := 625) (by decide +kernel), List.mem_of_getElem? (i := 745) (by decide +kernel), List.mem_of_getElem? (i := 746) (by decide +kernel)⟩
theorem lw_p18 : lw_okq (⟨"EelLocksModel", "givenAt", "(I)I"⟩, 23) := ⟨⟨by decide +kernel, by decide +kernel⟩, List.mem_of_getElem? (i := 625) (by decide +kernel), List.mem_of_getElem? (i := 749) (by decide +kernel), List.mem_of_getElem? (i := 750) (by decide +kernel)⟩
theorem lw_p19 : lw_okq (⟨"EelLocksModel", "keepAct", "()V"⟩, 23) := ⟨⟨by decide +kernel, by decide +kernel⟩, List.mem_of_getElem? (i := 625) (by decide +kernel), List.mem_of_getElem? (i := 757) (by decide +kernel), List.mem_of_getElem? (i := 758) (by decide +kernel)⟩
theorem lw_p20 : lw_okq (⟨"EelLocksModel", "passOn", "(II)V"⟩, 23) := ⟨⟨by decide +kernel, by decide +kernel⟩, List.mem_of_getElem? (i := 625) (by decide +kernel), List.mem_of_getElem? (i := 761) (by decide +kernel), List.mem_of_getElem? (i := 762) (by decide +kernel)⟩
theorem lw_p21 : lw_okq (⟨"EelLocksModel", "isChanged", "(IIII)Z"⟩, 23) := ⟨⟨by decide +kernel, by decide +kernel⟩, List.mem_of_getElem? (i := 625) (by decide +kernel), List.mem_of_getElem? (i := 768) (by decide +kernel), List.mem_of_getElem? (i := 769) (by decide +kernel)⟩
theorem lw_p22 : lw_okq (⟨"EelLocksModel", "figuresOf", "(II)I"⟩, 23) := ⟨⟨by decide +kernel, by decide +kernel⟩, List.mem_of_getElem? (i := 625) (by decide +kernel), List.mem_of_getElem? (i := 772) (by decide +kernel), List.mem_of_getElem? (i := 773) (by decide +kernel)⟩
theorem lw_p23 : lw_okq (⟨"EelLocksModel", "layBasin", "()V"⟩, 23) := ⟨⟨by decide +kernel, by decide +kernel⟩, List.mem_of_getElem? (i := 625) (by decide +kernel), List.mem_of_getElem? (i := 797) (by decide +kernel), List.mem_of_getElem? (i := 798) (by decide +kernel)⟩
theorem lw_p24 : lw_okq (⟨"EelLocksModel", "layTrial", "()V"⟩, 23) := ⟨⟨by decide +kernel, by decide +kernel⟩, List.mem_of_getElem? (i := 625) (by decide +kernel), List.mem_of_getElem? (i := 801) (by decide +kernel), List.mem_of_getElem? (i := 802) (by decide +kernel)⟩
theorem lw_p25 : lw_okq (⟨"EelLocksModel", "passAll", "(I)V"⟩, 23) := ⟨⟨by decide +kernel, by decide +kernel⟩, List.mem_of_getElem? (i := 625) (by decide +kernel), List.mem_of_getElem? (i := 805) (by decide +kernel), List.mem_of_getElem? (i := 806) (by decide +kernel)⟩
theorem lw_p26 : lw_okq (⟨"EelLocksModel", "layOrder", "(I)V"⟩, 23) := ⟨⟨by decide +kernel, by decide +kernel⟩, List.mem_of_getElem? (i := 625) (by decide +kernel), List.mem_of_getElem? (i := 828) (by decide +kernel), List.mem_of_getElem? (i := 829) (by decide +kernel)⟩
theorem lw_p27 : lw_okq (⟨"EelLocksModel", "isSo", "(II)Z"⟩, 23) := ⟨⟨by decide +kernel, by decide +kernel⟩, List.mem_of_getElem? (i := 625) (by decide +kernel), List.mem_of_getElem? (i := 835) (by decide +kernel), List.mem_of_getElem? (i := 836) (by decide +kernel)⟩
theorem lw_p28 : lw_okq (⟨"EelLocksModel", "giveTrial", "(II)Z"⟩, 23) := ⟨⟨by decide +kernel, by decide +kernel⟩, List.mem_of_getElem? (i := 625) (by decide +kernel), List.mem_of_getElem? (i := 843) (by decide +kernel), List.mem_of_getElem? (i := 844) (by decide +kernel)⟩
theorem lw_p29 : lw_okq (⟨"EelLocksModel", "hoursBy", "(I)I"⟩, 23) := ⟨⟨by decide +kernel, by decide +kernel⟩, List.mem_of_getElem? (i := 625) (by decide +kernel), List.mem_of_getElem? (i := 859) (by decide +kernel), List.mem_of_getElem? (i := 860) (by decide +kernel)⟩
theorem lw_p30 : lw_okq (⟨"EelLocksModel", "greatest", "(II)I"⟩, 23) := ⟨⟨by decide +kernel, by decide +kernel⟩, List.mem_of_getElem? (i := 625) (by decide +kernel), List.mem_of_getElem? (i := 863) (by decide +kernel), List.mem_of_getElem? (i := 864) (by decide +kernel)⟩
theorem lw_p31 : lw_okq (⟨"EelLocksModel", "isOrder", "(I)Z"⟩, 23) := ⟨⟨by decide +kernel, by decide +kernel⟩, List.mem_of_getElem? (i := 625) (by decide +kernel), List.mem_of_getElem? (i := 877) (by decide +kernel), List.mem_of_getElem? (i := 878) (by decide +kernel)⟩
def lw_privs_2 : List (MethodName × Nat) := [(⟨"EelLocksModel", "placeOf", "(III)I"⟩, 23), (⟨"EelLocksModel", "isLock", "(I)Z"⟩, 23), (⟨"EelLocksModel", "givenAt", "(I)I"⟩, 23), (⟨"EelLocksModel", "keepAct", "()V"⟩, 23), (⟨"EelLocksModel", "passOn", "(II)V"⟩, 23), (⟨"EelLocksModel", "isChanged", "(IIII)Z"⟩, 23), (⟨"EelLocksModel", "figuresOf", "(II)I"⟩, 23), (⟨"EelLocksModel", "layBasin", "()V"⟩, 23), (⟨"EelLocksModel", "layTrial", "()V"⟩, 23), (⟨"EelLocksModel", "passAll", "(I)V"⟩, 23), (⟨"EelLocksModel", "layOrder", "(I)V"⟩, 23), (⟨"EelLocksModel", "isSo", "(II)Z"⟩, 23), (⟨"EelLocksModel", "giveTrial", "(II)Z"⟩, 23), (⟨"EelLocksModel", "hoursBy", "(I)I"⟩, 23), (⟨"EelLocksModel", "greatest", "(II)I"⟩, 23), (⟨"EelLocksModel", "isOrder", "(I)Z"⟩, 23)]
theorem lw_r2 : ∀ q ∈ lw_privs_2, lw_okq q := List.forall_mem_cons.mpr ⟨lw_p16, List.forall_mem_cons.mpr ⟨lw_p17, List.forall_mem_cons.mpr ⟨lw_p18, List.forall_mem_cons.mpr ⟨lw_p19, List.forall_mem_cons.mpr ⟨lw_p20, List.forall_mem_cons.mpr ⟨lw_p21, List.forall_mem_cons.mpr ⟨lw_p22, List.forall_mem_cons.mpr ⟨lw_p23, List.forall_mem_cons.mpr ⟨lw_p24, List.forall_mem_cons.mpr ⟨lw_p25, List.forall_mem_cons.mpr ⟨lw_p26, List.forall_mem_cons.mpr ⟨lw_p27, List.forall_mem_cons.mpr ⟨lw_p28, List.forall_mem_cons.mpr ⟨lw_p29, List.forall_mem_cons.mpr ⟨lw_p30, List.forall_mem_cons.mpr ⟨lw_p31, fun _ h => absurd h List.not_mem_nil⟩⟩⟩⟩⟩⟩⟩⟩⟩⟩⟩⟩⟩⟩⟩⟩
theorem lw_p32 : lw_okq (⟨"EelLocksModel", "comesSo", "(III)Z"⟩, 23) := ⟨⟨by decide +kernel, by decide +kernel⟩, List.mem_of_getElem? (i := 625) (by decide +kernel), List.mem_of_getElem? (i := 882) (by decide +kernel), List.mem_of_getElem? (i := 883) (by decide +kernel)⟩
theorem lw_p33 : lw_okq (⟨"EelLocksModel", "layLosses", "(III)V"⟩, 23) := ⟨⟨by decide +kernel, by decide +kernel⟩, List.mem_of_getElem? (i := 625) (by decide +kernel), List.mem_of_getElem? (i := 890) (by decide +kernel), List.mem_of_getElem? (i := 891) (by decide +kernel)⟩
theorem lw_p34 : lw_okq (⟨"EelLocksModel", "isRest", "(I)Z"⟩, 23) := ⟨⟨by decide +kernel, by decide +kernel⟩, List.mem_of_getElem? (i := 625) (by decide +kernel), List.mem_of_getElem? (i := 894) (by decide +kernel), List.mem_of_getElem? (i := 895) (by decide +kernel)⟩
theorem lw_p35 : lw_okq (⟨"EelLocksModel", "isFirst", "(I)Z"⟩, 23) := ⟨⟨by decide +kernel, by decide +kernel⟩, List.mem_of_getElem? (i := 625) (by decide +kernel), List.mem_of_getElem? (i := 915) (by decide +kernel), List.mem_of_getElem? (i := 916) (by decide +kernel)⟩
theorem lw_p36 : lw_okq (⟨"EelLocksModel", "sumOf", "(II)I"⟩, 23) := ⟨⟨by decide +kernel, by decide +kernel⟩, List.mem_of_getElem? (i := 625) (by decide +kernel), List.mem_of_getElem? (i := 931) (by decide +kernel), List.mem_of_getElem? (i := 932) (by decide +kernel)⟩
def lw_privs_3 : List (MethodName × Nat) := [(⟨"EelLocksModel", "comesSo", "(III)Z"⟩, 23), (⟨"EelLocksModel", "layLosses", "(III)V"⟩, 23), (⟨"EelLocksModel", "isRest", "(I)Z"⟩, 23), (⟨"EelLocksModel", "isFirst", "(I)Z"⟩, 23), (⟨"EelLocksModel", "sumOf", "(II)I"⟩, 23)]
theorem lw_r3 : ∀ q ∈ lw_privs_3, lw_okq q := List.forall_mem_cons.mpr ⟨lw_p32, List.forall_mem_cons.mpr ⟨lw_p33, List.forall_mem_cons.mpr ⟨lw_p34, List.forall_mem_cons.mpr ⟨lw_p35, List.forall_mem_cons.mpr ⟨lw_p36, fun _ h => absurd h List.not_mem_nil⟩⟩⟩⟩⟩
def lw_privs : List (MethodName × Nat) := lw_privs_1 ++ (lw_privs_2 ++ (lw_privs_3))
def lw_tbl : List Cond := k2_sels lw_privs ++ tables_1
theorem lw_privs_ok : ∀ q ∈ lw_privs, lw_okq q := by
  show ∀ q ∈ lw_privs_1 ++ (lw_privs_2 ++ (lw_privs_3)), lw_okq q
  exact List.forall_mem_append.mpr ⟨lw_r1, List.forall_mem_append.mpr ⟨lw_r2, lw_r3⟩⟩
def RX0 : String := "EelLocks$Acts"
def TX0 : u_T := fun k => match k with
  | 0 => ("EelLocks$Acts", "before", "[LEelLocks$State;", true)
  | 1 => ("EelLocks$Acts", "oldest", "I", false)
  | _ => ("EelLocks$Acts", "size", "I", false)
def tyX0 : Nat → FieldType := fun k => match k with
  | 0 => .array (.object "EelLocks$State")
  | 1 => .int
  | _ => .int
theorem nmX0 : ∀ a, a < 3 → ∀ b, b < 3 → a ≠ b → (TX0 a).2.1 ≠ (TX0 b).2.1 := by decide +kernel
theorem tyX0_ok : ∀ k, k < 3 → parseFieldDescriptor (TX0 k).2.2.1 = some (tyX0 k) := by decide +kernel
abbrev cX0_init : ByteArray := prog_2_method_1_code
def yX0_init : MethodName := ⟨RX0, "<init>", "()V"⟩
abbrev cX0_remember : ByteArray := prog_2_method_2_code
def yX0_remember : MethodName := ⟨RX0, "remember", "(LEelLocks$State;)V"⟩
abbrev cX0_takeBack : ByteArray := prog_2_method_3_code
def yX0_takeBack : MethodName := ⟨RX0, "takeBack", "(LEelLocks$State;)V"⟩
abbrev cX0_forgetAll : ByteArray := prog_2_method_4_code
def yX0_forgetAll : MethodName := ⟨RX0, "forgetAll", "()V"⟩
def RX1 : String := "EelLocks$Canal"
def TX1 : u_T := fun k => match k with
  | 0 => ("EelLocks$Canal", "lengths", "[I", true)
  | 1 => ("EelLocks$Canal", "weights", "[I", true)
  | 2 => ("EelLocks$Canal", "now", "LEelLocks$State;", true)
  | 3 => ("EelLocks$Canal", "trial", "LEelLocks$State;", true)
  | 4 => ("EelLocks$Canal", "locks", "I", false)
  | _ => ("EelLocks$Canal", "barges", "I", false)
def tyX1 : Nat → FieldType := fun k => match k with
  | 0 => .array .int
  | 1 => .array .int
  | 2 => .object "EelLocks$State"
  | 3 => .object "EelLocks$State"
  | 4 => .int
  | _ => .int
theorem nmX1 : ∀ a, a < 6 → ∀ b, b < 6 → a ≠ b → (TX1 a).2.1 ≠ (TX1 b).2.1 := by decide +kernel
theorem tyX1_ok : ∀ k, k < 6 → parseFieldDescriptor (TX1 k).2.2.1 = some (tyX1 k) := by decide +kernel
abbrev cX1_init : ByteArray := prog_3_method_1_code
def yX1_init : MethodName := ⟨RX1, "<init>", "()V"⟩
abbrev cX1_makeFrom : ByteArray := prog_3_method_2_code
def yX1_makeFrom : MethodName := ⟨RX1, "makeFrom", "(LEelLocks$Text;)V"⟩
abbrev cX1_hasBarge : ByteArray := prog_3_method_3_code
def yX1_hasBarge : MethodName := ⟨RX1, "hasBarge", "(I)Z"⟩
abbrev cX1_hasLock : ByteArray := prog_3_method_4_code
def yX1_hasLock : MethodName := ⟨RX1, "hasLock", "(I)Z"⟩
abbrev cX1_isPassed : ByteArray := prog_3_method_5_code
def yX1_isPassed : MethodName := ⟨RX1, "isPassed", "(I)Z"⟩
abbrev cX1_locksLeft : ByteArray := prog_3_method_6_code
def yX1_locksLeft : MethodName := ⟨RX1, "locksLeft", "()I"⟩
abbrev cX1_newTrial : ByteArray := prog_3_method_7_code
def yX1_newTrial : MethodName := ⟨RX1, "newTrial", "()LEelLocks$State;"⟩
abbrev cX1_atBasin : ByteArray := prog_3_method_8_code
def yX1_atBasin : MethodName := ⟨RX1, "atBasin", "()LEelLocks$State;"⟩
abbrev cX1_goOnTo : ByteArray := prog_3_method_9_code
def yX1_goOnTo : MethodName := ⟨RX1, "goOnTo", "(LEelLocks$State;I)V"⟩
abbrev cX1_goThroughNext : ByteArray := prog_3_method_10_code
def yX1_goThroughNext : MethodName := ⟨RX1, "goThroughNext", "(LEelLocks$State;)V"⟩
abbrev cX1_holdsTwo : ByteArray := prog_3_method_11_code
def yX1_holdsTwo : MethodName := ⟨RX1, "holdsTwo", "(LEelLocks$State;I)Z"⟩
abbrev cX1_isSecondFirst : ByteArray := prog_3_method_12_code
def yX1_isSecondFirst : MethodName := ⟨RX1, "isSecondFirst", "(LEelLocks$State;III)Z"⟩
abbrev cX1_mateAtNext : ByteArray := prog_3_method_13_code
def yX1_mateAtNext : MethodName := ⟨RX1, "mateAtNext", "(LEelLocks$State;I)I"⟩
def RX2 : String := "EelLocks$Guesses"
def TX2 : u_T := fun k => match k with
  | 0 => ("EelLocks$Guesses", "lossOfOne", "[I", true)
  | 1 => ("EelLocks$Guesses", "lossOfOther", "[I", true)
  | 2 => ("EelLocks$Guesses", "found", "I", false)
  | 3 => ("EelLocks$Guesses", "inAll", "I", false)
  | 4 => ("EelLocks$Guesses", "inNone", "I", false)
  | _ => ("EelLocks$Guesses", "firstRest", "I", false)
def tyX2 : Nat → FieldType := fun k => match k with
  | 0 => .array .int
  | 1 => .array .int
  | 2 => .int
  | 3 => .int
  | 4 => .int
  | _ => .int
theorem nmX2 : ∀ a, a < 6 → ∀ b, b < 6 → a ≠ b → (TX2 a).2.1 ≠ (TX2 b).2.1 := by decide +kernel
theorem tyX2_ok : ∀ k, k < 6 → parseFieldDescriptor (TX2 k).2.2.1 = some (tyX2 k) := by decide +kernel
abbrev cX2_init : ByteArray := prog_4_method_1_code
def yX2_init : MethodName := ⟨RX2, "<init>", "()V"⟩
abbrev cX2_findGivers : ByteArray := prog_4_method_2_code
def yX2_findGivers : MethodName := ⟨RX2, "findGivers", "(LEelLocks$Canal;II)V"⟩
abbrev cX2_comesOutSo : ByteArray := prog_4_method_3_code
def yX2_comesOutSo : MethodName := ⟨RX2, "comesOutSo", "(LEelLocks$Canal;III)Z"⟩
abbrev cX2_addGivers : ByteArray := prog_4_method_4_code
def yX2_addGivers : MethodName := ⟨RX2, "addGivers", "(LEelLocks$Canal;LEelLocks$State;II)V"⟩
abbrev cX2_findRests : ByteArray := prog_4_method_5_code
def yX2_findRests : MethodName := ⟨RX2, "findRests", "(LEelLocks$Canal;III)V"⟩
abbrev cX2_findLosses : ByteArray := prog_4_method_6_code
def yX2_findLosses : MethodName := ⟨RX2, "findLosses", "(LEelLocks$Canal;III)V"⟩
abbrev cX2_isAtRest : ByteArray := prog_4_method_7_code
def yX2_isAtRest : MethodName := ⟨RX2, "isAtRest", "(II)Z"⟩
abbrev cX2_asleepAbove : ByteArray := prog_4_method_8_code
def yX2_asleepAbove : MethodName := ⟨RX2, "asleepAbove", "(LEelLocks$Canal;III)I"⟩
abbrev cX2_isAtWith : ByteArray := prog_4_method_9_code
def yX2_isAtWith : MethodName := ⟨RX2, "isAtWith", "(LEelLocks$Canal;III)Z"⟩
abbrev cX2_isFirstIfAllGive : ByteArray := prog_4_method_10_code
def yX2_isFirstIfAllGive : MethodName := ⟨RX2, "isFirstIfAllGive", "(LEelLocks$Canal;II)Z"⟩
def RX3 : String := "EelLocks$Outlook"
def TX3 : u_T := fun k => match k with
  | 0 => ("EelLocks$Outlook", "order", "[I", true)
  | _ => ("EelLocks$Outlook", "figures", "[I", true)
def tyX3 : Nat → FieldType := fun k => match k with
  | 0 => .array .int
  | _ => .array .int
theorem nmX3 : ∀ a, a < 2 → ∀ b, b < 2 → a ≠ b → (TX3 a).2.1 ≠ (TX3 b).2.1 := by decide +kernel
theorem tyX3_ok : ∀ k, k < 2 → parseFieldDescriptor (TX3 k).2.2.1 = some (tyX3 k) := by decide +kernel
abbrev cX3_init : ByteArray := prog_5_method_1_code
def yX3_init : MethodName := ⟨RX3, "<init>", "()V"⟩
abbrev cX3_gainsOf : ByteArray := prog_5_method_2_code
def yX3_gainsOf : MethodName := ⟨RX3, "gainsOf", "(LEelLocks$Canal;I)I"⟩
abbrev cX3_matesOf : ByteArray := prog_5_method_3_code
def yX3_matesOf : MethodName := ⟨RX3, "matesOf", "(LEelLocks$Canal;I)I"⟩
abbrev cX3_firstOrder : ByteArray := prog_5_method_4_code
def yX3_firstOrder : MethodName := ⟨RX3, "firstOrder", "(LEelLocks$Canal;II)I"⟩
abbrev cX3_makeNextOrder : ByteArray := prog_5_method_5_code
def yX3_makeNextOrder : MethodName := ⟨RX3, "makeNextOrder", "(I)V"⟩
abbrev cX3_exchange : ByteArray := prog_5_method_6_code
def yX3_exchange : MethodName := ⟨RX3, "exchange", "(II)V"⟩
abbrev cX3_suits : ByteArray := prog_5_method_7_code
def yX3_suits : MethodName := ⟨RX3, "suits", "(LEelLocks$Canal;LEelLocks$State;II)Z"⟩
abbrev cX3_leastLoads : ByteArray := prog_5_method_8_code
def yX3_leastLoads : MethodName := ⟨RX3, "leastLoads", "(LEelLocks$Canal;II)I"⟩
abbrev cX3_howManyLoads : ByteArray := prog_5_method_9_code
def yX3_howManyLoads : MethodName := ⟨RX3, "howManyLoads", "(I)I"⟩
abbrev cX3_canGive : ByteArray := prog_5_method_10_code
def yX3_canGive : MethodName := ⟨RX3, "canGive", "(LEelLocks$Canal;I)Z"⟩
abbrev cX3_canGiveBoth : ByteArray := prog_5_method_11_code
def yX3_canGiveBoth : MethodName := ⟨RX3, "canGiveBoth", "(LEelLocks$Canal;II)Z"⟩
abbrev cX3_suitsWith : ByteArray := prog_5_method_12_code
def yX3_suitsWith : MethodName := ⟨RX3, "suitsWith", "(LEelLocks$Canal;IIII)Z"⟩
abbrev cX3_spread : ByteArray := prog_5_method_13_code
def yX3_spread : MethodName := ⟨RX3, "spread", "(II)Z"⟩
abbrev cX3_areAllBarges : ByteArray := prog_5_method_14_code
def yX3_areAllBarges : MethodName := ⟨RX3, "areAllBarges", "(LEelLocks$Canal;I)Z"⟩
abbrev cX3_firstMisplaced : ByteArray := prog_5_method_15_code
def yX3_firstMisplaced : MethodName := ⟨RX3, "firstMisplaced", "(LEelLocks$Canal;I)I"⟩
abbrev cX3_shareAbove : ByteArray := prog_5_method_16_code
def yX3_shareAbove : MethodName := ⟨RX3, "shareAbove", "(LEelLocks$Canal;I)I"⟩
abbrev cX3_lastHourOf : ByteArray := prog_5_method_17_code
def yX3_lastHourOf : MethodName := ⟨RX3, "lastHourOf", "(LEelLocks$Canal;I)I"⟩
def RX4 : String := "EelLocks$Slots"
def TX4 : u_T := fun k => match k with
  | 0 => ("EelLocks$Slots", "states", "[LEelLocks$State;", true)
  | _ => ("EelLocks$Slots", "isKept", "[Z", true)
def tyX4 : Nat → FieldType := fun k => match k with
  | 0 => .array (.object "EelLocks$State")
  | _ => .array .boolean
theorem nmX4 : ∀ a, a < 2 → ∀ b, b < 2 → a ≠ b → (TX4 a).2.1 ≠ (TX4 b).2.1 := by decide +kernel
theorem tyX4_ok : ∀ k, k < 2 → parseFieldDescriptor (TX4 k).2.2.1 = some (tyX4 k) := by decide +kernel
abbrev cX4_init : ByteArray := prog_6_method_1_code
def yX4_init : MethodName := ⟨RX4, "<init>", "()V"⟩
abbrev cX4_put : ByteArray := prog_6_method_2_code
def yX4_put : MethodName := ⟨RX4, "put", "(ILEelLocks$State;)V"⟩
abbrev cX4_forgetAll : ByteArray := prog_6_method_3_code
def yX4_forgetAll : MethodName := ⟨RX4, "forgetAll", "()V"⟩
def RX5 : String := "EelLocks$State"
def TX5 : u_T := fun k => match k with
  | 0 => ("EelLocks$State", "row", "[I", true)
  | 1 => ("EelLocks$State", "hours", "[I", true)
  | 2 => ("EelLocks$State", "tea", "[I", true)
  | 3 => ("EelLocks$State", "laws", "[I", true)
  | 4 => ("EelLocks$State", "given", "[I", true)
  | 5 => ("EelLocks$State", "size", "I", false)
  | _ => ("EelLocks$State", "passed", "I", false)
def tyX5 : Nat → FieldType := fun k => match k with
  | 0 => .array .int
  | 1 => .array .int
  | 2 => .array .int
  | 3 => .array .int
  | 4 => .array .int
  | 5 => .int
  | _ => .int
theorem nmX5 : ∀ a, a < 7 → ∀ b, b < 7 → a ≠ b → (TX5 a).2.1 ≠ (TX5 b).2.1 := by decide +kernel
theorem tyX5_ok : ∀ k, k < 7 → parseFieldDescriptor (TX5 k).2.2.1 = some (tyX5 k) := by decide +kernel
abbrev cX5_init : ByteArray := prog_7_method_1_code
def yX5_init : MethodName := ⟨RX5, "<init>", "()V"⟩
abbrev cX5_copyFrom : ByteArray := prog_7_method_2_code
def yX5_copyFrom : MethodName := ⟨RX5, "copyFrom", "(LEelLocks$State;)V"⟩
abbrev cX5_clearAll : ByteArray := prog_7_method_3_code
def yX5_clearAll : MethodName := ⟨RX5, "clearAll", "()V"⟩
abbrev cX5_clearHours : ByteArray := prog_7_method_4_code
def yX5_clearHours : MethodName := ⟨RX5, "clearHours", "()V"⟩
abbrev cX5_placeOf : ByteArray := prog_7_method_5_code
def yX5_placeOf : MethodName := ⟨RX5, "placeOf", "(I)I"⟩
abbrev cX5_isAt : ByteArray := prog_7_method_6_code
def yX5_isAt : MethodName := ⟨RX5, "isAt", "(II)Z"⟩
abbrev cX5_turn : ByteArray := prog_7_method_7_code
def yX5_turn : MethodName := ⟨RX5, "turn", "(I)V"⟩
abbrev cX5_figures : ByteArray := prog_7_method_8_code
def yX5_figures : MethodName := ⟨RX5, "figures", "()I"⟩
abbrev cX5_greatestHour : ByteArray := prog_7_method_9_code
def yX5_greatestHour : MethodName := ⟨RX5, "greatestHour", "()I"⟩
abbrev cX5_loadsOf : ByteArray := prog_7_method_10_code
def yX5_loadsOf : MethodName := ⟨RX5, "loadsOf", "(II)I"⟩
abbrev cX5_addLoads : ByteArray := prog_7_method_11_code
def yX5_addLoads : MethodName := ⟨RX5, "addLoads", "(III)V"⟩
abbrev cX5_loadsAt : ByteArray := prog_7_method_12_code
def yX5_loadsAt : MethodName := ⟨RX5, "loadsAt", "(I)I"⟩
def RX6 : String := "EelLocks$Text"
def TX6 : u_T := fun k => match k with
  | 0 => ("EelLocks$Text", "letters", "[I", true)
  | _ => ("EelLocks$Text", "length", "I", false)
def tyX6 : Nat → FieldType := fun k => match k with
  | 0 => .array .int
  | _ => .int
theorem nmX6 : ∀ a, a < 2 → ∀ b, b < 2 → a ≠ b → (TX6 a).2.1 ≠ (TX6 b).2.1 := by decide +kernel
theorem tyX6_ok : ∀ k, k < 2 → parseFieldDescriptor (TX6 k).2.2.1 = some (tyX6 k) := by decide +kernel
abbrev cX6_init : ByteArray := prog_8_method_1_code
def yX6_init : MethodName := ⟨RX6, "<init>", "()V"⟩
abbrev cX6_append : ByteArray := prog_8_method_2_code
def yX6_append : MethodName := ⟨RX6, "append", "(I)V"⟩
abbrev cX6_faultPlace : ByteArray := prog_8_method_3_code
def yX6_faultPlace : MethodName := ⟨RX6, "faultPlace", "()I"⟩
abbrev cX6_dueBehind : ByteArray := prog_8_method_4_code
def yX6_dueBehind : MethodName := ⟨RX6, "dueBehind", "(II)I"⟩
abbrev cX6_figureAt : ByteArray := prog_8_method_5_code
def yX6_figureAt : MethodName := ⟨RX6, "figureAt", "(I)I"⟩
def RX7 : String := "EelLocks"
def TX7 : u_T := fun k => match k with
  | 0 => ("EelLocks", "text", "LEelLocks$Text;", true)
  | 1 => ("EelLocks", "way", "LEelLocks$Canal;", true)
  | 2 => ("EelLocks", "acts", "LEelLocks$Acts;", true)
  | 3 => ("EelLocks", "slots", "LEelLocks$Slots;", true)
  | 4 => ("EelLocks", "outlook", "LEelLocks$Outlook;", true)
  | 5 => ("EelLocks", "guesses", "LEelLocks$Guesses;", true)
  | _ => ("EelLocks", "seedNow", "J", false)
def tyX7 : Nat → FieldType := fun k => match k with
  | 0 => .object "EelLocks$Text"
  | 1 => .object "EelLocks$Canal"
  | 2 => .object "EelLocks$Acts"
  | 3 => .object "EelLocks$Slots"
  | 4 => .object "EelLocks$Outlook"
  | 5 => .object "EelLocks$Guesses"
  | _ => .long
theorem nmX7 : ∀ a, a < 7 → ∀ b, b < 7 → a ≠ b → (TX7 a).2.1 ≠ (TX7 b).2.1 := by decide +kernel
theorem tyX7_ok : ∀ k, k < 7 → parseFieldDescriptor (TX7 k).2.2.1 = some (tyX7 k) := by decide +kernel
abbrev cX7_init : ByteArray := prog_1_method_1_code
def yX7_init : MethodName := ⟨RX7, "<init>", "()V"⟩
abbrev cX7_write : ByteArray := prog_1_method_2_code
def yX7_write : MethodName := ⟨RX7, "write", "(I)I"⟩
abbrev cX7_wipe : ByteArray := prog_1_method_3_code
def yX7_wipe : MethodName := ⟨RX7, "wipe", "()I"⟩
abbrev cX7_fault : ByteArray := prog_1_method_4_code
def yX7_fault : MethodName := ⟨RX7, "fault", "()I"⟩
abbrev cX7_canal : ByteArray := prog_1_method_5_code
def yX7_canal : MethodName := ⟨RX7, "canal", "()I"⟩
abbrev cX7_barge : ByteArray := prog_1_method_6_code
def yX7_barge : MethodName := ⟨RX7, "barge", "(II)I"⟩
abbrev cX7_lock : ByteArray := prog_1_method_7_code
def yX7_lock : MethodName := ⟨RX7, "lock", "(II)I"⟩
abbrev cX7_pass : ByteArray := prog_1_method_8_code
def yX7_pass : MethodName := ⟨RX7, "pass", "()I"⟩
abbrev cX7_give : ByteArray := prog_1_method_9_code
def yX7_give : MethodName := ⟨RX7, "give", "(II)I"⟩
abbrev cX7_letBy : ByteArray := prog_1_method_10_code
def yX7_letBy : MethodName := ⟨RX7, "letBy", "(I)I"⟩
abbrev cX7_learn : ByteArray := prog_1_method_11_code
def yX7_learn : MethodName := ⟨RX7, "learn", "(II)I"⟩
abbrev cX7_undo : ByteArray := prog_1_method_12_code
def yX7_undo : MethodName := ⟨RX7, "undo", "()I"⟩
abbrev cX7_basin : ByteArray := prog_1_method_13_code
def yX7_basin : MethodName := ⟨RX7, "basin", "()I"⟩
abbrev cX7_hour : ByteArray := prog_1_method_14_code
def yX7_hour : MethodName := ⟨RX7, "hour", "(I)I"⟩
abbrev cX7_gains : ByteArray := prog_1_method_15_code
def yX7_gains : MethodName := ⟨RX7, "gains", "(I)I"⟩
abbrev cX7_mates : ByteArray := prog_1_method_16_code
def yX7_mates : MethodName := ⟨RX7, "mates", "(I)I"⟩
abbrev cX7_first : ByteArray := prog_1_method_17_code
def yX7_first : MethodName := ⟨RX7, "first", "(II)I"⟩
abbrev cX7_tea : ByteArray := prog_1_method_18_code
def yX7_tea : MethodName := ⟨RX7, "tea", "(IIZ)I"⟩
abbrev cX7_judge : ByteArray := prog_1_method_19_code
def yX7_judge : MethodName := ⟨RX7, "judge", "(II)I"⟩
abbrev cX7_share : ByteArray := prog_1_method_20_code
def yX7_share : MethodName := ⟨RX7, "share", "(IZ)I"⟩
abbrev cX7_gave : ByteArray := prog_1_method_21_code
def yX7_gave : MethodName := ⟨RX7, "gave", "(III)I"⟩
abbrev cX7_rests : ByteArray := prog_1_method_22_code
def yX7_rests : MethodName := ⟨RX7, "rests", "(IIII)I"⟩
abbrev cX7_asleep : ByteArray := prog_1_method_23_code
def yX7_asleep : MethodName := ⟨RX7, "asleep", "(IIIZ)I"⟩
abbrev cX7_seed : ByteArray := prog_1_method_24_code
def yX7_seed : MethodName := ⟨RX7, "seed", "(J)J"⟩
abbrev cX7_days : ByteArray := prog_1_method_25_code
def yX7_days : MethodName := ⟨RX7, "days", "(II)I"⟩
abbrev cX7_keep : ByteArray := prog_1_method_26_code
def yX7_keep : MethodName := ⟨RX7, "keep", "(I)I"⟩
abbrev cX7_again : ByteArray := prog_1_method_27_code
def yX7_again : MethodName := ⟨RX7, "again", "(I)I"⟩
abbrev cX7_count : ByteArray := prog_1_method_28_code
def yX7_count : MethodName := ⟨RX7, "count", "(I)I"⟩
abbrev cX7_refusalOfTwo : ByteArray := prog_1_method_29_code
def yX7_refusalOfTwo : MethodName := ⟨RX7, "refusalOfTwo", "(II)I"⟩
abbrev cX7_sum : ByteArray := prog_1_method_30_code
def yX7_sum : MethodName := ⟨RX7, "sum", "([II)I"⟩
abbrev cX7_power : ByteArray := prog_1_method_31_code
def yX7_power : MethodName := ⟨RX7, "power", "(II)I"⟩
abbrev cX7_tellFraction : ByteArray := prog_1_method_32_code
def yX7_tellFraction : MethodName := ⟨RX7, "tellFraction", "(IIZ)I"⟩
abbrev cX7_greatestDivisor : ByteArray := prog_1_method_33_code
def yX7_greatestDivisor : MethodName := ⟨RX7, "greatestDivisor", "(II)I"⟩
def RX8 : String := "EelLocksModel"
def TX8 : u_T := fun k => match k with
  | 0 => ("EelLocksModel", "locks", "I", false)
  | 1 => ("EelLocksModel", "barges", "I", false)
  | 2 => ("EelLocksModel", "longs", "[I", true)
  | 3 => ("EelLocksModel", "heavy", "[I", true)
  | 4 => ("EelLocksModel", "now", "[I", true)
  | 5 => ("EelLocksModel", "readLaw", "[I", true)
  | 6 => ("EelLocksModel", "readBarge", "[I", true)
  | 7 => ("EelLocksModel", "readLocks", "I", false)
  | 8 => ("EelLocksModel", "readBarges", "I", false)
  | 9 => ("EelLocksModel", "text", "[I", true)
  | 10 => ("EelLocksModel", "length", "I", false)
  | 11 => ("EelLocksModel", "at", "I", false)
  | 12 => ("EelLocksModel", "faultAt", "I", false)
  | 13 => ("EelLocksModel", "with", "[I", true)
  | 14 => ("EelLocksModel", "acts", "I", false)
  | 15 => ("EelLocksModel", "next", "I", false)
  | 16 => ("EelLocksModel", "row", "[I", true)
  | 17 => ("EelLocksModel", "greatests", "[I", true)
  | 18 => ("EelLocksModel", "ones16", "[I", true)
  | 19 => ("EelLocksModel", "others16", "[I", true)
  | 20 => ("EelLocksModel", "seed", "J", false)
  | 21 => ("EelLocksModel", "isKept", "[Z", true)
  | _ => ("EelLocksModel", "kept", "[I", true)
def tyX8 : Nat → FieldType := fun k => match k with
  | 0 => .int
  | 1 => .int
  | 2 => .array .int
  | 3 => .array .int
  | 4 => .array .int
  | 5 => .array .int
  | 6 => .array .int
  | 7 => .int
  | 8 => .int
  | 9 => .array .int
  | 10 => .int
  | 11 => .int
  | 12 => .int
  | 13 => .array .int
  | 14 => .int
  | 15 => .int
  | 16 => .array .int
  | 17 => .array .int
  | 18 => .array .int
  | 19 => .array .int
  | 20 => .long
  | 21 => .array .boolean
  | _ => .array .int
theorem nmX8 : ∀ a, a < 23 → ∀ b, b < 23 → a ≠ b → (TX8 a).2.1 ≠ (TX8 b).2.1 := by decide +kernel
theorem tyX8_ok : ∀ k, k < 23 → parseFieldDescriptor (TX8 k).2.2.1 = some (tyX8 k) := by decide +kernel
abbrev cX8_init : ByteArray := prog_10_method_1_code
def yX8_init : MethodName := ⟨RX8, "<init>", "()V"⟩
abbrev cX8_in : ByteArray := prog_10_method_3_code
def yX8_in : MethodName := ⟨RX8, "in", "(JJJ)Z"⟩
abbrev cX8_has : ByteArray := prog_10_method_4_code
def yX8_has : MethodName := ⟨RX8, "has", "(II)Z"⟩
abbrev cX8_ones : ByteArray := prog_10_method_5_code
def yX8_ones : MethodName := ⟨RX8, "ones", "(I)I"⟩
abbrev cX8_write : ByteArray := prog_10_method_6_code
def yX8_write : MethodName := ⟨RX8, "write", "(I)I"⟩
abbrev cX8_wipe : ByteArray := prog_10_method_7_code
def yX8_wipe : MethodName := ⟨RX8, "wipe", "()I"⟩
abbrev cX8_figure : ByteArray := prog_10_method_8_code
def yX8_figure : MethodName := ⟨RX8, "figure", "(II)I"⟩
abbrev cX8_readText : ByteArray := prog_10_method_9_code
def yX8_readText : MethodName := ⟨RX8, "readText", "()I"⟩
abbrev cX8_fault : ByteArray := prog_10_method_10_code
def yX8_fault : MethodName := ⟨RX8, "fault", "()I"⟩
abbrev cX8_canal : ByteArray := prog_10_method_11_code
def yX8_canal : MethodName := ⟨RX8, "canal", "()I"⟩
abbrev cX8_isBarge : ByteArray := prog_10_method_12_code
def yX8_isBarge : MethodName := ⟨RX8, "isBarge", "(I)Z"⟩
abbrev cX8_isLock : ByteArray := prog_10_method_13_code
def yX8_isLock : MethodName := ⟨RX8, "isLock", "(I)Z"⟩
abbrev cX8_placeOf : ByteArray := prog_10_method_14_code
def yX8_placeOf : MethodName := ⟨RX8, "placeOf", "(III)I"⟩
abbrev cX8_barge : ByteArray := prog_10_method_15_code
def yX8_barge : MethodName := ⟨RX8, "barge", "(II)I"⟩
abbrev cX8_givenAt : ByteArray := prog_10_method_16_code
def yX8_givenAt : MethodName := ⟨RX8, "givenAt", "(I)I"⟩
abbrev cX8_lock : ByteArray := prog_10_method_17_code
def yX8_lock : MethodName := ⟨RX8, "lock", "(II)I"⟩
abbrev cX8_isChanged : ByteArray := prog_10_method_18_code
def yX8_isChanged : MethodName := ⟨RX8, "isChanged", "(IIII)Z"⟩
abbrev cX8_more : ByteArray := prog_10_method_19_code
def yX8_more : MethodName := ⟨RX8, "more", "(II)I"⟩
abbrev cX8_passOn : ByteArray := prog_10_method_20_code
def yX8_passOn : MethodName := ⟨RX8, "passOn", "(II)V"⟩
abbrev cX8_figuresOf : ByteArray := prog_10_method_21_code
def yX8_figuresOf : MethodName := ⟨RX8, "figuresOf", "(II)I"⟩
abbrev cX8_keepAct : ByteArray := prog_10_method_22_code
def yX8_keepAct : MethodName := ⟨RX8, "keepAct", "()V"⟩
abbrev cX8_pass : ByteArray := prog_10_method_23_code
def yX8_pass : MethodName := ⟨RX8, "pass", "()I"⟩
abbrev cX8_give : ByteArray := prog_10_method_24_code
def yX8_give : MethodName := ⟨RX8, "give", "(II)I"⟩
abbrev cX8_letBy : ByteArray := prog_10_method_25_code
def yX8_letBy : MethodName := ⟨RX8, "letBy", "(I)I"⟩
abbrev cX8_learn : ByteArray := prog_10_method_26_code
def yX8_learn : MethodName := ⟨RX8, "learn", "(II)I"⟩
abbrev cX8_undo : ByteArray := prog_10_method_27_code
def yX8_undo : MethodName := ⟨RX8, "undo", "()I"⟩
abbrev cX8_layTrial : ByteArray := prog_10_method_28_code
def yX8_layTrial : MethodName := ⟨RX8, "layTrial", "()V"⟩
abbrev cX8_passAll : ByteArray := prog_10_method_29_code
def yX8_passAll : MethodName := ⟨RX8, "passAll", "(I)V"⟩
abbrev cX8_layBasin : ByteArray := prog_10_method_30_code
def yX8_layBasin : MethodName := ⟨RX8, "layBasin", "()V"⟩
abbrev cX8_basin : ByteArray := prog_10_method_31_code
def yX8_basin : MethodName := ⟨RX8, "basin", "()I"⟩
abbrev cX8_hour : ByteArray := prog_10_method_32_code
def yX8_hour : MethodName := ⟨RX8, "hour", "(I)I"⟩
abbrev cX8_gains : ByteArray := prog_10_method_33_code
def yX8_gains : MethodName := ⟨RX8, "gains", "(I)I"⟩
abbrev cX8_mates : ByteArray := prog_10_method_34_code
def yX8_mates : MethodName := ⟨RX8, "mates", "(I)I"⟩
abbrev cX8_isSo : ByteArray := prog_10_method_35_code
def yX8_isSo : MethodName := ⟨RX8, "isSo", "(II)Z"⟩
abbrev cX8_factorial : ByteArray := prog_10_method_36_code
def yX8_factorial : MethodName := ⟨RX8, "factorial", "(I)I"⟩
abbrev cX8_layOrder : ByteArray := prog_10_method_37_code
def yX8_layOrder : MethodName := ⟨RX8, "layOrder", "(I)V"⟩
abbrev cX8_first : ByteArray := prog_10_method_38_code
def yX8_first : MethodName := ⟨RX8, "first", "(II)I"⟩
abbrev cX8_giveTrial : ByteArray := prog_10_method_39_code
def yX8_giveTrial : MethodName := ⟨RX8, "giveTrial", "(II)Z"⟩
abbrev cX8_tea : ByteArray := prog_10_method_40_code
def yX8_tea : MethodName := ⟨RX8, "tea", "(IIZ)I"⟩
abbrev cX8_tenTo : ByteArray := prog_10_method_41_code
def yX8_tenTo : MethodName := ⟨RX8, "tenTo", "(I)I"⟩
abbrev cX8_judge : ByteArray := prog_10_method_42_code
def yX8_judge : MethodName := ⟨RX8, "judge", "(II)I"⟩
abbrev cX8_greatest : ByteArray := prog_10_method_43_code
def yX8_greatest : MethodName := ⟨RX8, "greatest", "(II)I"⟩
abbrev cX8_hoursBy : ByteArray := prog_10_method_44_code
def yX8_hoursBy : MethodName := ⟨RX8, "hoursBy", "(I)I"⟩
abbrev cX8_common : ByteArray := prog_10_method_45_code
def yX8_common : MethodName := ⟨RX8, "common", "(II)I"⟩
abbrev cX8_share : ByteArray := prog_10_method_46_code
def yX8_share : MethodName := ⟨RX8, "share", "(IZ)I"⟩
abbrev cX8_isOrder : ByteArray := prog_10_method_47_code
def yX8_isOrder : MethodName := ⟨RX8, "isOrder", "(I)Z"⟩
abbrev cX8_comesSo : ByteArray := prog_10_method_48_code
def yX8_comesSo : MethodName := ⟨RX8, "comesSo", "(III)Z"⟩
abbrev cX8_gave : ByteArray := prog_10_method_49_code
def yX8_gave : MethodName := ⟨RX8, "gave", "(III)I"⟩
abbrev cX8_layLosses : ByteArray := prog_10_method_50_code
def yX8_layLosses : MethodName := ⟨RX8, "layLosses", "(III)V"⟩
abbrev cX8_isRest : ByteArray := prog_10_method_51_code
def yX8_isRest : MethodName := ⟨RX8, "isRest", "(I)Z"⟩
abbrev cX8_rests : ByteArray := prog_10_method_52_code
def yX8_rests : MethodName := ⟨RX8, "rests", "(IIII)I"⟩
abbrev cX8_asleep : ByteArray := prog_10_method_53_code
def yX8_asleep : MethodName := ⟨RX8, "asleep", "(IIIZ)I"⟩
abbrev cX8_seed : ByteArray := prog_10_method_54_code
def yX8_seed : MethodName := ⟨RX8, "seed", "(J)J"⟩
abbrev cX8_days : ByteArray := prog_10_method_55_code
def yX8_days : MethodName := ⟨RX8, "days", "(II)I"⟩
abbrev cX8_isFirst : ByteArray := prog_10_method_56_code
def yX8_isFirst : MethodName := ⟨RX8, "isFirst", "(I)Z"⟩
abbrev cX8_keep : ByteArray := prog_10_method_57_code
def yX8_keep : MethodName := ⟨RX8, "keep", "(I)I"⟩
abbrev cX8_again : ByteArray := prog_10_method_58_code
def yX8_again : MethodName := ⟨RX8, "again", "(I)I"⟩
abbrev cX8_sumOf : ByteArray := prog_10_method_59_code
def yX8_sumOf : MethodName := ⟨RX8, "sumOf", "(II)I"⟩
abbrev cX8_count : ByteArray := prog_10_method_60_code
def yX8_count : MethodName := ⟨RX8, "count", "(I)I"⟩
def RJ6 : String := "java/lang/Integer"
def TJ6 : u_T := fun k => match k with
  | _ => ("", "", "", false)
def tyJ6 : Nat → FieldType := fun k => match k with
  | _ => .int
theorem nmJ6 : ∀ a, a < 0 → ∀ b, b < 0 → a ≠ b → (TJ6 a).2.1 ≠ (TJ6 b).2.1 := by decide +kernel
theorem tyJ6_ok : ∀ k, k < 0 → parseFieldDescriptor (TJ6 k).2.2.1 = some (tyJ6 k) := by decide +kernel
abbrev cJ6_bitCount_0f7a4 : ByteArray := prog_11_method_49_code
def yJ6_bitCount_0f7a4 : MethodName := ⟨RJ6, "bitCount", "(I)I"⟩
def RJ9 : String := "java/lang/Math"
def TJ9 : u_T := fun k => match k with
  | _ => ("", "", "", false)
def tyJ9 : Nat → FieldType := fun k => match k with
  | _ => .int
theorem nmJ9 : ∀ a, a < 0 → ∀ b, b < 0 → a ≠ b → (TJ9 a).2.1 ≠ (TJ9 b).2.1 := by decide +kernel
theorem tyJ9_ok : ∀ k, k < 0 → parseFieldDescriptor (TJ9 k).2.2.1 = some (tyJ9 k) := by decide +kernel
abbrev cJ9_abs_0f7a4 : ByteArray := prog_12_method_59_code
def yJ9_abs_0f7a4 : MethodName := ⟨RJ9, "abs", "(I)I"⟩
abbrev cJ9_max_7cf53 : ByteArray := prog_12_method_65_code
def yJ9_max_7cf53 : MethodName := ⟨RJ9, "max", "(II)I"⟩
def RJ10 : String := "java/lang/System"
def TJ10 : u_T := fun k => match k with
  | _ => ("", "", "", false)
def tyJ10 : Nat → FieldType := fun k => match k with
  | _ => .int
theorem nmJ10 : ∀ a, a < 0 → ∀ b, b < 0 → a ≠ b → (TJ10 a).2.1 ≠ (TJ10 b).2.1 := by decide +kernel
theorem tyJ10_ok : ∀ k, k < 0 → parseFieldDescriptor (TJ10 k).2.2.1 = some (tyJ10 k) := by decide +kernel
def RL : String := "EelLocksLaw"
abbrev cL_law : ByteArray := code
def yL_law : MethodName := ⟨RL, "law", "([I)Z"⟩
end
section
def goodW0 (w : Cond) : Bool := match w with
  | .methodLinkNest _ _ _ _ => true
  | .fieldLinkNest _ _ _ _ _ _ => true
  | w => goodWord w
theorem mem_pl {big ws : List Cond} (ps : List Nat) (h : ws = ps.filterMap (fun i => big[i]?)) : ∀ w ∈ ws, w ∈ big := by
  intro w hw
  rw [h] at hw
  obtain ⟨i, -, hi⟩ := List.mem_filterMap.mp hw
  exact List.mem_of_getElem? hi
theorem tS_yX7_refusalOfTwo : Cond.selects RX7 yX7_refusalOfTwo yX7_refusalOfTwo ∈ lw_tbl := List.mem_of_getElem? (i := 0) (by decide +kernel)
theorem tS_yX3_suits : Cond.selects RX3 yX3_suits yX3_suits ∈ lw_tbl := List.mem_of_getElem? (i := 1) (by decide +kernel)
theorem tS_yX3_makeNextOrder : Cond.selects RX3 yX3_makeNextOrder yX3_makeNextOrder ∈ lw_tbl := List.mem_of_getElem? (i := 2) (by decide +kernel)
theorem tS_yX3_exchange : Cond.selects RX3 yX3_exchange yX3_exchange ∈ lw_tbl := List.mem_of_getElem? (i := 3) (by decide +kernel)
theorem tS_yX3_suitsWith : Cond.selects RX3 yX3_suitsWith yX3_suitsWith ∈ lw_tbl := List.mem_of_getElem? (i := 4) (by decide +kernel)
theorem tS_yX3_canGive : Cond.selects RX3 yX3_canGive yX3_canGive ∈ lw_tbl := List.mem_of_getElem? (i := 5) (by decide +kernel)
theorem tS_yX3_canGiveBoth : Cond.selects RX3 yX3_canGiveBoth yX3_canGiveBoth ∈ lw_tbl := List.mem_of_getElem? (i := 6) (by decide +kernel)
theorem tS_yX3_lastHourOf : Cond.selects RX3 yX3_lastHourOf yX3_lastHourOf ∈ lw_tbl := List.mem_of_getElem? (i := 7) (by decide +kernel)
theorem tS_yX2_comesOutSo : Cond.selects RX2 yX2_comesOutSo yX2_comesOutSo ∈ lw_tbl := List.mem_of_getElem? (i := 8) (by decide +kernel)
theorem tS_yX2_addGivers : Cond.selects RX2 yX2_addGivers yX2_addGivers ∈ lw_tbl := List.mem_of_getElem? (i := 9) (by decide +kernel)
theorem tS_yX2_findLosses : Cond.selects RX2 yX2_findLosses yX2_findLosses ∈ lw_tbl := List.mem_of_getElem? (i := 10) (by decide +kernel)
theorem tS_yX2_isAtRest : Cond.selects RX2 yX2_isAtRest yX2_isAtRest ∈ lw_tbl := List.mem_of_getElem? (i := 11) (by decide +kernel)
theorem tS_yX2_isAtWith : Cond.selects RX2 yX2_isAtWith yX2_isAtWith ∈ lw_tbl := List.mem_of_getElem? (i := 12) (by decide +kernel)
theorem tS_yX8_readText : Cond.selects RX8 yX8_readText yX8_readText ∈ lw_tbl := List.mem_of_getElem? (i := 13) (by decide +kernel)
theorem tS_yX8_figure : Cond.selects RX8 yX8_figure yX8_figure ∈ lw_tbl := List.mem_of_getElem? (i := 14) (by decide +kernel)
theorem tS_yX8_isBarge : Cond.selects RX8 yX8_isBarge yX8_isBarge ∈ lw_tbl := List.mem_of_getElem? (i := 15) (by decide +kernel)
theorem tS_yX8_placeOf : Cond.selects RX8 yX8_placeOf yX8_placeOf ∈ lw_tbl := List.mem_of_getElem? (i := 16) (by decide +kernel)
theorem tS_yX8_isLock : Cond.selects RX8 yX8_isLock yX8_isLock ∈ lw_tbl := List.mem_of_getElem? (i := 17) (by decide +kernel)
theorem tS_yX8_givenAt : Cond.selects RX8 yX8_givenAt yX8_givenAt ∈ lw_tbl := List.mem_of_getElem? (i := 18) (by decide +kernel)
theorem tS_yX8_keepAct : Cond.selects RX8 yX8_keepAct yX8_keepAct ∈ lw_tbl := List.mem_of_getElem? (i := 19) (by decide +kernel)
theorem tS_yX8_passOn : Cond.selects RX8 yX8_passOn yX8_passOn ∈ lw_tbl := List.mem_of_getElem? (i := 20) (by decide +kernel)
theorem tS_yX8_isChanged : Cond.selects RX8 yX8_isChanged yX8_isChanged ∈ lw_tbl := List.mem_of_getElem? (i := 21) (by decide +kernel)
theorem tS_yX8_figuresOf : Cond.selects RX8 yX8_figuresOf yX8_figuresOf ∈ lw_tbl := List.mem_of_getElem? (i := 22) (by decide +kernel)
theorem tS_yX8_layBasin : Cond.selects RX8 yX8_layBasin yX8_layBasin ∈ lw_tbl := List.mem_of_getElem? (i := 23) (by decide +kernel)
theorem tS_yX8_layTrial : Cond.selects RX8 yX8_layTrial yX8_layTrial ∈ lw_tbl := List.mem_of_getElem? (i := 24) (by decide +kernel)
theorem tS_yX8_passAll : Cond.selects RX8 yX8_passAll yX8_passAll ∈ lw_tbl := List.mem_of_getElem? (i := 25) (by decide +kernel)
theorem tS_yX8_layOrder : Cond.selects RX8 yX8_layOrder yX8_layOrder ∈ lw_tbl := List.mem_of_getElem? (i := 26) (by decide +kernel)
theorem tS_yX8_isSo : Cond.selects RX8 yX8_isSo yX8_isSo ∈ lw_tbl := List.mem_of_getElem? (i := 27) (by decide +kernel)
theorem tS_yX8_giveTrial : Cond.selects RX8 yX8_giveTrial yX8_giveTrial ∈ lw_tbl := List.mem_of_getElem? (i := 28) (by decide +kernel)
theorem tS_yX8_hoursBy : Cond.selects RX8 yX8_hoursBy yX8_hoursBy ∈ lw_tbl := List.mem_of_getElem? (i := 29) (by decide +kernel)
theorem tS_yX8_greatest : Cond.selects RX8 yX8_greatest yX8_greatest ∈ lw_tbl := List.mem_of_getElem? (i := 30) (by decide +kernel)
theorem tS_yX8_isOrder : Cond.selects RX8 yX8_isOrder yX8_isOrder ∈ lw_tbl := List.mem_of_getElem? (i := 31) (by decide +kernel)
theorem tS_yX8_comesSo : Cond.selects RX8 yX8_comesSo yX8_comesSo ∈ lw_tbl := List.mem_of_getElem? (i := 32) (by decide +kernel)
theorem tS_yX8_layLosses : Cond.selects RX8 yX8_layLosses yX8_layLosses ∈ lw_tbl := List.mem_of_getElem? (i := 33) (by decide +kernel)
theorem tS_yX8_isRest : Cond.selects RX8 yX8_isRest yX8_isRest ∈ lw_tbl := List.mem_of_getElem? (i := 34) (by decide +kernel)
theorem tS_yX8_isFirst : Cond.selects RX8 yX8_isFirst yX8_isFirst ∈ lw_tbl := List.mem_of_getElem? (i := 35) (by decide +kernel)
theorem tS_yX8_sumOf : Cond.selects RX8 yX8_sumOf yX8_sumOf ∈ lw_tbl := List.mem_of_getElem? (i := 36) (by decide +kernel)
theorem tN_RL : Cond.initialized RL ∈ lw_tbl := List.mem_of_getElem? (i := 37) (by decide +kernel)
theorem tN_RX7 : Cond.initialized RX7 ∈ lw_tbl := List.mem_of_getElem? (i := 38) (by decide +kernel)
theorem tN_RX6 : Cond.initialized RX6 ∈ lw_tbl := List.mem_of_getElem? (i := 39) (by decide +kernel)
theorem tN_RX1 : Cond.initialized RX1 ∈ lw_tbl := List.mem_of_getElem? (i := 40) (by decide +kernel)
theorem tN_RX5 : Cond.initialized RX5 ∈ lw_tbl := List.mem_of_getElem? (i := 41) (by decide +kernel)
theorem tN_RX0 : Cond.initialized RX0 ∈ lw_tbl := List.mem_of_getElem? (i := 42) (by decide +kernel)
theorem tN_RX4 : Cond.initialized RX4 ∈ lw_tbl := List.mem_of_getElem? (i := 43) (by decide +kernel)
theorem tN_RX3 : Cond.initialized RX3 ∈ lw_tbl := List.mem_of_getElem? (i := 44) (by decide +kernel)
theorem tN_RX2 : Cond.initialized RX2 ∈ lw_tbl := List.mem_of_getElem? (i := 45) (by decide +kernel)
theorem tN_RX8 : Cond.initialized RX8 ∈ lw_tbl := List.mem_of_getElem? (i := 46) (by decide +kernel)
theorem tN_RJ10 : Cond.initialized RJ10 ∈ lw_tbl := List.mem_of_getElem? (i := 47) (by decide +kernel)
theorem tN_RJ9 : Cond.initialized RJ9 ∈ lw_tbl := List.mem_of_getElem? (i := 48) (by decide +kernel)
theorem tN_RJ6 : Cond.initialized RJ6 ∈ lw_tbl := List.mem_of_getElem? (i := 49) (by decide +kernel)
theorem tL_RL_7 : Cond.classLink RL 7 RX7 ∈ lw_tbl := List.mem_of_getElem? (i := 50) (by decide +kernel)
theorem tB_RX7 : Cond.instantiable RX7 7 ∈ lw_tbl := List.mem_of_getElem? (i := 51) (by decide +kernel)
theorem tM_RL_9 : Cond.methodLink RL 9 yX7_init ∈ lw_tbl := List.mem_of_getElem? (i := 52) (by decide +kernel)
theorem tI_yX7_init : Cond.instanceMethod yX7_init ∈ lw_tbl := List.mem_of_getElem? (i := 53) (by decide +kernel)
theorem tC_yX7_init : Cond.code yX7_init cX7_init 1 (Option.none : Option Jvm.ClassFile.FieldType) ∈ lw_tbl := List.mem_of_getElem? (i := 54) (by decide +kernel)
theorem tM_RX7_1 : Cond.methodLink RX7 1 (⟨"java/lang/Object", "<init>", "()V"⟩ : MethodName) ∈ lw_tbl := List.mem_of_getElem? (i := 55) (by decide +kernel)
theorem tI_Object_init : Cond.instanceMethod (⟨"java/lang/Object", "<init>", "()V"⟩ : MethodName) ∈ lw_tbl := List.mem_of_getElem? (i := 56) (by decide +kernel)
theorem tL_RX7_7 : Cond.classLink RX7 7 RX6 ∈ lw_tbl := List.mem_of_getElem? (i := 58) (by decide +kernel)
theorem tB_RX6 : Cond.instantiable RX6 2 ∈ lw_tbl := List.mem_of_getElem? (i := 59) (by decide +kernel)
theorem tQ_RX7_9 : Cond.methodLinkNest RX7 9 yX6_init "EelLocks" ∈ lw_tbl := List.mem_of_getElem? (i := 60) (by decide +kernel)
theorem tI_yX6_init : Cond.instanceMethod yX6_init ∈ lw_tbl := List.mem_of_getElem? (i := 61) (by decide +kernel)
theorem tC_yX6_init : Cond.code yX6_init cX6_init 1 (Option.none : Option Jvm.ClassFile.FieldType) ∈ lw_tbl := List.mem_of_getElem? (i := 62) (by decide +kernel)
theorem tM_RX6_3 : Cond.methodLink RX6 3 (⟨"java/lang/Object", "<init>", "()V"⟩ : MethodName) ∈ lw_tbl := List.mem_of_getElem? (i := 63) (by decide +kernel)
theorem tF_RX6_9 : Cond.fieldLink RX6 9 "EelLocks$Text" "letters" "[I" ∈ lw_tbl := List.mem_of_getElem? (i := 64) (by decide +kernel)
theorem tF_RX1_43 : Cond.fieldLink RX1 43 "EelLocks$Text" "letters" "[I" ∈ lw_tbl := List.mem_of_getElem? (i := 65) (by decide +kernel)
theorem tF_RX6_15 : Cond.fieldLink RX6 15 "EelLocks$Text" "length" "I" ∈ lw_tbl := List.mem_of_getElem? (i := 66) (by decide +kernel)
theorem tF_RX7_51 : Cond.fieldLink RX7 51 "EelLocks$Text" "length" "I" ∈ lw_tbl := List.mem_of_getElem? (i := 67) (by decide +kernel)
theorem tF_RX1_38 : Cond.fieldLink RX1 38 "EelLocks$Text" "length" "I" ∈ lw_tbl := List.mem_of_getElem? (i := 68) (by decide +kernel)
theorem tA_I : Cond.arrayClass .int ∈ lw_tbl := List.mem_of_getElem? (i := 74) (by decide +kernel)
theorem tL_RX7_16 : Cond.classLink RX7 16 RX1 ∈ lw_tbl := List.mem_of_getElem? (i := 75) (by decide +kernel)
theorem tB_RX1 : Cond.instantiable RX1 6 ∈ lw_tbl := List.mem_of_getElem? (i := 76) (by decide +kernel)
theorem tQ_RX7_18 : Cond.methodLinkNest RX7 18 yX1_init "EelLocks" ∈ lw_tbl := List.mem_of_getElem? (i := 77) (by decide +kernel)
theorem tI_yX1_init : Cond.instanceMethod yX1_init ∈ lw_tbl := List.mem_of_getElem? (i := 78) (by decide +kernel)
theorem tC_yX1_init : Cond.code yX1_init cX1_init 1 (Option.none : Option Jvm.ClassFile.FieldType) ∈ lw_tbl := List.mem_of_getElem? (i := 79) (by decide +kernel)
theorem tM_RX1_3 : Cond.methodLink RX1 3 (⟨"java/lang/Object", "<init>", "()V"⟩ : MethodName) ∈ lw_tbl := List.mem_of_getElem? (i := 80) (by decide +kernel)
theorem tL_RX1_18 : Cond.classLink RX1 18 RX5 ∈ lw_tbl := List.mem_of_getElem? (i := 81) (by decide +kernel)
theorem tB_RX5 : Cond.instantiable RX5 7 ∈ lw_tbl := List.mem_of_getElem? (i := 82) (by decide +kernel)
theorem tQ_RX1_20 : Cond.methodLinkNest RX1 20 yX5_init "EelLocks" ∈ lw_tbl := List.mem_of_getElem? (i := 83) (by decide +kernel)
theorem tI_yX5_init : Cond.instanceMethod yX5_init ∈ lw_tbl := List.mem_of_getElem? (i := 84) (by decide +kernel)
theorem tC_yX5_init : Cond.code yX5_init cX5_init 1 (Option.none : Option Jvm.ClassFile.FieldType) ∈ lw_tbl := List.mem_of_getElem? (i := 85) (by decide +kernel)
theorem tM_RX5_3 : Cond.methodLink RX5 3 (⟨"java/lang/Object", "<init>", "()V"⟩ : MethodName) ∈ lw_tbl := List.mem_of_getElem? (i := 86) (by decide +kernel)
theorem tF_RX5_9 : Cond.fieldLink RX5 9 "EelLocks$State" "row" "[I" ∈ lw_tbl := List.mem_of_getElem? (i := 87) (by decide +kernel)
theorem tF_RX1_56 : Cond.fieldLink RX1 56 "EelLocks$State" "row" "[I" ∈ lw_tbl := List.mem_of_getElem? (i := 88) (by decide +kernel)
theorem tF_RX3_51 : Cond.fieldLink RX3 51 "EelLocks$State" "row" "[I" ∈ lw_tbl := List.mem_of_getElem? (i := 89) (by decide +kernel)
theorem tF_RX5_15 : Cond.fieldLink RX5 15 "EelLocks$State" "hours" "[I" ∈ lw_tbl := List.mem_of_getElem? (i := 90) (by decide +kernel)
theorem tF_RX7_101 : Cond.fieldLink RX7 101 "EelLocks$State" "hours" "[I" ∈ lw_tbl := List.mem_of_getElem? (i := 91) (by decide +kernel)
theorem tF_RX1_88 : Cond.fieldLink RX1 88 "EelLocks$State" "hours" "[I" ∈ lw_tbl := List.mem_of_getElem? (i := 92) (by decide +kernel)
theorem tF_RX5_18 : Cond.fieldLink RX5 18 "EelLocks$State" "tea" "[I" ∈ lw_tbl := List.mem_of_getElem? (i := 93) (by decide +kernel)
theorem tF_RX1_53 : Cond.fieldLink RX1 53 "EelLocks$State" "tea" "[I" ∈ lw_tbl := List.mem_of_getElem? (i := 94) (by decide +kernel)
theorem tF_RX7_92 : Cond.fieldLink RX7 92 "EelLocks$State" "tea" "[I" ∈ lw_tbl := List.mem_of_getElem? (i := 95) (by decide +kernel)
theorem tF_RX3_109 : Cond.fieldLink RX3 109 "EelLocks$State" "tea" "[I" ∈ lw_tbl := List.mem_of_getElem? (i := 96) (by decide +kernel)
theorem tF_RX5_21 : Cond.fieldLink RX5 21 "EelLocks$State" "laws" "[I" ∈ lw_tbl := List.mem_of_getElem? (i := 97) (by decide +kernel)
theorem tF_RX1_46 : Cond.fieldLink RX1 46 "EelLocks$State" "laws" "[I" ∈ lw_tbl := List.mem_of_getElem? (i := 98) (by decide +kernel)
theorem tF_RX2_41 : Cond.fieldLink RX2 41 "EelLocks$State" "laws" "[I" ∈ lw_tbl := List.mem_of_getElem? (i := 99) (by decide +kernel)
theorem tF_RX7_107 : Cond.fieldLink RX7 107 "EelLocks$State" "laws" "[I" ∈ lw_tbl := List.mem_of_getElem? (i := 100) (by decide +kernel)
theorem tF_RX5_24 : Cond.fieldLink RX5 24 "EelLocks$State" "given" "[I" ∈ lw_tbl := List.mem_of_getElem? (i := 101) (by decide +kernel)
theorem tF_RX7_254 : Cond.fieldLink RX7 254 "EelLocks$State" "given" "[I" ∈ lw_tbl := List.mem_of_getElem? (i := 102) (by decide +kernel)
theorem tF_RX5_33 : Cond.fieldLink RX5 33 "EelLocks$State" "size" "I" ∈ lw_tbl := List.mem_of_getElem? (i := 103) (by decide +kernel)
theorem tF_RX1_59 : Cond.fieldLink RX1 59 "EelLocks$State" "size" "I" ∈ lw_tbl := List.mem_of_getElem? (i := 104) (by decide +kernel)
theorem tF_RX3_134 : Cond.fieldLink RX3 134 "EelLocks$State" "size" "I" ∈ lw_tbl := List.mem_of_getElem? (i := 105) (by decide +kernel)
theorem tF_RX3_24 : Cond.fieldLink RX3 24 "EelLocks$State" "passed" "I" ∈ lw_tbl := List.mem_of_getElem? (i := 106) (by decide +kernel)
theorem tF_RX5_37 : Cond.fieldLink RX5 37 "EelLocks$State" "passed" "I" ∈ lw_tbl := List.mem_of_getElem? (i := 107) (by decide +kernel)
theorem tF_RX1_62 : Cond.fieldLink RX1 62 "EelLocks$State" "passed" "I" ∈ lw_tbl := List.mem_of_getElem? (i := 108) (by decide +kernel)
theorem tF_RX2_95 : Cond.fieldLink RX2 95 "EelLocks$State" "passed" "I" ∈ lw_tbl := List.mem_of_getElem? (i := 109) (by decide +kernel)
theorem tF_RX7_236 : Cond.fieldLink RX7 236 "EelLocks$State" "passed" "I" ∈ lw_tbl := List.mem_of_getElem? (i := 110) (by decide +kernel)
theorem tF_RX1_9 : Cond.fieldLink RX1 9 "EelLocks$Canal" "lengths" "[I" ∈ lw_tbl := List.mem_of_getElem? (i := 126) (by decide +kernel)
theorem tF_RX7_81 : Cond.fieldLink RX7 81 "EelLocks$Canal" "lengths" "[I" ∈ lw_tbl := List.mem_of_getElem? (i := 127) (by decide +kernel)
theorem tF_RX1_15 : Cond.fieldLink RX1 15 "EelLocks$Canal" "weights" "[I" ∈ lw_tbl := List.mem_of_getElem? (i := 128) (by decide +kernel)
theorem tF_RX7_85 : Cond.fieldLink RX7 85 "EelLocks$Canal" "weights" "[I" ∈ lw_tbl := List.mem_of_getElem? (i := 129) (by decide +kernel)
theorem tF_RX1_21 : Cond.fieldLink RX1 21 "EelLocks$Canal" "now" "LEelLocks$State;" ∈ lw_tbl := List.mem_of_getElem? (i := 130) (by decide +kernel)
theorem tF_RX7_88 : Cond.fieldLink RX7 88 "EelLocks$Canal" "now" "LEelLocks$State;" ∈ lw_tbl := List.mem_of_getElem? (i := 131) (by decide +kernel)
theorem tF_RX3_105 : Cond.fieldLink RX3 105 "EelLocks$Canal" "now" "LEelLocks$State;" ∈ lw_tbl := List.mem_of_getElem? (i := 132) (by decide +kernel)
theorem tF_RX1_25 : Cond.fieldLink RX1 25 "EelLocks$Canal" "trial" "LEelLocks$State;" ∈ lw_tbl := List.mem_of_getElem? (i := 133) (by decide +kernel)
theorem tF_RX1_28 : Cond.fieldLink RX1 28 "EelLocks$Canal" "locks" "I" ∈ lw_tbl := List.mem_of_getElem? (i := 134) (by decide +kernel)
theorem tF_RX3_30 : Cond.fieldLink RX3 30 "EelLocks$Canal" "locks" "I" ∈ lw_tbl := List.mem_of_getElem? (i := 135) (by decide +kernel)
theorem tF_RX7_71 : Cond.fieldLink RX7 71 "EelLocks$Canal" "locks" "I" ∈ lw_tbl := List.mem_of_getElem? (i := 136) (by decide +kernel)
theorem tF_RX2_73 : Cond.fieldLink RX2 73 "EelLocks$Canal" "locks" "I" ∈ lw_tbl := List.mem_of_getElem? (i := 137) (by decide +kernel)
theorem tF_RX2_18 : Cond.fieldLink RX2 18 "EelLocks$Canal" "barges" "I" ∈ lw_tbl := List.mem_of_getElem? (i := 138) (by decide +kernel)
theorem tF_RX1_32 : Cond.fieldLink RX1 32 "EelLocks$Canal" "barges" "I" ∈ lw_tbl := List.mem_of_getElem? (i := 139) (by decide +kernel)
theorem tF_RX3_45 : Cond.fieldLink RX3 45 "EelLocks$Canal" "barges" "I" ∈ lw_tbl := List.mem_of_getElem? (i := 140) (by decide +kernel)
theorem tF_RX7_74 : Cond.fieldLink RX7 74 "EelLocks$Canal" "barges" "I" ∈ lw_tbl := List.mem_of_getElem? (i := 141) (by decide +kernel)
theorem tL_RX7_23 : Cond.classLink RX7 23 RX0 ∈ lw_tbl := List.mem_of_getElem? (i := 155) (by decide +kernel)
theorem tB_RX0 : Cond.instantiable RX0 3 ∈ lw_tbl := List.mem_of_getElem? (i := 156) (by decide +kernel)
theorem tM_RX7_25 : Cond.methodLink RX7 25 yX0_init ∈ lw_tbl := List.mem_of_getElem? (i := 157) (by decide +kernel)
theorem tI_yX0_init : Cond.instanceMethod yX0_init ∈ lw_tbl := List.mem_of_getElem? (i := 158) (by decide +kernel)
theorem tC_yX0_init : Cond.code yX0_init cX0_init 2 (Option.none : Option Jvm.ClassFile.FieldType) ∈ lw_tbl := List.mem_of_getElem? (i := 159) (by decide +kernel)
theorem tM_RX0_3 : Cond.methodLink RX0 3 (⟨"java/lang/Object", "<init>", "()V"⟩ : MethodName) ∈ lw_tbl := List.mem_of_getElem? (i := 160) (by decide +kernel)
theorem tL_RX0_9 : Cond.classLink RX0 9 RX5 ∈ lw_tbl := List.mem_of_getElem? (i := 161) (by decide +kernel)
theorem tA_O : Cond.arrayOver (.object "EelLocks$State") ∈ lw_tbl := List.mem_of_getElem? (i := 162) (by decide +kernel)
theorem tQ_RX0_17 : Cond.methodLinkNest RX0 17 yX5_init "EelLocks" ∈ lw_tbl := List.mem_of_getElem? (i := 163) (by decide +kernel)
theorem tF_RX0_11 : Cond.fieldLink RX0 11 "EelLocks$Acts" "before" "[LEelLocks$State;" ∈ lw_tbl := List.mem_of_getElem? (i := 164) (by decide +kernel)
theorem tF_RX0_18 : Cond.fieldLink RX0 18 "EelLocks$Acts" "oldest" "I" ∈ lw_tbl := List.mem_of_getElem? (i := 165) (by decide +kernel)
theorem tF_RX0_22 : Cond.fieldLink RX0 22 "EelLocks$Acts" "size" "I" ∈ lw_tbl := List.mem_of_getElem? (i := 166) (by decide +kernel)
theorem tF_RX7_140 : Cond.fieldLink RX7 140 "EelLocks$Acts" "size" "I" ∈ lw_tbl := List.mem_of_getElem? (i := 167) (by decide +kernel)
theorem tL_RX7_30 : Cond.classLink RX7 30 RX4 ∈ lw_tbl := List.mem_of_getElem? (i := 175) (by decide +kernel)
theorem tB_RX4 : Cond.instantiable RX4 2 ∈ lw_tbl := List.mem_of_getElem? (i := 176) (by decide +kernel)
theorem tM_RX7_32 : Cond.methodLink RX7 32 yX4_init ∈ lw_tbl := List.mem_of_getElem? (i := 177) (by decide +kernel)
theorem tI_yX4_init : Cond.instanceMethod yX4_init ∈ lw_tbl := List.mem_of_getElem? (i := 178) (by decide +kernel)
theorem tC_yX4_init : Cond.code yX4_init cX4_init 2 (Option.none : Option Jvm.ClassFile.FieldType) ∈ lw_tbl := List.mem_of_getElem? (i := 179) (by decide +kernel)
theorem tM_RX4_3 : Cond.methodLink RX4 3 (⟨"java/lang/Object", "<init>", "()V"⟩ : MethodName) ∈ lw_tbl := List.mem_of_getElem? (i := 180) (by decide +kernel)
theorem tL_RX4_9 : Cond.classLink RX4 9 RX5 ∈ lw_tbl := List.mem_of_getElem? (i := 181) (by decide +kernel)
theorem tQ_RX4_21 : Cond.methodLinkNest RX4 21 yX5_init "EelLocks" ∈ lw_tbl := List.mem_of_getElem? (i := 182) (by decide +kernel)
theorem tF_RX4_11 : Cond.fieldLink RX4 11 "EelLocks$Slots" "states" "[LEelLocks$State;" ∈ lw_tbl := List.mem_of_getElem? (i := 183) (by decide +kernel)
theorem tF_RX7_243 : Cond.fieldLink RX7 243 "EelLocks$Slots" "states" "[LEelLocks$State;" ∈ lw_tbl := List.mem_of_getElem? (i := 184) (by decide +kernel)
theorem tF_RX4_17 : Cond.fieldLink RX4 17 "EelLocks$Slots" "isKept" "[Z" ∈ lw_tbl := List.mem_of_getElem? (i := 185) (by decide +kernel)
theorem tF_RX7_239 : Cond.fieldLink RX7 239 "EelLocks$Slots" "isKept" "[Z" ∈ lw_tbl := List.mem_of_getElem? (i := 186) (by decide +kernel)
theorem tA_Z : Cond.arrayClass .boolean ∈ lw_tbl := List.mem_of_getElem? (i := 192) (by decide +kernel)
theorem tL_RX7_37 : Cond.classLink RX7 37 RX3 ∈ lw_tbl := List.mem_of_getElem? (i := 193) (by decide +kernel)
theorem tB_RX3 : Cond.instantiable RX3 2 ∈ lw_tbl := List.mem_of_getElem? (i := 194) (by decide +kernel)
theorem tQ_RX7_39 : Cond.methodLinkNest RX7 39 yX3_init "EelLocks" ∈ lw_tbl := List.mem_of_getElem? (i := 195) (by decide +kernel)
theorem tI_yX3_init : Cond.instanceMethod yX3_init ∈ lw_tbl := List.mem_of_getElem? (i := 196) (by decide +kernel)
theorem tC_yX3_init : Cond.code yX3_init cX3_init 1 (Option.none : Option Jvm.ClassFile.FieldType) ∈ lw_tbl := List.mem_of_getElem? (i := 197) (by decide +kernel)
theorem tM_RX3_3 : Cond.methodLink RX3 3 (⟨"java/lang/Object", "<init>", "()V"⟩ : MethodName) ∈ lw_tbl := List.mem_of_getElem? (i := 198) (by decide +kernel)
theorem tF_RX3_9 : Cond.fieldLink RX3 9 "EelLocks$Outlook" "order" "[I" ∈ lw_tbl := List.mem_of_getElem? (i := 199) (by decide +kernel)
theorem tF_RX3_15 : Cond.fieldLink RX3 15 "EelLocks$Outlook" "figures" "[I" ∈ lw_tbl := List.mem_of_getElem? (i := 200) (by decide +kernel)
theorem tL_RX7_44 : Cond.classLink RX7 44 RX2 ∈ lw_tbl := List.mem_of_getElem? (i := 206) (by decide +kernel)
theorem tB_RX2 : Cond.instantiable RX2 6 ∈ lw_tbl := List.mem_of_getElem? (i := 207) (by decide +kernel)
theorem tQ_RX7_46 : Cond.methodLinkNest RX7 46 yX2_init "EelLocks" ∈ lw_tbl := List.mem_of_getElem? (i := 208) (by decide +kernel)
theorem tI_yX2_init : Cond.instanceMethod yX2_init ∈ lw_tbl := List.mem_of_getElem? (i := 209) (by decide +kernel)
theorem tC_yX2_init : Cond.code yX2_init cX2_init 1 (Option.none : Option Jvm.ClassFile.FieldType) ∈ lw_tbl := List.mem_of_getElem? (i := 210) (by decide +kernel)
theorem tM_RX2_3 : Cond.methodLink RX2 3 (⟨"java/lang/Object", "<init>", "()V"⟩ : MethodName) ∈ lw_tbl := List.mem_of_getElem? (i := 211) (by decide +kernel)
theorem tF_RX2_11 : Cond.fieldLink RX2 11 "EelLocks$Guesses" "lossOfOne" "[I" ∈ lw_tbl := List.mem_of_getElem? (i := 212) (by decide +kernel)
theorem tF_RX2_15 : Cond.fieldLink RX2 15 "EelLocks$Guesses" "lossOfOther" "[I" ∈ lw_tbl := List.mem_of_getElem? (i := 213) (by decide +kernel)
theorem tF_RX2_24 : Cond.fieldLink RX2 24 "EelLocks$Guesses" "found" "I" ∈ lw_tbl := List.mem_of_getElem? (i := 214) (by decide +kernel)
theorem tF_RX7_195 : Cond.fieldLink RX7 195 "EelLocks$Guesses" "found" "I" ∈ lw_tbl := List.mem_of_getElem? (i := 215) (by decide +kernel)
theorem tF_RX2_27 : Cond.fieldLink RX2 27 "EelLocks$Guesses" "inAll" "I" ∈ lw_tbl := List.mem_of_getElem? (i := 216) (by decide +kernel)
theorem tF_RX7_198 : Cond.fieldLink RX7 198 "EelLocks$Guesses" "inAll" "I" ∈ lw_tbl := List.mem_of_getElem? (i := 217) (by decide +kernel)
theorem tF_RX2_34 : Cond.fieldLink RX2 34 "EelLocks$Guesses" "inNone" "I" ∈ lw_tbl := List.mem_of_getElem? (i := 218) (by decide +kernel)
theorem tF_RX7_201 : Cond.fieldLink RX7 201 "EelLocks$Guesses" "inNone" "I" ∈ lw_tbl := List.mem_of_getElem? (i := 219) (by decide +kernel)
theorem tF_RX2_66 : Cond.fieldLink RX2 66 "EelLocks$Guesses" "firstRest" "I" ∈ lw_tbl := List.mem_of_getElem? (i := 220) (by decide +kernel)
theorem tF_RX7_208 : Cond.fieldLink RX7 208 "EelLocks$Guesses" "firstRest" "I" ∈ lw_tbl := List.mem_of_getElem? (i := 221) (by decide +kernel)
theorem tF_RX7_10 : Cond.fieldLink RX7 10 "EelLocks" "text" "LEelLocks$Text;" ∈ lw_tbl := List.mem_of_getElem? (i := 235) (by decide +kernel)
theorem tF_RX7_19 : Cond.fieldLink RX7 19 "EelLocks" "way" "LEelLocks$Canal;" ∈ lw_tbl := List.mem_of_getElem? (i := 236) (by decide +kernel)
theorem tF_RX7_26 : Cond.fieldLink RX7 26 "EelLocks" "acts" "LEelLocks$Acts;" ∈ lw_tbl := List.mem_of_getElem? (i := 237) (by decide +kernel)
theorem tF_RX7_33 : Cond.fieldLink RX7 33 "EelLocks" "slots" "LEelLocks$Slots;" ∈ lw_tbl := List.mem_of_getElem? (i := 238) (by decide +kernel)
theorem tF_RX7_40 : Cond.fieldLink RX7 40 "EelLocks" "outlook" "LEelLocks$Outlook;" ∈ lw_tbl := List.mem_of_getElem? (i := 239) (by decide +kernel)
theorem tF_RX7_47 : Cond.fieldLink RX7 47 "EelLocks" "guesses" "LEelLocks$Guesses;" ∈ lw_tbl := List.mem_of_getElem? (i := 240) (by decide +kernel)
theorem tF_RX7_218 : Cond.fieldLink RX7 218 "EelLocks" "seedNow" "J" ∈ lw_tbl := List.mem_of_getElem? (i := 241) (by decide +kernel)
theorem tM_RL_13 : Cond.methodLink RL 13 yX7_write ∈ lw_tbl := List.mem_of_getElem? (i := 257) (by decide +kernel)
theorem tI_yX7_write : Cond.instanceMethod yX7_write ∈ lw_tbl := List.mem_of_getElem? (i := 258) (by decide +kernel)
theorem tS_yX7_write : Cond.selects RX7 yX7_write yX7_write ∈ lw_tbl := List.mem_of_getElem? (i := 259) (by decide +kernel)
theorem tC_yX7_write : Cond.code yX7_write cX7_write 2 (Option.some Jvm.ClassFile.FieldType.int) ∈ lw_tbl := List.mem_of_getElem? (i := 260) (by decide +kernel)
theorem tM_RX7_55 : Cond.methodLink RX7 55 yX6_append ∈ lw_tbl := List.mem_of_getElem? (i := 261) (by decide +kernel)
theorem tI_yX6_append : Cond.instanceMethod yX6_append ∈ lw_tbl := List.mem_of_getElem? (i := 262) (by decide +kernel)
theorem tS_yX6_append : Cond.selects RX6 yX6_append yX6_append ∈ lw_tbl := List.mem_of_getElem? (i := 263) (by decide +kernel)
theorem tC_yX6_append : Cond.code yX6_append cX6_append 2 (Option.none : Option Jvm.ClassFile.FieldType) ∈ lw_tbl := List.mem_of_getElem? (i := 264) (by decide +kernel)
theorem tM_RL_18 : Cond.methodLink RL 18 yX7_wipe ∈ lw_tbl := List.mem_of_getElem? (i := 265) (by decide +kernel)
theorem tI_yX7_wipe : Cond.instanceMethod yX7_wipe ∈ lw_tbl := List.mem_of_getElem? (i := 266) (by decide +kernel)
theorem tS_yX7_wipe : Cond.selects RX7 yX7_wipe yX7_wipe ∈ lw_tbl := List.mem_of_getElem? (i := 267) (by decide +kernel)
theorem tC_yX7_wipe : Cond.code yX7_wipe cX7_wipe 2 (Option.some Jvm.ClassFile.FieldType.int) ∈ lw_tbl := List.mem_of_getElem? (i := 268) (by decide +kernel)
theorem tM_RL_23 : Cond.methodLink RL 23 yX7_fault ∈ lw_tbl := List.mem_of_getElem? (i := 269) (by decide +kernel)
theorem tI_yX7_fault : Cond.instanceMethod yX7_fault ∈ lw_tbl := List.mem_of_getElem? (i := 270) (by decide +kernel)
theorem tS_yX7_fault : Cond.selects RX7 yX7_fault yX7_fault ∈ lw_tbl := List.mem_of_getElem? (i := 271) (by decide +kernel)
theorem tC_yX7_fault : Cond.code yX7_fault cX7_fault 1 (Option.some Jvm.ClassFile.FieldType.int) ∈ lw_tbl := List.mem_of_getElem? (i := 272) (by decide +kernel)
theorem tM_RX7_59 : Cond.methodLink RX7 59 yX6_faultPlace ∈ lw_tbl := List.mem_of_getElem? (i := 273) (by decide +kernel)
theorem tI_yX6_faultPlace : Cond.instanceMethod yX6_faultPlace ∈ lw_tbl := List.mem_of_getElem? (i := 274) (by decide +kernel)
theorem tS_yX6_faultPlace : Cond.selects RX6 yX6_faultPlace yX6_faultPlace ∈ lw_tbl := List.mem_of_getElem? (i := 275) (by decide +kernel)
theorem tC_yX6_faultPlace : Cond.code yX6_faultPlace cX6_faultPlace 6 (Option.some Jvm.ClassFile.FieldType.int) ∈ lw_tbl := List.mem_of_getElem? (i := 276) (by decide +kernel)
theorem tM_RX6_19 : Cond.methodLink RX6 19 yX6_dueBehind ∈ lw_tbl := List.mem_of_getElem? (i := 277) (by decide +kernel)
theorem tT_yX6_dueBehind : Cond.static yX6_dueBehind ∈ lw_tbl := List.mem_of_getElem? (i := 278) (by decide +kernel)
theorem tC_yX6_dueBehind : Cond.code yX6_dueBehind cX6_dueBehind 2 (Option.some Jvm.ClassFile.FieldType.int) ∈ lw_tbl := List.mem_of_getElem? (i := 279) (by decide +kernel)
theorem tM_RL_27 : Cond.methodLink RL 27 yX7_canal ∈ lw_tbl := List.mem_of_getElem? (i := 280) (by decide +kernel)
theorem tI_yX7_canal : Cond.instanceMethod yX7_canal ∈ lw_tbl := List.mem_of_getElem? (i := 281) (by decide +kernel)
theorem tS_yX7_canal : Cond.selects RX7 yX7_canal yX7_canal ∈ lw_tbl := List.mem_of_getElem? (i := 282) (by decide +kernel)
theorem tC_yX7_canal : Cond.code yX7_canal cX7_canal 1 (Option.some Jvm.ClassFile.FieldType.int) ∈ lw_tbl := List.mem_of_getElem? (i := 283) (by decide +kernel)
theorem tM_RX7_63 : Cond.methodLink RX7 63 yX1_makeFrom ∈ lw_tbl := List.mem_of_getElem? (i := 284) (by decide +kernel)
theorem tI_yX1_makeFrom : Cond.instanceMethod yX1_makeFrom ∈ lw_tbl := List.mem_of_getElem? (i := 285) (by decide +kernel)
theorem tS_yX1_makeFrom : Cond.selects RX1 yX1_makeFrom yX1_makeFrom ∈ lw_tbl := List.mem_of_getElem? (i := 286) (by decide +kernel)
theorem tC_yX1_makeFrom : Cond.code yX1_makeFrom cX1_makeFrom 4 (Option.none : Option Jvm.ClassFile.FieldType) ∈ lw_tbl := List.mem_of_getElem? (i := 287) (by decide +kernel)
theorem tM_RX1_35 : Cond.methodLink RX1 35 yX5_clearAll ∈ lw_tbl := List.mem_of_getElem? (i := 288) (by decide +kernel)
theorem tI_yX5_clearAll : Cond.instanceMethod yX5_clearAll ∈ lw_tbl := List.mem_of_getElem? (i := 289) (by decide +kernel)
theorem tS_yX5_clearAll : Cond.selects RX5 yX5_clearAll yX5_clearAll ∈ lw_tbl := List.mem_of_getElem? (i := 290) (by decide +kernel)
theorem tC_yX5_clearAll : Cond.code yX5_clearAll cX5_clearAll 2 (Option.none : Option Jvm.ClassFile.FieldType) ∈ lw_tbl := List.mem_of_getElem? (i := 291) (by decide +kernel)
theorem tM_RX5_40 : Cond.methodLink RX5 40 yX5_clearHours ∈ lw_tbl := List.mem_of_getElem? (i := 292) (by decide +kernel)
theorem tI_yX5_clearHours : Cond.instanceMethod yX5_clearHours ∈ lw_tbl := List.mem_of_getElem? (i := 293) (by decide +kernel)
theorem tS_yX5_clearHours : Cond.selects RX5 yX5_clearHours yX5_clearHours ∈ lw_tbl := List.mem_of_getElem? (i := 294) (by decide +kernel)
theorem tC_yX5_clearHours : Cond.code yX5_clearHours cX5_clearHours 2 (Option.none : Option Jvm.ClassFile.FieldType) ∈ lw_tbl := List.mem_of_getElem? (i := 295) (by decide +kernel)
theorem tM_RX1_49 : Cond.methodLink RX1 49 yX6_figureAt ∈ lw_tbl := List.mem_of_getElem? (i := 296) (by decide +kernel)
theorem tI_yX6_figureAt : Cond.instanceMethod yX6_figureAt ∈ lw_tbl := List.mem_of_getElem? (i := 297) (by decide +kernel)
theorem tS_yX6_figureAt : Cond.selects RX6 yX6_figureAt yX6_figureAt ∈ lw_tbl := List.mem_of_getElem? (i := 298) (by decide +kernel)
theorem tC_yX6_figureAt : Cond.code yX6_figureAt cX6_figureAt 2 (Option.some Jvm.ClassFile.FieldType.int) ∈ lw_tbl := List.mem_of_getElem? (i := 299) (by decide +kernel)
theorem tM_RX7_67 : Cond.methodLink RX7 67 yX0_forgetAll ∈ lw_tbl := List.mem_of_getElem? (i := 300) (by decide +kernel)
theorem tI_yX0_forgetAll : Cond.instanceMethod yX0_forgetAll ∈ lw_tbl := List.mem_of_getElem? (i := 301) (by decide +kernel)
theorem tS_yX0_forgetAll : Cond.selects RX0 yX0_forgetAll yX0_forgetAll ∈ lw_tbl := List.mem_of_getElem? (i := 302) (by decide +kernel)
theorem tC_yX0_forgetAll : Cond.code yX0_forgetAll cX0_forgetAll 1 (Option.none : Option Jvm.ClassFile.FieldType) ∈ lw_tbl := List.mem_of_getElem? (i := 303) (by decide +kernel)
theorem tM_RX7_70 : Cond.methodLink RX7 70 yX4_forgetAll ∈ lw_tbl := List.mem_of_getElem? (i := 304) (by decide +kernel)
theorem tI_yX4_forgetAll : Cond.instanceMethod yX4_forgetAll ∈ lw_tbl := List.mem_of_getElem? (i := 305) (by decide +kernel)
theorem tS_yX4_forgetAll : Cond.selects RX4 yX4_forgetAll yX4_forgetAll ∈ lw_tbl := List.mem_of_getElem? (i := 306) (by decide +kernel)
theorem tC_yX4_forgetAll : Cond.code yX4_forgetAll cX4_forgetAll 2 (Option.none : Option Jvm.ClassFile.FieldType) ∈ lw_tbl := List.mem_of_getElem? (i := 307) (by decide +kernel)
theorem tM_RL_31 : Cond.methodLink RL 31 yX7_barge ∈ lw_tbl := List.mem_of_getElem? (i := 308) (by decide +kernel)
theorem tI_yX7_barge : Cond.instanceMethod yX7_barge ∈ lw_tbl := List.mem_of_getElem? (i := 309) (by decide +kernel)
theorem tS_yX7_barge : Cond.selects RX7 yX7_barge yX7_barge ∈ lw_tbl := List.mem_of_getElem? (i := 310) (by decide +kernel)
theorem tC_yX7_barge : Cond.code yX7_barge cX7_barge 3 (Option.some Jvm.ClassFile.FieldType.int) ∈ lw_tbl := List.mem_of_getElem? (i := 311) (by decide +kernel)
theorem tM_RX7_77 : Cond.methodLink RX7 77 yX1_hasBarge ∈ lw_tbl := List.mem_of_getElem? (i := 312) (by decide +kernel)
theorem tI_yX1_hasBarge : Cond.instanceMethod yX1_hasBarge ∈ lw_tbl := List.mem_of_getElem? (i := 313) (by decide +kernel)
theorem tS_yX1_hasBarge : Cond.selects RX1 yX1_hasBarge yX1_hasBarge ∈ lw_tbl := List.mem_of_getElem? (i := 314) (by decide +kernel)
theorem tC_yX1_hasBarge : Cond.code yX1_hasBarge cX1_hasBarge 2 (Option.some Jvm.ClassFile.FieldType.boolean) ∈ lw_tbl := List.mem_of_getElem? (i := 315) (by decide +kernel)
theorem tM_RX7_97 : Cond.methodLink RX7 97 yX5_placeOf ∈ lw_tbl := List.mem_of_getElem? (i := 316) (by decide +kernel)
theorem tI_yX5_placeOf : Cond.instanceMethod yX5_placeOf ∈ lw_tbl := List.mem_of_getElem? (i := 317) (by decide +kernel)
theorem tS_yX5_placeOf : Cond.selects RX5 yX5_placeOf yX5_placeOf ∈ lw_tbl := List.mem_of_getElem? (i := 318) (by decide +kernel)
theorem tC_yX5_placeOf : Cond.code yX5_placeOf cX5_placeOf 3 (Option.some Jvm.ClassFile.FieldType.int) ∈ lw_tbl := List.mem_of_getElem? (i := 319) (by decide +kernel)
theorem tM_RL_36 : Cond.methodLink RL 36 yX7_lock ∈ lw_tbl := List.mem_of_getElem? (i := 320) (by decide +kernel)
theorem tI_yX7_lock : Cond.instanceMethod yX7_lock ∈ lw_tbl := List.mem_of_getElem? (i := 321) (by decide +kernel)
theorem tS_yX7_lock : Cond.selects RX7 yX7_lock yX7_lock ∈ lw_tbl := List.mem_of_getElem? (i := 322) (by decide +kernel)
theorem tC_yX7_lock : Cond.code yX7_lock cX7_lock 3 (Option.some Jvm.ClassFile.FieldType.int) ∈ lw_tbl := List.mem_of_getElem? (i := 323) (by decide +kernel)
theorem tM_RX7_104 : Cond.methodLink RX7 104 yX1_hasLock ∈ lw_tbl := List.mem_of_getElem? (i := 324) (by decide +kernel)
theorem tI_yX1_hasLock : Cond.instanceMethod yX1_hasLock ∈ lw_tbl := List.mem_of_getElem? (i := 325) (by decide +kernel)
theorem tS_yX1_hasLock : Cond.selects RX1 yX1_hasLock yX1_hasLock ∈ lw_tbl := List.mem_of_getElem? (i := 326) (by decide +kernel)
theorem tC_yX1_hasLock : Cond.code yX1_hasLock cX1_hasLock 2 (Option.some Jvm.ClassFile.FieldType.boolean) ∈ lw_tbl := List.mem_of_getElem? (i := 327) (by decide +kernel)
theorem tM_RX7_110 : Cond.methodLink RX7 110 yX1_isPassed ∈ lw_tbl := List.mem_of_getElem? (i := 328) (by decide +kernel)
theorem tI_yX1_isPassed : Cond.instanceMethod yX1_isPassed ∈ lw_tbl := List.mem_of_getElem? (i := 329) (by decide +kernel)
theorem tS_yX1_isPassed : Cond.selects RX1 yX1_isPassed yX1_isPassed ∈ lw_tbl := List.mem_of_getElem? (i := 330) (by decide +kernel)
theorem tC_yX1_isPassed : Cond.code yX1_isPassed cX1_isPassed 2 (Option.some Jvm.ClassFile.FieldType.boolean) ∈ lw_tbl := List.mem_of_getElem? (i := 331) (by decide +kernel)
theorem tM_RX7_113 : Cond.methodLink RX7 113 yX5_loadsAt ∈ lw_tbl := List.mem_of_getElem? (i := 332) (by decide +kernel)
theorem tI_yX5_loadsAt : Cond.instanceMethod yX5_loadsAt ∈ lw_tbl := List.mem_of_getElem? (i := 333) (by decide +kernel)
theorem tS_yX5_loadsAt : Cond.selects RX5 yX5_loadsAt yX5_loadsAt ∈ lw_tbl := List.mem_of_getElem? (i := 334) (by decide +kernel)
theorem tC_yX5_loadsAt : Cond.code yX5_loadsAt cX5_loadsAt 4 (Option.some Jvm.ClassFile.FieldType.int) ∈ lw_tbl := List.mem_of_getElem? (i := 335) (by decide +kernel)
theorem tM_RX5_49 : Cond.methodLink RX5 49 yX5_loadsOf ∈ lw_tbl := List.mem_of_getElem? (i := 336) (by decide +kernel)
theorem tI_yX5_loadsOf : Cond.instanceMethod yX5_loadsOf ∈ lw_tbl := List.mem_of_getElem? (i := 337) (by decide +kernel)
theorem tS_yX5_loadsOf : Cond.selects RX5 yX5_loadsOf yX5_loadsOf ∈ lw_tbl := List.mem_of_getElem? (i := 338) (by decide +kernel)
theorem tC_yX5_loadsOf : Cond.code yX5_loadsOf cX5_loadsOf 3 (Option.some Jvm.ClassFile.FieldType.int) ∈ lw_tbl := List.mem_of_getElem? (i := 339) (by decide +kernel)
theorem tM_RL_40 : Cond.methodLink RL 40 yX7_pass ∈ lw_tbl := List.mem_of_getElem? (i := 340) (by decide +kernel)
theorem tI_yX7_pass : Cond.instanceMethod yX7_pass ∈ lw_tbl := List.mem_of_getElem? (i := 341) (by decide +kernel)
theorem tS_yX7_pass : Cond.selects RX7 yX7_pass yX7_pass ∈ lw_tbl := List.mem_of_getElem? (i := 342) (by decide +kernel)
theorem tC_yX7_pass : Cond.code yX7_pass cX7_pass 1 (Option.some Jvm.ClassFile.FieldType.int) ∈ lw_tbl := List.mem_of_getElem? (i := 343) (by decide +kernel)
theorem tM_RX7_116 : Cond.methodLink RX7 116 yX1_locksLeft ∈ lw_tbl := List.mem_of_getElem? (i := 344) (by decide +kernel)
theorem tI_yX1_locksLeft : Cond.instanceMethod yX1_locksLeft ∈ lw_tbl := List.mem_of_getElem? (i := 345) (by decide +kernel)
theorem tS_yX1_locksLeft : Cond.selects RX1 yX1_locksLeft yX1_locksLeft ∈ lw_tbl := List.mem_of_getElem? (i := 346) (by decide +kernel)
theorem tC_yX1_locksLeft : Cond.code yX1_locksLeft cX1_locksLeft 1 (Option.some Jvm.ClassFile.FieldType.int) ∈ lw_tbl := List.mem_of_getElem? (i := 347) (by decide +kernel)
theorem tM_RX7_119 : Cond.methodLink RX7 119 yX0_remember ∈ lw_tbl := List.mem_of_getElem? (i := 348) (by decide +kernel)
theorem tI_yX0_remember : Cond.instanceMethod yX0_remember ∈ lw_tbl := List.mem_of_getElem? (i := 349) (by decide +kernel)
theorem tS_yX0_remember : Cond.selects RX0 yX0_remember yX0_remember ∈ lw_tbl := List.mem_of_getElem? (i := 350) (by decide +kernel)
theorem tC_yX0_remember : Cond.code yX0_remember cX0_remember 2 (Option.none : Option Jvm.ClassFile.FieldType) ∈ lw_tbl := List.mem_of_getElem? (i := 351) (by decide +kernel)
theorem tM_RX0_25 : Cond.methodLink RX0 25 yX5_copyFrom ∈ lw_tbl := List.mem_of_getElem? (i := 352) (by decide +kernel)
theorem tI_yX5_copyFrom : Cond.instanceMethod yX5_copyFrom ∈ lw_tbl := List.mem_of_getElem? (i := 353) (by decide +kernel)
theorem tS_yX5_copyFrom : Cond.selects RX5 yX5_copyFrom yX5_copyFrom ∈ lw_tbl := List.mem_of_getElem? (i := 354) (by decide +kernel)
theorem tC_yX5_copyFrom : Cond.code yX5_copyFrom cX5_copyFrom 2 (Option.none : Option Jvm.ClassFile.FieldType) ∈ lw_tbl := List.mem_of_getElem? (i := 355) (by decide +kernel)
theorem tM_RX5_27 : Cond.methodLink RX5 27 (⟨"java/lang/System", "arraycopy", "(Ljava/lang/Object;ILjava/lang/Object;II)V"⟩ : MethodName) ∈ lw_tbl := List.mem_of_getElem? (i := 356) (by decide +kernel)
theorem tT_System_arraycopy : Cond.static (⟨"java/lang/System", "arraycopy", "(Ljava/lang/Object;ILjava/lang/Object;II)V"⟩ : MethodName) ∈ lw_tbl := List.mem_of_getElem? (i := 357) (by decide +kernel)
theorem tV_System_arraycopy : Cond.native (⟨"java/lang/System", "arraycopy", "(Ljava/lang/Object;ILjava/lang/Object;II)V"⟩ : MethodName) ∈ lw_tbl := List.mem_of_getElem? (i := 358) (by decide +kernel)
theorem tM_RX7_123 : Cond.methodLink RX7 123 yX1_goThroughNext ∈ lw_tbl := List.mem_of_getElem? (i := 359) (by decide +kernel)
theorem tI_yX1_goThroughNext : Cond.instanceMethod yX1_goThroughNext ∈ lw_tbl := List.mem_of_getElem? (i := 360) (by decide +kernel)
theorem tS_yX1_goThroughNext : Cond.selects RX1 yX1_goThroughNext yX1_goThroughNext ∈ lw_tbl := List.mem_of_getElem? (i := 361) (by decide +kernel)
theorem tC_yX1_goThroughNext : Cond.code yX1_goThroughNext cX1_goThroughNext 8 (Option.none : Option Jvm.ClassFile.FieldType) ∈ lw_tbl := List.mem_of_getElem? (i := 362) (by decide +kernel)
theorem tM_RX1_80 : Cond.methodLink RX1 80 yX1_hasLock ∈ lw_tbl := List.mem_of_getElem? (i := 363) (by decide +kernel)
theorem tM_RX1_84 : Cond.methodLink RX1 84 yX1_holdsTwo ∈ lw_tbl := List.mem_of_getElem? (i := 364) (by decide +kernel)
theorem tI_yX1_holdsTwo : Cond.instanceMethod yX1_holdsTwo ∈ lw_tbl := List.mem_of_getElem? (i := 365) (by decide +kernel)
theorem tS_yX1_holdsTwo : Cond.selects RX1 yX1_holdsTwo yX1_holdsTwo ∈ lw_tbl := List.mem_of_getElem? (i := 366) (by decide +kernel)
theorem tC_yX1_holdsTwo : Cond.code yX1_holdsTwo cX1_holdsTwo 3 (Option.some Jvm.ClassFile.FieldType.boolean) ∈ lw_tbl := List.mem_of_getElem? (i := 367) (by decide +kernel)
theorem tM_RX1_91 : Cond.methodLink RX1 91 yJ9_max_7cf53 ∈ lw_tbl := List.mem_of_getElem? (i := 368) (by decide +kernel)
theorem tT_yJ9_max_7cf53 : Cond.static yJ9_max_7cf53 ∈ lw_tbl := List.mem_of_getElem? (i := 369) (by decide +kernel)
theorem tC_yJ9_max_7cf53 : Cond.code yJ9_max_7cf53 cJ9_max_7cf53 2 (Option.some Jvm.ClassFile.FieldType.int) ∈ lw_tbl := List.mem_of_getElem? (i := 370) (by decide +kernel)
theorem tM_RX1_97 : Cond.methodLink RX1 97 yX1_isSecondFirst ∈ lw_tbl := List.mem_of_getElem? (i := 371) (by decide +kernel)
theorem tI_yX1_isSecondFirst : Cond.instanceMethod yX1_isSecondFirst ∈ lw_tbl := List.mem_of_getElem? (i := 372) (by decide +kernel)
theorem tS_yX1_isSecondFirst : Cond.selects RX1 yX1_isSecondFirst yX1_isSecondFirst ∈ lw_tbl := List.mem_of_getElem? (i := 373) (by decide +kernel)
theorem tC_yX1_isSecondFirst : Cond.code yX1_isSecondFirst cX1_isSecondFirst 5 (Option.some Jvm.ClassFile.FieldType.boolean) ∈ lw_tbl := List.mem_of_getElem? (i := 374) (by decide +kernel)
theorem tM_RX1_105 : Cond.methodLink RX1 105 yX5_loadsOf ∈ lw_tbl := List.mem_of_getElem? (i := 375) (by decide +kernel)
theorem tM_RX1_101 : Cond.methodLink RX1 101 yX5_turn ∈ lw_tbl := List.mem_of_getElem? (i := 376) (by decide +kernel)
theorem tI_yX5_turn : Cond.instanceMethod yX5_turn ∈ lw_tbl := List.mem_of_getElem? (i := 377) (by decide +kernel)
theorem tS_yX5_turn : Cond.selects RX5 yX5_turn yX5_turn ∈ lw_tbl := List.mem_of_getElem? (i := 378) (by decide +kernel)
theorem tC_yX5_turn : Cond.code yX5_turn cX5_turn 3 (Option.none : Option Jvm.ClassFile.FieldType) ∈ lw_tbl := List.mem_of_getElem? (i := 379) (by decide +kernel)
theorem tM_RX7_126 : Cond.methodLink RX7 126 yX5_figures ∈ lw_tbl := List.mem_of_getElem? (i := 380) (by decide +kernel)
theorem tI_yX5_figures : Cond.instanceMethod yX5_figures ∈ lw_tbl := List.mem_of_getElem? (i := 381) (by decide +kernel)
theorem tS_yX5_figures : Cond.selects RX5 yX5_figures yX5_figures ∈ lw_tbl := List.mem_of_getElem? (i := 382) (by decide +kernel)
theorem tC_yX5_figures : Cond.code yX5_figures cX5_figures 3 (Option.some Jvm.ClassFile.FieldType.int) ∈ lw_tbl := List.mem_of_getElem? (i := 383) (by decide +kernel)
theorem tM_RL_44 : Cond.methodLink RL 44 yX7_give ∈ lw_tbl := List.mem_of_getElem? (i := 384) (by decide +kernel)
theorem tI_yX7_give : Cond.instanceMethod yX7_give ∈ lw_tbl := List.mem_of_getElem? (i := 385) (by decide +kernel)
theorem tS_yX7_give : Cond.selects RX7 yX7_give yX7_give ∈ lw_tbl := List.mem_of_getElem? (i := 386) (by decide +kernel)
theorem tC_yX7_give : Cond.code yX7_give cX7_give 3 (Option.some Jvm.ClassFile.FieldType.int) ∈ lw_tbl := List.mem_of_getElem? (i := 387) (by decide +kernel)
theorem tM_RX7_129 : Cond.methodLink RX7 129 yX5_addLoads ∈ lw_tbl := List.mem_of_getElem? (i := 388) (by decide +kernel)
theorem tI_yX5_addLoads : Cond.instanceMethod yX5_addLoads ∈ lw_tbl := List.mem_of_getElem? (i := 389) (by decide +kernel)
theorem tS_yX5_addLoads : Cond.selects RX5 yX5_addLoads yX5_addLoads ∈ lw_tbl := List.mem_of_getElem? (i := 390) (by decide +kernel)
theorem tC_yX5_addLoads : Cond.code yX5_addLoads cX5_addLoads 4 (Option.none : Option Jvm.ClassFile.FieldType) ∈ lw_tbl := List.mem_of_getElem? (i := 391) (by decide +kernel)
theorem tM_RX7_133 : Cond.methodLink RX7 133 yX5_loadsOf ∈ lw_tbl := List.mem_of_getElem? (i := 392) (by decide +kernel)
theorem tM_RL_48 : Cond.methodLink RL 48 yX7_letBy ∈ lw_tbl := List.mem_of_getElem? (i := 393) (by decide +kernel)
theorem tI_yX7_letBy : Cond.instanceMethod yX7_letBy ∈ lw_tbl := List.mem_of_getElem? (i := 394) (by decide +kernel)
theorem tS_yX7_letBy : Cond.selects RX7 yX7_letBy yX7_letBy ∈ lw_tbl := List.mem_of_getElem? (i := 395) (by decide +kernel)
theorem tC_yX7_letBy : Cond.code yX7_letBy cX7_letBy 3 (Option.some Jvm.ClassFile.FieldType.int) ∈ lw_tbl := List.mem_of_getElem? (i := 396) (by decide +kernel)
theorem tM_RX7_137 : Cond.methodLink RX7 137 yX5_turn ∈ lw_tbl := List.mem_of_getElem? (i := 397) (by decide +kernel)
theorem tM_RL_52 : Cond.methodLink RL 52 yX7_learn ∈ lw_tbl := List.mem_of_getElem? (i := 398) (by decide +kernel)
theorem tI_yX7_learn : Cond.instanceMethod yX7_learn ∈ lw_tbl := List.mem_of_getElem? (i := 399) (by decide +kernel)
theorem tS_yX7_learn : Cond.selects RX7 yX7_learn yX7_learn ∈ lw_tbl := List.mem_of_getElem? (i := 400) (by decide +kernel)
theorem tC_yX7_learn : Cond.code yX7_learn cX7_learn 4 (Option.some Jvm.ClassFile.FieldType.int) ∈ lw_tbl := List.mem_of_getElem? (i := 401) (by decide +kernel)
theorem tM_RL_56 : Cond.methodLink RL 56 yX7_undo ∈ lw_tbl := List.mem_of_getElem? (i := 402) (by decide +kernel)
theorem tI_yX7_undo : Cond.instanceMethod yX7_undo ∈ lw_tbl := List.mem_of_getElem? (i := 403) (by decide +kernel)
theorem tS_yX7_undo : Cond.selects RX7 yX7_undo yX7_undo ∈ lw_tbl := List.mem_of_getElem? (i := 404) (by decide +kernel)
theorem tC_yX7_undo : Cond.code yX7_undo cX7_undo 1 (Option.some Jvm.ClassFile.FieldType.int) ∈ lw_tbl := List.mem_of_getElem? (i := 405) (by decide +kernel)
theorem tM_RX7_143 : Cond.methodLink RX7 143 yX0_takeBack ∈ lw_tbl := List.mem_of_getElem? (i := 406) (by decide +kernel)
theorem tI_yX0_takeBack : Cond.instanceMethod yX0_takeBack ∈ lw_tbl := List.mem_of_getElem? (i := 407) (by decide +kernel)
theorem tS_yX0_takeBack : Cond.selects RX0 yX0_takeBack yX0_takeBack ∈ lw_tbl := List.mem_of_getElem? (i := 408) (by decide +kernel)
theorem tC_yX0_takeBack : Cond.code yX0_takeBack cX0_takeBack 2 (Option.none : Option Jvm.ClassFile.FieldType) ∈ lw_tbl := List.mem_of_getElem? (i := 409) (by decide +kernel)
theorem tM_RL_60 : Cond.methodLink RL 60 yX7_basin ∈ lw_tbl := List.mem_of_getElem? (i := 410) (by decide +kernel)
theorem tI_yX7_basin : Cond.instanceMethod yX7_basin ∈ lw_tbl := List.mem_of_getElem? (i := 411) (by decide +kernel)
theorem tS_yX7_basin : Cond.selects RX7 yX7_basin yX7_basin ∈ lw_tbl := List.mem_of_getElem? (i := 412) (by decide +kernel)
theorem tC_yX7_basin : Cond.code yX7_basin cX7_basin 1 (Option.some Jvm.ClassFile.FieldType.int) ∈ lw_tbl := List.mem_of_getElem? (i := 413) (by decide +kernel)
theorem tM_RX7_146 : Cond.methodLink RX7 146 yX1_atBasin ∈ lw_tbl := List.mem_of_getElem? (i := 414) (by decide +kernel)
theorem tI_yX1_atBasin : Cond.instanceMethod yX1_atBasin ∈ lw_tbl := List.mem_of_getElem? (i := 415) (by decide +kernel)
theorem tS_yX1_atBasin : Cond.selects RX1 yX1_atBasin yX1_atBasin ∈ lw_tbl := List.mem_of_getElem? (i := 416) (by decide +kernel)
theorem tC_yX1_atBasin : Cond.code yX1_atBasin cX1_atBasin 2 (Option.some (Jvm.ClassFile.FieldType.object "EelLocks$State")) ∈ lw_tbl := List.mem_of_getElem? (i := 417) (by decide +kernel)
theorem tM_RX1_69 : Cond.methodLink RX1 69 yX1_newTrial ∈ lw_tbl := List.mem_of_getElem? (i := 418) (by decide +kernel)
theorem tI_yX1_newTrial : Cond.instanceMethod yX1_newTrial ∈ lw_tbl := List.mem_of_getElem? (i := 419) (by decide +kernel)
theorem tS_yX1_newTrial : Cond.selects RX1 yX1_newTrial yX1_newTrial ∈ lw_tbl := List.mem_of_getElem? (i := 420) (by decide +kernel)
theorem tC_yX1_newTrial : Cond.code yX1_newTrial cX1_newTrial 1 (Option.some (Jvm.ClassFile.FieldType.object "EelLocks$State")) ∈ lw_tbl := List.mem_of_getElem? (i := 421) (by decide +kernel)
theorem tM_RX1_65 : Cond.methodLink RX1 65 yX5_copyFrom ∈ lw_tbl := List.mem_of_getElem? (i := 422) (by decide +kernel)
theorem tM_RX1_73 : Cond.methodLink RX1 73 yX1_goOnTo ∈ lw_tbl := List.mem_of_getElem? (i := 423) (by decide +kernel)
theorem tI_yX1_goOnTo : Cond.instanceMethod yX1_goOnTo ∈ lw_tbl := List.mem_of_getElem? (i := 424) (by decide +kernel)
theorem tS_yX1_goOnTo : Cond.selects RX1 yX1_goOnTo yX1_goOnTo ∈ lw_tbl := List.mem_of_getElem? (i := 425) (by decide +kernel)
theorem tC_yX1_goOnTo : Cond.code yX1_goOnTo cX1_goOnTo 4 (Option.none : Option Jvm.ClassFile.FieldType) ∈ lw_tbl := List.mem_of_getElem? (i := 426) (by decide +kernel)
theorem tM_RX1_77 : Cond.methodLink RX1 77 yX1_goThroughNext ∈ lw_tbl := List.mem_of_getElem? (i := 427) (by decide +kernel)
theorem tM_RL_64 : Cond.methodLink RL 64 yX7_hour ∈ lw_tbl := List.mem_of_getElem? (i := 428) (by decide +kernel)
theorem tI_yX7_hour : Cond.instanceMethod yX7_hour ∈ lw_tbl := List.mem_of_getElem? (i := 429) (by decide +kernel)
theorem tS_yX7_hour : Cond.selects RX7 yX7_hour yX7_hour ∈ lw_tbl := List.mem_of_getElem? (i := 430) (by decide +kernel)
theorem tC_yX7_hour : Cond.code yX7_hour cX7_hour 2 (Option.some Jvm.ClassFile.FieldType.int) ∈ lw_tbl := List.mem_of_getElem? (i := 431) (by decide +kernel)
theorem tM_RL_68 : Cond.methodLink RL 68 yX7_gains ∈ lw_tbl := List.mem_of_getElem? (i := 432) (by decide +kernel)
theorem tI_yX7_gains : Cond.instanceMethod yX7_gains ∈ lw_tbl := List.mem_of_getElem? (i := 433) (by decide +kernel)
theorem tS_yX7_gains : Cond.selects RX7 yX7_gains yX7_gains ∈ lw_tbl := List.mem_of_getElem? (i := 434) (by decide +kernel)
theorem tC_yX7_gains : Cond.code yX7_gains cX7_gains 2 (Option.some Jvm.ClassFile.FieldType.int) ∈ lw_tbl := List.mem_of_getElem? (i := 435) (by decide +kernel)
theorem tM_RX7_150 : Cond.methodLink RX7 150 yX3_gainsOf ∈ lw_tbl := List.mem_of_getElem? (i := 436) (by decide +kernel)
theorem tI_yX3_gainsOf : Cond.instanceMethod yX3_gainsOf ∈ lw_tbl := List.mem_of_getElem? (i := 437) (by decide +kernel)
theorem tS_yX3_gainsOf : Cond.selects RX3 yX3_gainsOf yX3_gainsOf ∈ lw_tbl := List.mem_of_getElem? (i := 438) (by decide +kernel)
theorem tC_yX3_gainsOf : Cond.code yX3_gainsOf cX3_gainsOf 7 (Option.some Jvm.ClassFile.FieldType.int) ∈ lw_tbl := List.mem_of_getElem? (i := 439) (by decide +kernel)
theorem tM_RX3_18 : Cond.methodLink RX3 18 yX1_newTrial ∈ lw_tbl := List.mem_of_getElem? (i := 440) (by decide +kernel)
theorem tM_RX3_33 : Cond.methodLink RX3 33 yX5_placeOf ∈ lw_tbl := List.mem_of_getElem? (i := 441) (by decide +kernel)
theorem tM_RX3_37 : Cond.methodLink RX3 37 yX1_goThroughNext ∈ lw_tbl := List.mem_of_getElem? (i := 442) (by decide +kernel)
theorem tM_RL_72 : Cond.methodLink RL 72 yX7_mates ∈ lw_tbl := List.mem_of_getElem? (i := 443) (by decide +kernel)
theorem tI_yX7_mates : Cond.instanceMethod yX7_mates ∈ lw_tbl := List.mem_of_getElem? (i := 444) (by decide +kernel)
theorem tS_yX7_mates : Cond.selects RX7 yX7_mates yX7_mates ∈ lw_tbl := List.mem_of_getElem? (i := 445) (by decide +kernel)
theorem tC_yX7_mates : Cond.code yX7_mates cX7_mates 2 (Option.some Jvm.ClassFile.FieldType.int) ∈ lw_tbl := List.mem_of_getElem? (i := 446) (by decide +kernel)
theorem tM_RX7_154 : Cond.methodLink RX7 154 yX3_matesOf ∈ lw_tbl := List.mem_of_getElem? (i := 447) (by decide +kernel)
theorem tI_yX3_matesOf : Cond.instanceMethod yX3_matesOf ∈ lw_tbl := List.mem_of_getElem? (i := 448) (by decide +kernel)
theorem tS_yX3_matesOf : Cond.selects RX3 yX3_matesOf yX3_matesOf ∈ lw_tbl := List.mem_of_getElem? (i := 449) (by decide +kernel)
theorem tC_yX3_matesOf : Cond.code yX3_matesOf cX3_matesOf 7 (Option.some Jvm.ClassFile.FieldType.int) ∈ lw_tbl := List.mem_of_getElem? (i := 450) (by decide +kernel)
theorem tM_RX3_41 : Cond.methodLink RX3 41 yX1_mateAtNext ∈ lw_tbl := List.mem_of_getElem? (i := 451) (by decide +kernel)
theorem tI_yX1_mateAtNext : Cond.instanceMethod yX1_mateAtNext ∈ lw_tbl := List.mem_of_getElem? (i := 452) (by decide +kernel)
theorem tS_yX1_mateAtNext : Cond.selects RX1 yX1_mateAtNext yX1_mateAtNext ∈ lw_tbl := List.mem_of_getElem? (i := 453) (by decide +kernel)
theorem tC_yX1_mateAtNext : Cond.code yX1_mateAtNext cX1_mateAtNext 4 (Option.some Jvm.ClassFile.FieldType.int) ∈ lw_tbl := List.mem_of_getElem? (i := 454) (by decide +kernel)
theorem tM_RL_76 : Cond.methodLink RL 76 yX7_first ∈ lw_tbl := List.mem_of_getElem? (i := 455) (by decide +kernel)
theorem tI_yX7_first : Cond.instanceMethod yX7_first ∈ lw_tbl := List.mem_of_getElem? (i := 456) (by decide +kernel)
theorem tS_yX7_first : Cond.selects RX7 yX7_first yX7_first ∈ lw_tbl := List.mem_of_getElem? (i := 457) (by decide +kernel)
theorem tC_yX7_first : Cond.code yX7_first cX7_first 4 (Option.some Jvm.ClassFile.FieldType.int) ∈ lw_tbl := List.mem_of_getElem? (i := 458) (by decide +kernel)
theorem tM_RX7_157 : Cond.methodLink RX7 157 yX7_refusalOfTwo ∈ lw_tbl := List.mem_of_getElem? (i := 459) (by decide +kernel)
theorem tI_yX7_refusalOfTwo : Cond.instanceMethod yX7_refusalOfTwo ∈ lw_tbl := List.mem_of_getElem? (i := 461) (by decide +kernel)
theorem tC_yX7_refusalOfTwo : Cond.code yX7_refusalOfTwo cX7_refusalOfTwo 3 (Option.some Jvm.ClassFile.FieldType.int) ∈ lw_tbl := List.mem_of_getElem? (i := 462) (by decide +kernel)
theorem tM_RX7_160 : Cond.methodLink RX7 160 yX3_firstOrder ∈ lw_tbl := List.mem_of_getElem? (i := 463) (by decide +kernel)
theorem tI_yX3_firstOrder : Cond.instanceMethod yX3_firstOrder ∈ lw_tbl := List.mem_of_getElem? (i := 464) (by decide +kernel)
theorem tS_yX3_firstOrder : Cond.selects RX3 yX3_firstOrder yX3_firstOrder ∈ lw_tbl := List.mem_of_getElem? (i := 465) (by decide +kernel)
theorem tC_yX3_firstOrder : Cond.code yX3_firstOrder cX3_firstOrder 7 (Option.some Jvm.ClassFile.FieldType.int) ∈ lw_tbl := List.mem_of_getElem? (i := 466) (by decide +kernel)
theorem tQ_RX3_48 : Cond.fieldLinkNest RX3 48 "EelLocks" "FACTORIALS" "[I" "EelLocks" ∈ lw_tbl := List.mem_of_getElem? (i := 467) (by decide +kernel)
theorem tLS : Cond.laysStatic "EelLocks" "FACTORIALS" "[I" ∈ lw_tbl := List.mem_of_getElem? (i := 468) (by decide +kernel)
theorem tM_RX3_54 : Cond.methodLink RX3 54 (⟨"java/lang/System", "arraycopy", "(Ljava/lang/Object;ILjava/lang/Object;II)V"⟩ : MethodName) ∈ lw_tbl := List.mem_of_getElem? (i := 469) (by decide +kernel)
theorem tM_RX3_60 : Cond.methodLink RX3 60 yX5_figures ∈ lw_tbl := List.mem_of_getElem? (i := 470) (by decide +kernel)
theorem tM_RX3_63 : Cond.methodLink RX3 63 yX3_suits ∈ lw_tbl := List.mem_of_getElem? (i := 471) (by decide +kernel)
theorem tI_yX3_suits : Cond.instanceMethod yX3_suits ∈ lw_tbl := List.mem_of_getElem? (i := 473) (by decide +kernel)
theorem tC_yX3_suits : Cond.code yX3_suits cX3_suits 5 (Option.some Jvm.ClassFile.FieldType.boolean) ∈ lw_tbl := List.mem_of_getElem? (i := 474) (by decide +kernel)
theorem tM_RX3_75 : Cond.methodLink RX3 75 yX1_goOnTo ∈ lw_tbl := List.mem_of_getElem? (i := 475) (by decide +kernel)
theorem tM_RX3_79 : Cond.methodLink RX3 79 yX5_isAt ∈ lw_tbl := List.mem_of_getElem? (i := 476) (by decide +kernel)
theorem tI_yX5_isAt : Cond.instanceMethod yX5_isAt ∈ lw_tbl := List.mem_of_getElem? (i := 477) (by decide +kernel)
theorem tS_yX5_isAt : Cond.selects RX5 yX5_isAt yX5_isAt ∈ lw_tbl := List.mem_of_getElem? (i := 478) (by decide +kernel)
theorem tC_yX5_isAt : Cond.code yX5_isAt cX5_isAt 3 (Option.some Jvm.ClassFile.FieldType.boolean) ∈ lw_tbl := List.mem_of_getElem? (i := 479) (by decide +kernel)
theorem tM_RX3_67 : Cond.methodLink RX3 67 yX3_makeNextOrder ∈ lw_tbl := List.mem_of_getElem? (i := 480) (by decide +kernel)
theorem tI_yX3_makeNextOrder : Cond.instanceMethod yX3_makeNextOrder ∈ lw_tbl := List.mem_of_getElem? (i := 482) (by decide +kernel)
theorem tC_yX3_makeNextOrder : Cond.code yX3_makeNextOrder cX3_makeNextOrder 6 (Option.none : Option Jvm.ClassFile.FieldType) ∈ lw_tbl := List.mem_of_getElem? (i := 483) (by decide +kernel)
theorem tM_RX3_71 : Cond.methodLink RX3 71 yX3_exchange ∈ lw_tbl := List.mem_of_getElem? (i := 484) (by decide +kernel)
theorem tI_yX3_exchange : Cond.instanceMethod yX3_exchange ∈ lw_tbl := List.mem_of_getElem? (i := 486) (by decide +kernel)
theorem tC_yX3_exchange : Cond.code yX3_exchange cX3_exchange 4 (Option.none : Option Jvm.ClassFile.FieldType) ∈ lw_tbl := List.mem_of_getElem? (i := 487) (by decide +kernel)
theorem tM_RL_80 : Cond.methodLink RL 80 yX7_tea ∈ lw_tbl := List.mem_of_getElem? (i := 488) (by decide +kernel)
theorem tI_yX7_tea : Cond.instanceMethod yX7_tea ∈ lw_tbl := List.mem_of_getElem? (i := 489) (by decide +kernel)
theorem tS_yX7_tea : Cond.selects RX7 yX7_tea yX7_tea ∈ lw_tbl := List.mem_of_getElem? (i := 490) (by decide +kernel)
theorem tC_yX7_tea : Cond.code yX7_tea cX7_tea 6 (Option.some Jvm.ClassFile.FieldType.int) ∈ lw_tbl := List.mem_of_getElem? (i := 491) (by decide +kernel)
theorem tM_RX7_164 : Cond.methodLink RX7 164 yX3_leastLoads ∈ lw_tbl := List.mem_of_getElem? (i := 492) (by decide +kernel)
theorem tI_yX3_leastLoads : Cond.instanceMethod yX3_leastLoads ∈ lw_tbl := List.mem_of_getElem? (i := 493) (by decide +kernel)
theorem tS_yX3_leastLoads : Cond.selects RX3 yX3_leastLoads yX3_leastLoads ∈ lw_tbl := List.mem_of_getElem? (i := 494) (by decide +kernel)
theorem tC_yX3_leastLoads : Cond.code yX3_leastLoads cX3_leastLoads 6 (Option.some Jvm.ClassFile.FieldType.int) ∈ lw_tbl := List.mem_of_getElem? (i := 495) (by decide +kernel)
theorem tM_RX3_83 : Cond.methodLink RX3 83 yX3_suitsWith ∈ lw_tbl := List.mem_of_getElem? (i := 496) (by decide +kernel)
theorem tI_yX3_suitsWith : Cond.instanceMethod yX3_suitsWith ∈ lw_tbl := List.mem_of_getElem? (i := 498) (by decide +kernel)
theorem tC_yX3_suitsWith : Cond.code yX3_suitsWith cX3_suitsWith 7 (Option.some Jvm.ClassFile.FieldType.boolean) ∈ lw_tbl := List.mem_of_getElem? (i := 499) (by decide +kernel)
theorem tM_RX3_112 : Cond.methodLink RX3 112 yX5_addLoads ∈ lw_tbl := List.mem_of_getElem? (i := 500) (by decide +kernel)
theorem tM_RX3_87 : Cond.methodLink RX3 87 yX3_canGive ∈ lw_tbl := List.mem_of_getElem? (i := 501) (by decide +kernel)
theorem tI_yX3_canGive : Cond.instanceMethod yX3_canGive ∈ lw_tbl := List.mem_of_getElem? (i := 503) (by decide +kernel)
theorem tC_yX3_canGive : Cond.code yX3_canGive cX3_canGive 5 (Option.some Jvm.ClassFile.FieldType.boolean) ∈ lw_tbl := List.mem_of_getElem? (i := 504) (by decide +kernel)
theorem tM_RX3_95 : Cond.methodLink RX3 95 yX1_hasBarge ∈ lw_tbl := List.mem_of_getElem? (i := 505) (by decide +kernel)
theorem tM_RX3_99 : Cond.methodLink RX3 99 yX1_hasLock ∈ lw_tbl := List.mem_of_getElem? (i := 506) (by decide +kernel)
theorem tM_RX3_102 : Cond.methodLink RX3 102 yX1_isPassed ∈ lw_tbl := List.mem_of_getElem? (i := 507) (by decide +kernel)
theorem tM_RX3_91 : Cond.methodLink RX3 91 yX3_canGiveBoth ∈ lw_tbl := List.mem_of_getElem? (i := 508) (by decide +kernel)
theorem tI_yX3_canGiveBoth : Cond.instanceMethod yX3_canGiveBoth ∈ lw_tbl := List.mem_of_getElem? (i := 510) (by decide +kernel)
theorem tC_yX3_canGiveBoth : Cond.code yX3_canGiveBoth cX3_canGiveBoth 4 (Option.some Jvm.ClassFile.FieldType.boolean) ∈ lw_tbl := List.mem_of_getElem? (i := 511) (by decide +kernel)
theorem tM_RX7_167 : Cond.methodLink RX7 167 yX3_howManyLoads ∈ lw_tbl := List.mem_of_getElem? (i := 512) (by decide +kernel)
theorem tI_yX3_howManyLoads : Cond.instanceMethod yX3_howManyLoads ∈ lw_tbl := List.mem_of_getElem? (i := 513) (by decide +kernel)
theorem tS_yX3_howManyLoads : Cond.selects RX3 yX3_howManyLoads yX3_howManyLoads ∈ lw_tbl := List.mem_of_getElem? (i := 514) (by decide +kernel)
theorem tC_yX3_howManyLoads : Cond.code yX3_howManyLoads cX3_howManyLoads 2 (Option.some Jvm.ClassFile.FieldType.int) ∈ lw_tbl := List.mem_of_getElem? (i := 515) (by decide +kernel)
theorem tM_RL_85 : Cond.methodLink RL 85 yX7_judge ∈ lw_tbl := List.mem_of_getElem? (i := 516) (by decide +kernel)
theorem tI_yX7_judge : Cond.instanceMethod yX7_judge ∈ lw_tbl := List.mem_of_getElem? (i := 517) (by decide +kernel)
theorem tS_yX7_judge : Cond.selects RX7 yX7_judge yX7_judge ∈ lw_tbl := List.mem_of_getElem? (i := 518) (by decide +kernel)
theorem tC_yX7_judge : Cond.code yX7_judge cX7_judge 3 (Option.some Jvm.ClassFile.FieldType.int) ∈ lw_tbl := List.mem_of_getElem? (i := 519) (by decide +kernel)
theorem tM_RX7_170 : Cond.methodLink RX7 170 yX3_spread ∈ lw_tbl := List.mem_of_getElem? (i := 520) (by decide +kernel)
theorem tI_yX3_spread : Cond.instanceMethod yX3_spread ∈ lw_tbl := List.mem_of_getElem? (i := 521) (by decide +kernel)
theorem tS_yX3_spread : Cond.selects RX3 yX3_spread yX3_spread ∈ lw_tbl := List.mem_of_getElem? (i := 522) (by decide +kernel)
theorem tC_yX3_spread : Cond.code yX3_spread cX3_spread 5 (Option.some Jvm.ClassFile.FieldType.boolean) ∈ lw_tbl := List.mem_of_getElem? (i := 523) (by decide +kernel)
theorem tM_RX7_174 : Cond.methodLink RX7 174 yX3_firstMisplaced ∈ lw_tbl := List.mem_of_getElem? (i := 524) (by decide +kernel)
theorem tI_yX3_firstMisplaced : Cond.instanceMethod yX3_firstMisplaced ∈ lw_tbl := List.mem_of_getElem? (i := 525) (by decide +kernel)
theorem tS_yX3_firstMisplaced : Cond.selects RX3 yX3_firstMisplaced yX3_firstMisplaced ∈ lw_tbl := List.mem_of_getElem? (i := 526) (by decide +kernel)
theorem tC_yX3_firstMisplaced : Cond.code yX3_firstMisplaced cX3_firstMisplaced 5 (Option.some Jvm.ClassFile.FieldType.int) ∈ lw_tbl := List.mem_of_getElem? (i := 527) (by decide +kernel)
theorem tM_RX3_119 : Cond.methodLink RX3 119 yX1_atBasin ∈ lw_tbl := List.mem_of_getElem? (i := 528) (by decide +kernel)
theorem tM_RL_89 : Cond.methodLink RL 89 yX7_share ∈ lw_tbl := List.mem_of_getElem? (i := 529) (by decide +kernel)
theorem tI_yX7_share : Cond.instanceMethod yX7_share ∈ lw_tbl := List.mem_of_getElem? (i := 530) (by decide +kernel)
theorem tS_yX7_share : Cond.selects RX7 yX7_share yX7_share ∈ lw_tbl := List.mem_of_getElem? (i := 531) (by decide +kernel)
theorem tC_yX7_share : Cond.code yX7_share cX7_share 3 (Option.some Jvm.ClassFile.FieldType.int) ∈ lw_tbl := List.mem_of_getElem? (i := 532) (by decide +kernel)
theorem tM_RX7_177 : Cond.methodLink RX7 177 yX3_shareAbove ∈ lw_tbl := List.mem_of_getElem? (i := 533) (by decide +kernel)
theorem tI_yX3_shareAbove : Cond.instanceMethod yX3_shareAbove ∈ lw_tbl := List.mem_of_getElem? (i := 534) (by decide +kernel)
theorem tS_yX3_shareAbove : Cond.selects RX3 yX3_shareAbove yX3_shareAbove ∈ lw_tbl := List.mem_of_getElem? (i := 535) (by decide +kernel)
theorem tC_yX3_shareAbove : Cond.code yX3_shareAbove cX3_shareAbove 8 (Option.some Jvm.ClassFile.FieldType.int) ∈ lw_tbl := List.mem_of_getElem? (i := 536) (by decide +kernel)
theorem tM_RX3_122 : Cond.methodLink RX3 122 yJ6_bitCount_0f7a4 ∈ lw_tbl := List.mem_of_getElem? (i := 537) (by decide +kernel)
theorem tT_yJ6_bitCount_0f7a4 : Cond.static yJ6_bitCount_0f7a4 ∈ lw_tbl := List.mem_of_getElem? (i := 538) (by decide +kernel)
theorem tC_yJ6_bitCount_0f7a4 : Cond.code yJ6_bitCount_0f7a4 cJ6_bitCount_0f7a4 1 (Option.some Jvm.ClassFile.FieldType.int) ∈ lw_tbl := List.mem_of_getElem? (i := 539) (by decide +kernel)
theorem tK_RJ6_265 : Cond.constant RJ6 265 (1431655765) ∈ lw_tbl := List.mem_of_getElem? (i := 540) (by decide +kernel)
theorem tK_RJ6_266 : Cond.constant RJ6 266 (858993459) ∈ lw_tbl := List.mem_of_getElem? (i := 541) (by decide +kernel)
theorem tK_RJ6_267 : Cond.constant RJ6 267 (252645135) ∈ lw_tbl := List.mem_of_getElem? (i := 542) (by decide +kernel)
theorem tM_RX3_127 : Cond.methodLink RX3 127 yX3_lastHourOf ∈ lw_tbl := List.mem_of_getElem? (i := 543) (by decide +kernel)
theorem tI_yX3_lastHourOf : Cond.instanceMethod yX3_lastHourOf ∈ lw_tbl := List.mem_of_getElem? (i := 545) (by decide +kernel)
theorem tC_yX3_lastHourOf : Cond.code yX3_lastHourOf cX3_lastHourOf 6 (Option.some Jvm.ClassFile.FieldType.int) ∈ lw_tbl := List.mem_of_getElem? (i := 546) (by decide +kernel)
theorem tM_RX3_131 : Cond.methodLink RX3 131 yX5_clearHours ∈ lw_tbl := List.mem_of_getElem? (i := 547) (by decide +kernel)
theorem tM_RX3_137 : Cond.methodLink RX3 137 yX5_greatestHour ∈ lw_tbl := List.mem_of_getElem? (i := 548) (by decide +kernel)
theorem tI_yX5_greatestHour : Cond.instanceMethod yX5_greatestHour ∈ lw_tbl := List.mem_of_getElem? (i := 549) (by decide +kernel)
theorem tS_yX5_greatestHour : Cond.selects RX5 yX5_greatestHour yX5_greatestHour ∈ lw_tbl := List.mem_of_getElem? (i := 550) (by decide +kernel)
theorem tC_yX5_greatestHour : Cond.code yX5_greatestHour cX5_greatestHour 3 (Option.some Jvm.ClassFile.FieldType.int) ∈ lw_tbl := List.mem_of_getElem? (i := 551) (by decide +kernel)
theorem tM_RX5_43 : Cond.methodLink RX5 43 yJ9_max_7cf53 ∈ lw_tbl := List.mem_of_getElem? (i := 552) (by decide +kernel)
theorem tF_RX7_180 : Cond.fieldLink RX7 180 "EelLocks" "FACTORIALS" "[I" ∈ lw_tbl := List.mem_of_getElem? (i := 553) (by decide +kernel)
theorem tM_RX7_183 : Cond.methodLink RX7 183 yX7_tellFraction ∈ lw_tbl := List.mem_of_getElem? (i := 554) (by decide +kernel)
theorem tT_yX7_tellFraction : Cond.static yX7_tellFraction ∈ lw_tbl := List.mem_of_getElem? (i := 555) (by decide +kernel)
theorem tC_yX7_tellFraction : Cond.code yX7_tellFraction cX7_tellFraction 5 (Option.some Jvm.ClassFile.FieldType.int) ∈ lw_tbl := List.mem_of_getElem? (i := 556) (by decide +kernel)
theorem tM_RX7_260 : Cond.methodLink RX7 260 yJ9_abs_0f7a4 ∈ lw_tbl := List.mem_of_getElem? (i := 557) (by decide +kernel)
theorem tT_yJ9_abs_0f7a4 : Cond.static yJ9_abs_0f7a4 ∈ lw_tbl := List.mem_of_getElem? (i := 558) (by decide +kernel)
theorem tC_yJ9_abs_0f7a4 : Cond.code yJ9_abs_0f7a4 cJ9_abs_0f7a4 1 (Option.some Jvm.ClassFile.FieldType.int) ∈ lw_tbl := List.mem_of_getElem? (i := 559) (by decide +kernel)
theorem tM_RX7_265 : Cond.methodLink RX7 265 yX7_greatestDivisor ∈ lw_tbl := List.mem_of_getElem? (i := 560) (by decide +kernel)
theorem tT_yX7_greatestDivisor : Cond.static yX7_greatestDivisor ∈ lw_tbl := List.mem_of_getElem? (i := 561) (by decide +kernel)
theorem tC_yX7_greatestDivisor : Cond.code yX7_greatestDivisor cX7_greatestDivisor 6 (Option.some Jvm.ClassFile.FieldType.int) ∈ lw_tbl := List.mem_of_getElem? (i := 562) (by decide +kernel)
theorem tM_RL_94 : Cond.methodLink RL 94 yX7_gave ∈ lw_tbl := List.mem_of_getElem? (i := 563) (by decide +kernel)
theorem tI_yX7_gave : Cond.instanceMethod yX7_gave ∈ lw_tbl := List.mem_of_getElem? (i := 564) (by decide +kernel)
theorem tS_yX7_gave : Cond.selects RX7 yX7_gave yX7_gave ∈ lw_tbl := List.mem_of_getElem? (i := 565) (by decide +kernel)
theorem tC_yX7_gave : Cond.code yX7_gave cX7_gave 4 (Option.some Jvm.ClassFile.FieldType.int) ∈ lw_tbl := List.mem_of_getElem? (i := 566) (by decide +kernel)
theorem tM_RX7_187 : Cond.methodLink RX7 187 yX3_areAllBarges ∈ lw_tbl := List.mem_of_getElem? (i := 567) (by decide +kernel)
theorem tI_yX3_areAllBarges : Cond.instanceMethod yX3_areAllBarges ∈ lw_tbl := List.mem_of_getElem? (i := 568) (by decide +kernel)
theorem tS_yX3_areAllBarges : Cond.selects RX3 yX3_areAllBarges yX3_areAllBarges ∈ lw_tbl := List.mem_of_getElem? (i := 569) (by decide +kernel)
theorem tC_yX3_areAllBarges : Cond.code yX3_areAllBarges cX3_areAllBarges 5 (Option.some Jvm.ClassFile.FieldType.boolean) ∈ lw_tbl := List.mem_of_getElem? (i := 570) (by decide +kernel)
theorem tM_RX3_116 : Cond.methodLink RX3 116 yX3_spread ∈ lw_tbl := List.mem_of_getElem? (i := 571) (by decide +kernel)
theorem tM_RX7_191 : Cond.methodLink RX7 191 yX2_findGivers ∈ lw_tbl := List.mem_of_getElem? (i := 572) (by decide +kernel)
theorem tI_yX2_findGivers : Cond.instanceMethod yX2_findGivers ∈ lw_tbl := List.mem_of_getElem? (i := 573) (by decide +kernel)
theorem tS_yX2_findGivers : Cond.selects RX2 yX2_findGivers yX2_findGivers ∈ lw_tbl := List.mem_of_getElem? (i := 574) (by decide +kernel)
theorem tC_yX2_findGivers : Cond.code yX2_findGivers cX2_findGivers 7 (Option.none : Option Jvm.ClassFile.FieldType) ∈ lw_tbl := List.mem_of_getElem? (i := 575) (by decide +kernel)
theorem tM_RX2_30 : Cond.methodLink RX2 30 yX2_comesOutSo ∈ lw_tbl := List.mem_of_getElem? (i := 576) (by decide +kernel)
theorem tI_yX2_comesOutSo : Cond.instanceMethod yX2_comesOutSo ∈ lw_tbl := List.mem_of_getElem? (i := 578) (by decide +kernel)
theorem tC_yX2_comesOutSo : Cond.code yX2_comesOutSo cX2_comesOutSo 6 (Option.some Jvm.ClassFile.FieldType.boolean) ∈ lw_tbl := List.mem_of_getElem? (i := 579) (by decide +kernel)
theorem tM_RX2_37 : Cond.methodLink RX2 37 yX1_newTrial ∈ lw_tbl := List.mem_of_getElem? (i := 580) (by decide +kernel)
theorem tM_RX2_46 : Cond.methodLink RX2 46 yX2_addGivers ∈ lw_tbl := List.mem_of_getElem? (i := 581) (by decide +kernel)
theorem tI_yX2_addGivers : Cond.instanceMethod yX2_addGivers ∈ lw_tbl := List.mem_of_getElem? (i := 583) (by decide +kernel)
theorem tC_yX2_addGivers : Cond.code yX2_addGivers cX2_addGivers 6 (Option.none : Option Jvm.ClassFile.FieldType) ∈ lw_tbl := List.mem_of_getElem? (i := 584) (by decide +kernel)
theorem tM_RX2_58 : Cond.methodLink RX2 58 yX5_addLoads ∈ lw_tbl := List.mem_of_getElem? (i := 585) (by decide +kernel)
theorem tM_RX2_50 : Cond.methodLink RX2 50 yX1_goOnTo ∈ lw_tbl := List.mem_of_getElem? (i := 586) (by decide +kernel)
theorem tM_RX2_54 : Cond.methodLink RX2 54 yX5_figures ∈ lw_tbl := List.mem_of_getElem? (i := 587) (by decide +kernel)
theorem tM_RL_99 : Cond.methodLink RL 99 yX7_rests ∈ lw_tbl := List.mem_of_getElem? (i := 588) (by decide +kernel)
theorem tI_yX7_rests : Cond.instanceMethod yX7_rests ∈ lw_tbl := List.mem_of_getElem? (i := 589) (by decide +kernel)
theorem tS_yX7_rests : Cond.selects RX7 yX7_rests yX7_rests ∈ lw_tbl := List.mem_of_getElem? (i := 590) (by decide +kernel)
theorem tC_yX7_rests : Cond.code yX7_rests cX7_rests 5 (Option.some Jvm.ClassFile.FieldType.int) ∈ lw_tbl := List.mem_of_getElem? (i := 591) (by decide +kernel)
theorem tM_RX7_204 : Cond.methodLink RX7 204 yX2_findRests ∈ lw_tbl := List.mem_of_getElem? (i := 592) (by decide +kernel)
theorem tI_yX2_findRests : Cond.instanceMethod yX2_findRests ∈ lw_tbl := List.mem_of_getElem? (i := 593) (by decide +kernel)
theorem tS_yX2_findRests : Cond.selects RX2 yX2_findRests yX2_findRests ∈ lw_tbl := List.mem_of_getElem? (i := 594) (by decide +kernel)
theorem tC_yX2_findRests : Cond.code yX2_findRests cX2_findRests 7 (Option.none : Option Jvm.ClassFile.FieldType) ∈ lw_tbl := List.mem_of_getElem? (i := 595) (by decide +kernel)
theorem tM_RX2_62 : Cond.methodLink RX2 62 yX2_findLosses ∈ lw_tbl := List.mem_of_getElem? (i := 596) (by decide +kernel)
theorem tI_yX2_findLosses : Cond.instanceMethod yX2_findLosses ∈ lw_tbl := List.mem_of_getElem? (i := 598) (by decide +kernel)
theorem tC_yX2_findLosses : Cond.code yX2_findLosses cX2_findLosses 8 (Option.none : Option Jvm.ClassFile.FieldType) ∈ lw_tbl := List.mem_of_getElem? (i := 599) (by decide +kernel)
theorem tM_RX2_76 : Cond.methodLink RX2 76 yX5_placeOf ∈ lw_tbl := List.mem_of_getElem? (i := 600) (by decide +kernel)
theorem tM_RX2_69 : Cond.methodLink RX2 69 yX2_isAtRest ∈ lw_tbl := List.mem_of_getElem? (i := 601) (by decide +kernel)
theorem tI_yX2_isAtRest : Cond.instanceMethod yX2_isAtRest ∈ lw_tbl := List.mem_of_getElem? (i := 603) (by decide +kernel)
theorem tC_yX2_isAtRest : Cond.code yX2_isAtRest cX2_isAtRest 4 (Option.some Jvm.ClassFile.FieldType.boolean) ∈ lw_tbl := List.mem_of_getElem? (i := 604) (by decide +kernel)
theorem tM_RL_104 : Cond.methodLink RL 104 yX7_asleep ∈ lw_tbl := List.mem_of_getElem? (i := 605) (by decide +kernel)
theorem tI_yX7_asleep : Cond.instanceMethod yX7_asleep ∈ lw_tbl := List.mem_of_getElem? (i := 606) (by decide +kernel)
theorem tS_yX7_asleep : Cond.selects RX7 yX7_asleep yX7_asleep ∈ lw_tbl := List.mem_of_getElem? (i := 607) (by decide +kernel)
theorem tC_yX7_asleep : Cond.code yX7_asleep cX7_asleep 6 (Option.some Jvm.ClassFile.FieldType.int) ∈ lw_tbl := List.mem_of_getElem? (i := 608) (by decide +kernel)
theorem tM_RX7_211 : Cond.methodLink RX7 211 yX7_power ∈ lw_tbl := List.mem_of_getElem? (i := 609) (by decide +kernel)
theorem tT_yX7_power : Cond.static yX7_power ∈ lw_tbl := List.mem_of_getElem? (i := 610) (by decide +kernel)
theorem tC_yX7_power : Cond.code yX7_power cX7_power 4 (Option.some Jvm.ClassFile.FieldType.int) ∈ lw_tbl := List.mem_of_getElem? (i := 611) (by decide +kernel)
theorem tM_RX7_214 : Cond.methodLink RX7 214 yX2_asleepAbove ∈ lw_tbl := List.mem_of_getElem? (i := 612) (by decide +kernel)
theorem tI_yX2_asleepAbove : Cond.instanceMethod yX2_asleepAbove ∈ lw_tbl := List.mem_of_getElem? (i := 613) (by decide +kernel)
theorem tS_yX2_asleepAbove : Cond.selects RX2 yX2_asleepAbove yX2_asleepAbove ∈ lw_tbl := List.mem_of_getElem? (i := 614) (by decide +kernel)
theorem tC_yX2_asleepAbove : Cond.code yX2_asleepAbove cX2_asleepAbove 9 (Option.some Jvm.ClassFile.FieldType.int) ∈ lw_tbl := List.mem_of_getElem? (i := 615) (by decide +kernel)
theorem tM_RX2_80 : Cond.methodLink RX2 80 yX1_locksLeft ∈ lw_tbl := List.mem_of_getElem? (i := 616) (by decide +kernel)
theorem tM_RX2_83 : Cond.methodLink RX2 83 yX2_isAtWith ∈ lw_tbl := List.mem_of_getElem? (i := 617) (by decide +kernel)
theorem tI_yX2_isAtWith : Cond.instanceMethod yX2_isAtWith ∈ lw_tbl := List.mem_of_getElem? (i := 619) (by decide +kernel)
theorem tC_yX2_isAtWith : Cond.code yX2_isAtWith cX2_isAtWith 7 (Option.some Jvm.ClassFile.FieldType.boolean) ∈ lw_tbl := List.mem_of_getElem? (i := 620) (by decide +kernel)
theorem tM_RX2_98 : Cond.methodLink RX2 98 yX5_isAt ∈ lw_tbl := List.mem_of_getElem? (i := 621) (by decide +kernel)
theorem tM_RX2_86 : Cond.methodLink RX2 86 yJ6_bitCount_0f7a4 ∈ lw_tbl := List.mem_of_getElem? (i := 622) (by decide +kernel)
theorem tQ_RX2_91 : Cond.methodLinkNest RX2 91 yX7_power "EelLocks" ∈ lw_tbl := List.mem_of_getElem? (i := 623) (by decide +kernel)
theorem tM_RL_111 : Cond.methodLink RL 111 yX7_seed ∈ lw_tbl := List.mem_of_getElem? (i := 624) (by decide +kernel)
theorem tI_yX7_seed : Cond.instanceMethod yX7_seed ∈ lw_tbl := List.mem_of_getElem? (i := 625) (by decide +kernel)
theorem tS_yX7_seed : Cond.selects RX7 yX7_seed yX7_seed ∈ lw_tbl := List.mem_of_getElem? (i := 626) (by decide +kernel)
theorem tC_yX7_seed : Cond.code yX7_seed cX7_seed 5 (Option.some Jvm.ClassFile.FieldType.long) ∈ lw_tbl := List.mem_of_getElem? (i := 627) (by decide +kernel)
theorem tM_RL_116 : Cond.methodLink RL 116 yX7_days ∈ lw_tbl := List.mem_of_getElem? (i := 628) (by decide +kernel)
theorem tI_yX7_days : Cond.instanceMethod yX7_days ∈ lw_tbl := List.mem_of_getElem? (i := 629) (by decide +kernel)
theorem tS_yX7_days : Cond.selects RX7 yX7_days yX7_days ∈ lw_tbl := List.mem_of_getElem? (i := 630) (by decide +kernel)
theorem tC_yX7_days : Cond.code yX7_days cX7_days 6 (Option.some Jvm.ClassFile.FieldType.int) ∈ lw_tbl := List.mem_of_getElem? (i := 631) (by decide +kernel)
theorem tK_RX7_222 : Cond.constantLong RX7 222 (6364136223846793005) ∈ lw_tbl := List.mem_of_getElem? (i := 632) (by decide +kernel)
theorem tK_RX7_224 : Cond.constantLong RX7 224 (1442695040888963407) ∈ lw_tbl := List.mem_of_getElem? (i := 633) (by decide +kernel)
theorem tK_RX7_226 : Cond.constantLong RX7 226 (64) ∈ lw_tbl := List.mem_of_getElem? (i := 634) (by decide +kernel)
theorem tM_RX7_228 : Cond.methodLink RX7 228 yX2_isFirstIfAllGive ∈ lw_tbl := List.mem_of_getElem? (i := 635) (by decide +kernel)
theorem tI_yX2_isFirstIfAllGive : Cond.instanceMethod yX2_isFirstIfAllGive ∈ lw_tbl := List.mem_of_getElem? (i := 636) (by decide +kernel)
theorem tS_yX2_isFirstIfAllGive : Cond.selects RX2 yX2_isFirstIfAllGive yX2_isFirstIfAllGive ∈ lw_tbl := List.mem_of_getElem? (i := 637) (by decide +kernel)
theorem tC_yX2_isFirstIfAllGive : Cond.code yX2_isFirstIfAllGive cX2_isFirstIfAllGive 6 (Option.some Jvm.ClassFile.FieldType.boolean) ∈ lw_tbl := List.mem_of_getElem? (i := 638) (by decide +kernel)
theorem tM_RL_120 : Cond.methodLink RL 120 yX7_keep ∈ lw_tbl := List.mem_of_getElem? (i := 639) (by decide +kernel)
theorem tI_yX7_keep : Cond.instanceMethod yX7_keep ∈ lw_tbl := List.mem_of_getElem? (i := 640) (by decide +kernel)
theorem tS_yX7_keep : Cond.selects RX7 yX7_keep yX7_keep ∈ lw_tbl := List.mem_of_getElem? (i := 641) (by decide +kernel)
theorem tC_yX7_keep : Cond.code yX7_keep cX7_keep 2 (Option.some Jvm.ClassFile.FieldType.int) ∈ lw_tbl := List.mem_of_getElem? (i := 642) (by decide +kernel)
theorem tM_RX7_232 : Cond.methodLink RX7 232 yX4_put ∈ lw_tbl := List.mem_of_getElem? (i := 643) (by decide +kernel)
theorem tI_yX4_put : Cond.instanceMethod yX4_put ∈ lw_tbl := List.mem_of_getElem? (i := 644) (by decide +kernel)
theorem tS_yX4_put : Cond.selects RX4 yX4_put yX4_put ∈ lw_tbl := List.mem_of_getElem? (i := 645) (by decide +kernel)
theorem tC_yX4_put : Cond.code yX4_put cX4_put 3 (Option.none : Option Jvm.ClassFile.FieldType) ∈ lw_tbl := List.mem_of_getElem? (i := 646) (by decide +kernel)
theorem tM_RX4_22 : Cond.methodLink RX4 22 yX5_copyFrom ∈ lw_tbl := List.mem_of_getElem? (i := 647) (by decide +kernel)
theorem tM_RL_124 : Cond.methodLink RL 124 yX7_again ∈ lw_tbl := List.mem_of_getElem? (i := 648) (by decide +kernel)
theorem tI_yX7_again : Cond.instanceMethod yX7_again ∈ lw_tbl := List.mem_of_getElem? (i := 649) (by decide +kernel)
theorem tS_yX7_again : Cond.selects RX7 yX7_again yX7_again ∈ lw_tbl := List.mem_of_getElem? (i := 650) (by decide +kernel)
theorem tC_yX7_again : Cond.code yX7_again cX7_again 2 (Option.some Jvm.ClassFile.FieldType.int) ∈ lw_tbl := List.mem_of_getElem? (i := 651) (by decide +kernel)
theorem tM_RX7_247 : Cond.methodLink RX7 247 yX5_copyFrom ∈ lw_tbl := List.mem_of_getElem? (i := 652) (by decide +kernel)
theorem tM_RL_128 : Cond.methodLink RL 128 yX7_count ∈ lw_tbl := List.mem_of_getElem? (i := 653) (by decide +kernel)
theorem tI_yX7_count : Cond.instanceMethod yX7_count ∈ lw_tbl := List.mem_of_getElem? (i := 654) (by decide +kernel)
theorem tS_yX7_count : Cond.selects RX7 yX7_count yX7_count ∈ lw_tbl := List.mem_of_getElem? (i := 655) (by decide +kernel)
theorem tC_yX7_count : Cond.code yX7_count cX7_count 2 (Option.some Jvm.ClassFile.FieldType.int) ∈ lw_tbl := List.mem_of_getElem? (i := 656) (by decide +kernel)
theorem tM_RX7_250 : Cond.methodLink RX7 250 yX7_sum ∈ lw_tbl := List.mem_of_getElem? (i := 657) (by decide +kernel)
theorem tT_yX7_sum : Cond.static yX7_sum ∈ lw_tbl := List.mem_of_getElem? (i := 658) (by decide +kernel)
theorem tC_yX7_sum : Cond.code yX7_sum cX7_sum 4 (Option.some Jvm.ClassFile.FieldType.int) ∈ lw_tbl := List.mem_of_getElem? (i := 659) (by decide +kernel)
theorem tM_RX7_257 : Cond.methodLink RX7 257 yX5_greatestHour ∈ lw_tbl := List.mem_of_getElem? (i := 660) (by decide +kernel)
theorem tL_RL_10 : Cond.classLink RL 10 RX8 ∈ lw_tbl := List.mem_of_getElem? (i := 661) (by decide +kernel)
theorem tB_RX8 : Cond.instantiable RX8 23 ∈ lw_tbl := List.mem_of_getElem? (i := 662) (by decide +kernel)
theorem tM_RL_12 : Cond.methodLink RL 12 yX8_init ∈ lw_tbl := List.mem_of_getElem? (i := 663) (by decide +kernel)
theorem tI_yX8_init : Cond.instanceMethod yX8_init ∈ lw_tbl := List.mem_of_getElem? (i := 664) (by decide +kernel)
theorem tC_yX8_init : Cond.code yX8_init cX8_init 1 (Option.none : Option Jvm.ClassFile.FieldType) ∈ lw_tbl := List.mem_of_getElem? (i := 665) (by decide +kernel)
theorem tM_RX8_1 : Cond.methodLink RX8 1 (⟨"java/lang/Object", "<init>", "()V"⟩ : MethodName) ∈ lw_tbl := List.mem_of_getElem? (i := 666) (by decide +kernel)
theorem tF_RX8_50 : Cond.fieldLink RX8 50 "EelLocksModel" "locks" "I" ∈ lw_tbl := List.mem_of_getElem? (i := 667) (by decide +kernel)
theorem tF_RX8_83 : Cond.fieldLink RX8 83 "EelLocksModel" "barges" "I" ∈ lw_tbl := List.mem_of_getElem? (i := 668) (by decide +kernel)
theorem tF_RX8_7 : Cond.fieldLink RX8 7 "EelLocksModel" "longs" "[I" ∈ lw_tbl := List.mem_of_getElem? (i := 669) (by decide +kernel)
theorem tF_RX8_13 : Cond.fieldLink RX8 13 "EelLocksModel" "heavy" "[I" ∈ lw_tbl := List.mem_of_getElem? (i := 670) (by decide +kernel)
theorem tF_RX8_16 : Cond.fieldLink RX8 16 "EelLocksModel" "now" "[I" ∈ lw_tbl := List.mem_of_getElem? (i := 671) (by decide +kernel)
theorem tF_RX8_19 : Cond.fieldLink RX8 19 "EelLocksModel" "readLaw" "[I" ∈ lw_tbl := List.mem_of_getElem? (i := 672) (by decide +kernel)
theorem tF_RX8_22 : Cond.fieldLink RX8 22 "EelLocksModel" "readBarge" "[I" ∈ lw_tbl := List.mem_of_getElem? (i := 673) (by decide +kernel)
theorem tF_RX8_69 : Cond.fieldLink RX8 69 "EelLocksModel" "readLocks" "I" ∈ lw_tbl := List.mem_of_getElem? (i := 674) (by decide +kernel)
theorem tF_RX8_72 : Cond.fieldLink RX8 72 "EelLocksModel" "readBarges" "I" ∈ lw_tbl := List.mem_of_getElem? (i := 675) (by decide +kernel)
theorem tF_RX8_25 : Cond.fieldLink RX8 25 "EelLocksModel" "text" "[I" ∈ lw_tbl := List.mem_of_getElem? (i := 676) (by decide +kernel)
theorem tF_RX8_60 : Cond.fieldLink RX8 60 "EelLocksModel" "length" "I" ∈ lw_tbl := List.mem_of_getElem? (i := 677) (by decide +kernel)
theorem tF_RX8_66 : Cond.fieldLink RX8 66 "EelLocksModel" "at" "I" ∈ lw_tbl := List.mem_of_getElem? (i := 678) (by decide +kernel)
theorem tF_RX8_63 : Cond.fieldLink RX8 63 "EelLocksModel" "faultAt" "I" ∈ lw_tbl := List.mem_of_getElem? (i := 679) (by decide +kernel)
theorem tF_RX8_28 : Cond.fieldLink RX8 28 "EelLocksModel" "with" "[I" ∈ lw_tbl := List.mem_of_getElem? (i := 680) (by decide +kernel)
theorem tF_RX8_86 : Cond.fieldLink RX8 86 "EelLocksModel" "acts" "I" ∈ lw_tbl := List.mem_of_getElem? (i := 681) (by decide +kernel)
theorem tF_RX8_111 : Cond.fieldLink RX8 111 "EelLocksModel" "next" "I" ∈ lw_tbl := List.mem_of_getElem? (i := 682) (by decide +kernel)
theorem tF_RX8_31 : Cond.fieldLink RX8 31 "EelLocksModel" "row" "[I" ∈ lw_tbl := List.mem_of_getElem? (i := 683) (by decide +kernel)
theorem tF_RX8_34 : Cond.fieldLink RX8 34 "EelLocksModel" "greatests" "[I" ∈ lw_tbl := List.mem_of_getElem? (i := 684) (by decide +kernel)
theorem tF_RX8_37 : Cond.fieldLink RX8 37 "EelLocksModel" "ones16" "[I" ∈ lw_tbl := List.mem_of_getElem? (i := 685) (by decide +kernel)
theorem tF_RX8_40 : Cond.fieldLink RX8 40 "EelLocksModel" "others16" "[I" ∈ lw_tbl := List.mem_of_getElem? (i := 686) (by decide +kernel)
theorem tF_RX8_187 : Cond.fieldLink RX8 187 "EelLocksModel" "seed" "J" ∈ lw_tbl := List.mem_of_getElem? (i := 687) (by decide +kernel)
theorem tF_RX8_43 : Cond.fieldLink RX8 43 "EelLocksModel" "isKept" "[Z" ∈ lw_tbl := List.mem_of_getElem? (i := 688) (by decide +kernel)
theorem tF_RX8_47 : Cond.fieldLink RX8 47 "EelLocksModel" "kept" "[I" ∈ lw_tbl := List.mem_of_getElem? (i := 689) (by decide +kernel)
theorem tM_RL_17 : Cond.methodLink RL 17 yX8_write ∈ lw_tbl := List.mem_of_getElem? (i := 737) (by decide +kernel)
theorem tI_yX8_write : Cond.instanceMethod yX8_write ∈ lw_tbl := List.mem_of_getElem? (i := 738) (by decide +kernel)
theorem tS_yX8_write : Cond.selects RX8 yX8_write yX8_write ∈ lw_tbl := List.mem_of_getElem? (i := 739) (by decide +kernel)
theorem tC_yX8_write : Cond.code yX8_write cX8_write 2 (Option.some Jvm.ClassFile.FieldType.int) ∈ lw_tbl := List.mem_of_getElem? (i := 740) (by decide +kernel)
theorem tK_RX8_54 : Cond.constantLong RX8 54 (255) ∈ lw_tbl := List.mem_of_getElem? (i := 741) (by decide +kernel)
theorem tM_RX8_56 : Cond.methodLink RX8 56 yX8_in ∈ lw_tbl := List.mem_of_getElem? (i := 742) (by decide +kernel)
theorem tT_yX8_in : Cond.static yX8_in ∈ lw_tbl := List.mem_of_getElem? (i := 743) (by decide +kernel)
theorem tC_yX8_in : Cond.code yX8_in cX8_in 6 (Option.some Jvm.ClassFile.FieldType.boolean) ∈ lw_tbl := List.mem_of_getElem? (i := 744) (by decide +kernel)
theorem tM_RL_22 : Cond.methodLink RL 22 yX8_wipe ∈ lw_tbl := List.mem_of_getElem? (i := 745) (by decide +kernel)
theorem tI_yX8_wipe : Cond.instanceMethod yX8_wipe ∈ lw_tbl := List.mem_of_getElem? (i := 746) (by decide +kernel)
theorem tS_yX8_wipe : Cond.selects RX8 yX8_wipe yX8_wipe ∈ lw_tbl := List.mem_of_getElem? (i := 747) (by decide +kernel)
theorem tC_yX8_wipe : Cond.code yX8_wipe cX8_wipe 2 (Option.some Jvm.ClassFile.FieldType.int) ∈ lw_tbl := List.mem_of_getElem? (i := 748) (by decide +kernel)
theorem tM_RL_26 : Cond.methodLink RL 26 yX8_fault ∈ lw_tbl := List.mem_of_getElem? (i := 749) (by decide +kernel)
theorem tI_yX8_fault : Cond.instanceMethod yX8_fault ∈ lw_tbl := List.mem_of_getElem? (i := 750) (by decide +kernel)
theorem tS_yX8_fault : Cond.selects RX8 yX8_fault yX8_fault ∈ lw_tbl := List.mem_of_getElem? (i := 751) (by decide +kernel)
theorem tC_yX8_fault : Cond.code yX8_fault cX8_fault 1 (Option.some Jvm.ClassFile.FieldType.int) ∈ lw_tbl := List.mem_of_getElem? (i := 752) (by decide +kernel)
theorem tM_RX8_79 : Cond.methodLink RX8 79 yX8_readText ∈ lw_tbl := List.mem_of_getElem? (i := 753) (by decide +kernel)
theorem tI_yX8_readText : Cond.instanceMethod yX8_readText ∈ lw_tbl := List.mem_of_getElem? (i := 755) (by decide +kernel)
theorem tC_yX8_readText : Cond.code yX8_readText cX8_readText 1 (Option.some Jvm.ClassFile.FieldType.int) ∈ lw_tbl := List.mem_of_getElem? (i := 756) (by decide +kernel)
theorem tM_RX8_75 : Cond.methodLink RX8 75 yX8_figure ∈ lw_tbl := List.mem_of_getElem? (i := 757) (by decide +kernel)
theorem tI_yX8_figure : Cond.instanceMethod yX8_figure ∈ lw_tbl := List.mem_of_getElem? (i := 759) (by decide +kernel)
theorem tC_yX8_figure : Cond.code yX8_figure cX8_figure 4 (Option.some Jvm.ClassFile.FieldType.int) ∈ lw_tbl := List.mem_of_getElem? (i := 760) (by decide +kernel)
theorem tM_RL_30 : Cond.methodLink RL 30 yX8_canal ∈ lw_tbl := List.mem_of_getElem? (i := 761) (by decide +kernel)
theorem tI_yX8_canal : Cond.instanceMethod yX8_canal ∈ lw_tbl := List.mem_of_getElem? (i := 762) (by decide +kernel)
theorem tS_yX8_canal : Cond.selects RX8 yX8_canal yX8_canal ∈ lw_tbl := List.mem_of_getElem? (i := 763) (by decide +kernel)
theorem tC_yX8_canal : Cond.code yX8_canal cX8_canal 2 (Option.some Jvm.ClassFile.FieldType.int) ∈ lw_tbl := List.mem_of_getElem? (i := 764) (by decide +kernel)
theorem tM_RL_35 : Cond.methodLink RL 35 yX8_barge ∈ lw_tbl := List.mem_of_getElem? (i := 765) (by decide +kernel)
theorem tI_yX8_barge : Cond.instanceMethod yX8_barge ∈ lw_tbl := List.mem_of_getElem? (i := 766) (by decide +kernel)
theorem tS_yX8_barge : Cond.selects RX8 yX8_barge yX8_barge ∈ lw_tbl := List.mem_of_getElem? (i := 767) (by decide +kernel)
theorem tC_yX8_barge : Cond.code yX8_barge cX8_barge 3 (Option.some Jvm.ClassFile.FieldType.int) ∈ lw_tbl := List.mem_of_getElem? (i := 768) (by decide +kernel)
theorem tM_RX8_89 : Cond.methodLink RX8 89 yX8_isBarge ∈ lw_tbl := List.mem_of_getElem? (i := 769) (by decide +kernel)
theorem tI_yX8_isBarge : Cond.instanceMethod yX8_isBarge ∈ lw_tbl := List.mem_of_getElem? (i := 771) (by decide +kernel)
theorem tC_yX8_isBarge : Cond.code yX8_isBarge cX8_isBarge 2 (Option.some Jvm.ClassFile.FieldType.boolean) ∈ lw_tbl := List.mem_of_getElem? (i := 772) (by decide +kernel)
theorem tM_RX8_93 : Cond.methodLink RX8 93 yX8_placeOf ∈ lw_tbl := List.mem_of_getElem? (i := 773) (by decide +kernel)
theorem tI_yX8_placeOf : Cond.instanceMethod yX8_placeOf ∈ lw_tbl := List.mem_of_getElem? (i := 775) (by decide +kernel)
theorem tC_yX8_placeOf : Cond.code yX8_placeOf cX8_placeOf 6 (Option.some Jvm.ClassFile.FieldType.int) ∈ lw_tbl := List.mem_of_getElem? (i := 776) (by decide +kernel)
theorem tM_RL_39 : Cond.methodLink RL 39 yX8_lock ∈ lw_tbl := List.mem_of_getElem? (i := 777) (by decide +kernel)
theorem tI_yX8_lock : Cond.instanceMethod yX8_lock ∈ lw_tbl := List.mem_of_getElem? (i := 778) (by decide +kernel)
theorem tS_yX8_lock : Cond.selects RX8 yX8_lock yX8_lock ∈ lw_tbl := List.mem_of_getElem? (i := 779) (by decide +kernel)
theorem tC_yX8_lock : Cond.code yX8_lock cX8_lock 3 (Option.some Jvm.ClassFile.FieldType.int) ∈ lw_tbl := List.mem_of_getElem? (i := 780) (by decide +kernel)
theorem tM_RX8_97 : Cond.methodLink RX8 97 yX8_isLock ∈ lw_tbl := List.mem_of_getElem? (i := 781) (by decide +kernel)
theorem tI_yX8_isLock : Cond.instanceMethod yX8_isLock ∈ lw_tbl := List.mem_of_getElem? (i := 783) (by decide +kernel)
theorem tC_yX8_isLock : Cond.code yX8_isLock cX8_isLock 2 (Option.some Jvm.ClassFile.FieldType.boolean) ∈ lw_tbl := List.mem_of_getElem? (i := 784) (by decide +kernel)
theorem tM_RX8_100 : Cond.methodLink RX8 100 yX8_givenAt ∈ lw_tbl := List.mem_of_getElem? (i := 785) (by decide +kernel)
theorem tI_yX8_givenAt : Cond.instanceMethod yX8_givenAt ∈ lw_tbl := List.mem_of_getElem? (i := 787) (by decide +kernel)
theorem tC_yX8_givenAt : Cond.code yX8_givenAt cX8_givenAt 4 (Option.some Jvm.ClassFile.FieldType.int) ∈ lw_tbl := List.mem_of_getElem? (i := 788) (by decide +kernel)
theorem tM_RL_43 : Cond.methodLink RL 43 yX8_pass ∈ lw_tbl := List.mem_of_getElem? (i := 789) (by decide +kernel)
theorem tI_yX8_pass : Cond.instanceMethod yX8_pass ∈ lw_tbl := List.mem_of_getElem? (i := 790) (by decide +kernel)
theorem tS_yX8_pass : Cond.selects RX8 yX8_pass yX8_pass ∈ lw_tbl := List.mem_of_getElem? (i := 791) (by decide +kernel)
theorem tC_yX8_pass : Cond.code yX8_pass cX8_pass 1 (Option.some Jvm.ClassFile.FieldType.int) ∈ lw_tbl := List.mem_of_getElem? (i := 792) (by decide +kernel)
theorem tM_RX8_114 : Cond.methodLink RX8 114 yX8_keepAct ∈ lw_tbl := List.mem_of_getElem? (i := 793) (by decide +kernel)
theorem tI_yX8_keepAct : Cond.instanceMethod yX8_keepAct ∈ lw_tbl := List.mem_of_getElem? (i := 795) (by decide +kernel)
theorem tC_yX8_keepAct : Cond.code yX8_keepAct cX8_keepAct 2 (Option.none : Option Jvm.ClassFile.FieldType) ∈ lw_tbl := List.mem_of_getElem? (i := 796) (by decide +kernel)
theorem tM_RX8_117 : Cond.methodLink RX8 117 yX8_passOn ∈ lw_tbl := List.mem_of_getElem? (i := 797) (by decide +kernel)
theorem tI_yX8_passOn : Cond.instanceMethod yX8_passOn ∈ lw_tbl := List.mem_of_getElem? (i := 799) (by decide +kernel)
theorem tC_yX8_passOn : Cond.code yX8_passOn cX8_passOn 11 (Option.none : Option Jvm.ClassFile.FieldType) ∈ lw_tbl := List.mem_of_getElem? (i := 800) (by decide +kernel)
theorem tM_RX8_104 : Cond.methodLink RX8 104 yX8_more ∈ lw_tbl := List.mem_of_getElem? (i := 801) (by decide +kernel)
theorem tT_yX8_more : Cond.static yX8_more ∈ lw_tbl := List.mem_of_getElem? (i := 802) (by decide +kernel)
theorem tC_yX8_more : Cond.code yX8_more cX8_more 2 (Option.some Jvm.ClassFile.FieldType.int) ∈ lw_tbl := List.mem_of_getElem? (i := 803) (by decide +kernel)
theorem tM_RX8_107 : Cond.methodLink RX8 107 yX8_isChanged ∈ lw_tbl := List.mem_of_getElem? (i := 804) (by decide +kernel)
theorem tI_yX8_isChanged : Cond.instanceMethod yX8_isChanged ∈ lw_tbl := List.mem_of_getElem? (i := 806) (by decide +kernel)
theorem tC_yX8_isChanged : Cond.code yX8_isChanged cX8_isChanged 6 (Option.some Jvm.ClassFile.FieldType.boolean) ∈ lw_tbl := List.mem_of_getElem? (i := 807) (by decide +kernel)
theorem tM_RX8_121 : Cond.methodLink RX8 121 yX8_figuresOf ∈ lw_tbl := List.mem_of_getElem? (i := 808) (by decide +kernel)
theorem tI_yX8_figuresOf : Cond.instanceMethod yX8_figuresOf ∈ lw_tbl := List.mem_of_getElem? (i := 810) (by decide +kernel)
theorem tC_yX8_figuresOf : Cond.code yX8_figuresOf cX8_figuresOf 5 (Option.some Jvm.ClassFile.FieldType.int) ∈ lw_tbl := List.mem_of_getElem? (i := 811) (by decide +kernel)
theorem tM_RL_47 : Cond.methodLink RL 47 yX8_give ∈ lw_tbl := List.mem_of_getElem? (i := 812) (by decide +kernel)
theorem tI_yX8_give : Cond.instanceMethod yX8_give ∈ lw_tbl := List.mem_of_getElem? (i := 813) (by decide +kernel)
theorem tS_yX8_give : Cond.selects RX8 yX8_give yX8_give ∈ lw_tbl := List.mem_of_getElem? (i := 814) (by decide +kernel)
theorem tC_yX8_give : Cond.code yX8_give cX8_give 3 (Option.some Jvm.ClassFile.FieldType.int) ∈ lw_tbl := List.mem_of_getElem? (i := 815) (by decide +kernel)
theorem tM_RL_51 : Cond.methodLink RL 51 yX8_letBy ∈ lw_tbl := List.mem_of_getElem? (i := 816) (by decide +kernel)
theorem tI_yX8_letBy : Cond.instanceMethod yX8_letBy ∈ lw_tbl := List.mem_of_getElem? (i := 817) (by decide +kernel)
theorem tS_yX8_letBy : Cond.selects RX8 yX8_letBy yX8_letBy ∈ lw_tbl := List.mem_of_getElem? (i := 818) (by decide +kernel)
theorem tC_yX8_letBy : Cond.code yX8_letBy cX8_letBy 3 (Option.some Jvm.ClassFile.FieldType.int) ∈ lw_tbl := List.mem_of_getElem? (i := 819) (by decide +kernel)
theorem tM_RL_55 : Cond.methodLink RL 55 yX8_learn ∈ lw_tbl := List.mem_of_getElem? (i := 820) (by decide +kernel)
theorem tI_yX8_learn : Cond.instanceMethod yX8_learn ∈ lw_tbl := List.mem_of_getElem? (i := 821) (by decide +kernel)
theorem tS_yX8_learn : Cond.selects RX8 yX8_learn yX8_learn ∈ lw_tbl := List.mem_of_getElem? (i := 822) (by decide +kernel)
theorem tC_yX8_learn : Cond.code yX8_learn cX8_learn 4 (Option.some Jvm.ClassFile.FieldType.int) ∈ lw_tbl := List.mem_of_getElem? (i := 823) (by decide +kernel)
theorem tK_RX8_124 : Cond.constantLong RX8 124 (3) ∈ lw_tbl := List.mem_of_getElem? (i := 824) (by decide +kernel)
theorem tM_RL_59 : Cond.methodLink RL 59 yX8_undo ∈ lw_tbl := List.mem_of_getElem? (i := 825) (by decide +kernel)
theorem tI_yX8_undo : Cond.instanceMethod yX8_undo ∈ lw_tbl := List.mem_of_getElem? (i := 826) (by decide +kernel)
theorem tS_yX8_undo : Cond.selects RX8 yX8_undo yX8_undo ∈ lw_tbl := List.mem_of_getElem? (i := 827) (by decide +kernel)
theorem tC_yX8_undo : Cond.code yX8_undo cX8_undo 2 (Option.some Jvm.ClassFile.FieldType.int) ∈ lw_tbl := List.mem_of_getElem? (i := 828) (by decide +kernel)
theorem tM_RL_63 : Cond.methodLink RL 63 yX8_basin ∈ lw_tbl := List.mem_of_getElem? (i := 829) (by decide +kernel)
theorem tI_yX8_basin : Cond.instanceMethod yX8_basin ∈ lw_tbl := List.mem_of_getElem? (i := 830) (by decide +kernel)
theorem tS_yX8_basin : Cond.selects RX8 yX8_basin yX8_basin ∈ lw_tbl := List.mem_of_getElem? (i := 831) (by decide +kernel)
theorem tC_yX8_basin : Cond.code yX8_basin cX8_basin 1 (Option.some Jvm.ClassFile.FieldType.int) ∈ lw_tbl := List.mem_of_getElem? (i := 832) (by decide +kernel)
theorem tM_RX8_133 : Cond.methodLink RX8 133 yX8_layBasin ∈ lw_tbl := List.mem_of_getElem? (i := 833) (by decide +kernel)
theorem tI_yX8_layBasin : Cond.instanceMethod yX8_layBasin ∈ lw_tbl := List.mem_of_getElem? (i := 835) (by decide +kernel)
theorem tC_yX8_layBasin : Cond.code yX8_layBasin cX8_layBasin 1 (Option.none : Option Jvm.ClassFile.FieldType) ∈ lw_tbl := List.mem_of_getElem? (i := 836) (by decide +kernel)
theorem tM_RX8_126 : Cond.methodLink RX8 126 yX8_layTrial ∈ lw_tbl := List.mem_of_getElem? (i := 837) (by decide +kernel)
theorem tI_yX8_layTrial : Cond.instanceMethod yX8_layTrial ∈ lw_tbl := List.mem_of_getElem? (i := 839) (by decide +kernel)
theorem tC_yX8_layTrial : Cond.code yX8_layTrial cX8_layTrial 2 (Option.none : Option Jvm.ClassFile.FieldType) ∈ lw_tbl := List.mem_of_getElem? (i := 840) (by decide +kernel)
theorem tM_RX8_129 : Cond.methodLink RX8 129 yX8_passAll ∈ lw_tbl := List.mem_of_getElem? (i := 841) (by decide +kernel)
theorem tI_yX8_passAll : Cond.instanceMethod yX8_passAll ∈ lw_tbl := List.mem_of_getElem? (i := 843) (by decide +kernel)
theorem tC_yX8_passAll : Cond.code yX8_passAll cX8_passAll 2 (Option.none : Option Jvm.ClassFile.FieldType) ∈ lw_tbl := List.mem_of_getElem? (i := 844) (by decide +kernel)
theorem tM_RL_67 : Cond.methodLink RL 67 yX8_hour ∈ lw_tbl := List.mem_of_getElem? (i := 845) (by decide +kernel)
theorem tI_yX8_hour : Cond.instanceMethod yX8_hour ∈ lw_tbl := List.mem_of_getElem? (i := 846) (by decide +kernel)
theorem tS_yX8_hour : Cond.selects RX8 yX8_hour yX8_hour ∈ lw_tbl := List.mem_of_getElem? (i := 847) (by decide +kernel)
theorem tC_yX8_hour : Cond.code yX8_hour cX8_hour 2 (Option.some Jvm.ClassFile.FieldType.int) ∈ lw_tbl := List.mem_of_getElem? (i := 848) (by decide +kernel)
theorem tM_RL_71 : Cond.methodLink RL 71 yX8_gains ∈ lw_tbl := List.mem_of_getElem? (i := 849) (by decide +kernel)
theorem tI_yX8_gains : Cond.instanceMethod yX8_gains ∈ lw_tbl := List.mem_of_getElem? (i := 850) (by decide +kernel)
theorem tS_yX8_gains : Cond.selects RX8 yX8_gains yX8_gains ∈ lw_tbl := List.mem_of_getElem? (i := 851) (by decide +kernel)
theorem tC_yX8_gains : Cond.code yX8_gains cX8_gains 5 (Option.some Jvm.ClassFile.FieldType.int) ∈ lw_tbl := List.mem_of_getElem? (i := 852) (by decide +kernel)
theorem tM_RL_75 : Cond.methodLink RL 75 yX8_mates ∈ lw_tbl := List.mem_of_getElem? (i := 853) (by decide +kernel)
theorem tI_yX8_mates : Cond.instanceMethod yX8_mates ∈ lw_tbl := List.mem_of_getElem? (i := 854) (by decide +kernel)
theorem tS_yX8_mates : Cond.selects RX8 yX8_mates yX8_mates ∈ lw_tbl := List.mem_of_getElem? (i := 855) (by decide +kernel)
theorem tC_yX8_mates : Cond.code yX8_mates cX8_mates 2 (Option.some Jvm.ClassFile.FieldType.int) ∈ lw_tbl := List.mem_of_getElem? (i := 856) (by decide +kernel)
theorem tM_RL_79 : Cond.methodLink RL 79 yX8_first ∈ lw_tbl := List.mem_of_getElem? (i := 857) (by decide +kernel)
theorem tI_yX8_first : Cond.instanceMethod yX8_first ∈ lw_tbl := List.mem_of_getElem? (i := 858) (by decide +kernel)
theorem tS_yX8_first : Cond.selects RX8 yX8_first yX8_first ∈ lw_tbl := List.mem_of_getElem? (i := 859) (by decide +kernel)
theorem tC_yX8_first : Cond.code yX8_first cX8_first 5 (Option.some Jvm.ClassFile.FieldType.int) ∈ lw_tbl := List.mem_of_getElem? (i := 860) (by decide +kernel)
theorem tM_RX8_136 : Cond.methodLink RX8 136 yX8_factorial ∈ lw_tbl := List.mem_of_getElem? (i := 861) (by decide +kernel)
theorem tT_yX8_factorial : Cond.static yX8_factorial ∈ lw_tbl := List.mem_of_getElem? (i := 862) (by decide +kernel)
theorem tC_yX8_factorial : Cond.code yX8_factorial cX8_factorial 3 (Option.some Jvm.ClassFile.FieldType.int) ∈ lw_tbl := List.mem_of_getElem? (i := 863) (by decide +kernel)
theorem tM_RX8_143 : Cond.methodLink RX8 143 yX8_layOrder ∈ lw_tbl := List.mem_of_getElem? (i := 864) (by decide +kernel)
theorem tI_yX8_layOrder : Cond.instanceMethod yX8_layOrder ∈ lw_tbl := List.mem_of_getElem? (i := 866) (by decide +kernel)
theorem tC_yX8_layOrder : Cond.code yX8_layOrder cX8_layOrder 9 (Option.none : Option Jvm.ClassFile.FieldType) ∈ lw_tbl := List.mem_of_getElem? (i := 867) (by decide +kernel)
theorem tM_RX8_139 : Cond.methodLink RX8 139 yX8_has ∈ lw_tbl := List.mem_of_getElem? (i := 868) (by decide +kernel)
theorem tT_yX8_has : Cond.static yX8_has ∈ lw_tbl := List.mem_of_getElem? (i := 869) (by decide +kernel)
theorem tC_yX8_has : Cond.code yX8_has cX8_has 2 (Option.some Jvm.ClassFile.FieldType.boolean) ∈ lw_tbl := List.mem_of_getElem? (i := 870) (by decide +kernel)
theorem tM_RX8_146 : Cond.methodLink RX8 146 yX8_isSo ∈ lw_tbl := List.mem_of_getElem? (i := 871) (by decide +kernel)
theorem tI_yX8_isSo : Cond.instanceMethod yX8_isSo ∈ lw_tbl := List.mem_of_getElem? (i := 873) (by decide +kernel)
theorem tC_yX8_isSo : Cond.code yX8_isSo cX8_isSo 3 (Option.some Jvm.ClassFile.FieldType.boolean) ∈ lw_tbl := List.mem_of_getElem? (i := 874) (by decide +kernel)
theorem tM_RL_84 : Cond.methodLink RL 84 yX8_tea ∈ lw_tbl := List.mem_of_getElem? (i := 875) (by decide +kernel)
theorem tI_yX8_tea : Cond.instanceMethod yX8_tea ∈ lw_tbl := List.mem_of_getElem? (i := 876) (by decide +kernel)
theorem tS_yX8_tea : Cond.selects RX8 yX8_tea yX8_tea ∈ lw_tbl := List.mem_of_getElem? (i := 877) (by decide +kernel)
theorem tC_yX8_tea : Cond.code yX8_tea cX8_tea 5 (Option.some Jvm.ClassFile.FieldType.int) ∈ lw_tbl := List.mem_of_getElem? (i := 878) (by decide +kernel)
theorem tM_RX8_149 : Cond.methodLink RX8 149 yX8_giveTrial ∈ lw_tbl := List.mem_of_getElem? (i := 879) (by decide +kernel)
theorem tI_yX8_giveTrial : Cond.instanceMethod yX8_giveTrial ∈ lw_tbl := List.mem_of_getElem? (i := 881) (by decide +kernel)
theorem tC_yX8_giveTrial : Cond.code yX8_giveTrial cX8_giveTrial 4 (Option.some Jvm.ClassFile.FieldType.boolean) ∈ lw_tbl := List.mem_of_getElem? (i := 882) (by decide +kernel)
theorem tM_RL_88 : Cond.methodLink RL 88 yX8_judge ∈ lw_tbl := List.mem_of_getElem? (i := 883) (by decide +kernel)
theorem tI_yX8_judge : Cond.instanceMethod yX8_judge ∈ lw_tbl := List.mem_of_getElem? (i := 884) (by decide +kernel)
theorem tS_yX8_judge : Cond.selects RX8 yX8_judge yX8_judge ∈ lw_tbl := List.mem_of_getElem? (i := 885) (by decide +kernel)
theorem tC_yX8_judge : Cond.code yX8_judge cX8_judge 5 (Option.some Jvm.ClassFile.FieldType.int) ∈ lw_tbl := List.mem_of_getElem? (i := 886) (by decide +kernel)
theorem tK_RX8_152 : Cond.constantLong RX8 152 (6) ∈ lw_tbl := List.mem_of_getElem? (i := 887) (by decide +kernel)
theorem tM_RX8_154 : Cond.methodLink RX8 154 yX8_tenTo ∈ lw_tbl := List.mem_of_getElem? (i := 888) (by decide +kernel)
theorem tT_yX8_tenTo : Cond.static yX8_tenTo ∈ lw_tbl := List.mem_of_getElem? (i := 889) (by decide +kernel)
theorem tC_yX8_tenTo : Cond.code yX8_tenTo cX8_tenTo 3 (Option.some Jvm.ClassFile.FieldType.int) ∈ lw_tbl := List.mem_of_getElem? (i := 890) (by decide +kernel)
theorem tM_RL_93 : Cond.methodLink RL 93 yX8_share ∈ lw_tbl := List.mem_of_getElem? (i := 891) (by decide +kernel)
theorem tI_yX8_share : Cond.instanceMethod yX8_share ∈ lw_tbl := List.mem_of_getElem? (i := 892) (by decide +kernel)
theorem tS_yX8_share : Cond.selects RX8 yX8_share yX8_share ∈ lw_tbl := List.mem_of_getElem? (i := 893) (by decide +kernel)
theorem tC_yX8_share : Cond.code yX8_share cX8_share 6 (Option.some Jvm.ClassFile.FieldType.int) ∈ lw_tbl := List.mem_of_getElem? (i := 894) (by decide +kernel)
theorem tM_RX8_160 : Cond.methodLink RX8 160 yX8_hoursBy ∈ lw_tbl := List.mem_of_getElem? (i := 895) (by decide +kernel)
theorem tI_yX8_hoursBy : Cond.instanceMethod yX8_hoursBy ∈ lw_tbl := List.mem_of_getElem? (i := 897) (by decide +kernel)
theorem tC_yX8_hoursBy : Cond.code yX8_hoursBy cX8_hoursBy 4 (Option.some Jvm.ClassFile.FieldType.int) ∈ lw_tbl := List.mem_of_getElem? (i := 898) (by decide +kernel)
theorem tM_RX8_157 : Cond.methodLink RX8 157 yX8_greatest ∈ lw_tbl := List.mem_of_getElem? (i := 899) (by decide +kernel)
theorem tI_yX8_greatest : Cond.instanceMethod yX8_greatest ∈ lw_tbl := List.mem_of_getElem? (i := 901) (by decide +kernel)
theorem tC_yX8_greatest : Cond.code yX8_greatest cX8_greatest 5 (Option.some Jvm.ClassFile.FieldType.int) ∈ lw_tbl := List.mem_of_getElem? (i := 902) (by decide +kernel)
theorem tM_RX8_163 : Cond.methodLink RX8 163 yX8_ones ∈ lw_tbl := List.mem_of_getElem? (i := 903) (by decide +kernel)
theorem tT_yX8_ones : Cond.static yX8_ones ∈ lw_tbl := List.mem_of_getElem? (i := 904) (by decide +kernel)
theorem tC_yX8_ones : Cond.code yX8_ones cX8_ones 3 (Option.some Jvm.ClassFile.FieldType.int) ∈ lw_tbl := List.mem_of_getElem? (i := 905) (by decide +kernel)
theorem tM_RX8_166 : Cond.methodLink RX8 166 yX8_common ∈ lw_tbl := List.mem_of_getElem? (i := 906) (by decide +kernel)
theorem tT_yX8_common : Cond.static yX8_common ∈ lw_tbl := List.mem_of_getElem? (i := 907) (by decide +kernel)
theorem tC_yX8_common : Cond.code yX8_common cX8_common 5 (Option.some Jvm.ClassFile.FieldType.int) ∈ lw_tbl := List.mem_of_getElem? (i := 908) (by decide +kernel)
theorem tM_RL_98 : Cond.methodLink RL 98 yX8_gave ∈ lw_tbl := List.mem_of_getElem? (i := 909) (by decide +kernel)
theorem tI_yX8_gave : Cond.instanceMethod yX8_gave ∈ lw_tbl := List.mem_of_getElem? (i := 910) (by decide +kernel)
theorem tS_yX8_gave : Cond.selects RX8 yX8_gave yX8_gave ∈ lw_tbl := List.mem_of_getElem? (i := 911) (by decide +kernel)
theorem tC_yX8_gave : Cond.code yX8_gave cX8_gave 8 (Option.some Jvm.ClassFile.FieldType.int) ∈ lw_tbl := List.mem_of_getElem? (i := 912) (by decide +kernel)
theorem tM_RX8_169 : Cond.methodLink RX8 169 yX8_isOrder ∈ lw_tbl := List.mem_of_getElem? (i := 913) (by decide +kernel)
theorem tI_yX8_isOrder : Cond.instanceMethod yX8_isOrder ∈ lw_tbl := List.mem_of_getElem? (i := 915) (by decide +kernel)
theorem tC_yX8_isOrder : Cond.code yX8_isOrder cX8_isOrder 6 (Option.some Jvm.ClassFile.FieldType.boolean) ∈ lw_tbl := List.mem_of_getElem? (i := 916) (by decide +kernel)
theorem tK_RX8_172 : Cond.constantLong RX8 172 (2) ∈ lw_tbl := List.mem_of_getElem? (i := 917) (by decide +kernel)
theorem tM_RX8_174 : Cond.methodLink RX8 174 yX8_comesSo ∈ lw_tbl := List.mem_of_getElem? (i := 918) (by decide +kernel)
theorem tI_yX8_comesSo : Cond.instanceMethod yX8_comesSo ∈ lw_tbl := List.mem_of_getElem? (i := 920) (by decide +kernel)
theorem tC_yX8_comesSo : Cond.code yX8_comesSo cX8_comesSo 5 (Option.some Jvm.ClassFile.FieldType.boolean) ∈ lw_tbl := List.mem_of_getElem? (i := 921) (by decide +kernel)
theorem tM_RL_103 : Cond.methodLink RL 103 yX8_rests ∈ lw_tbl := List.mem_of_getElem? (i := 922) (by decide +kernel)
theorem tI_yX8_rests : Cond.instanceMethod yX8_rests ∈ lw_tbl := List.mem_of_getElem? (i := 923) (by decide +kernel)
theorem tS_yX8_rests : Cond.selects RX8 yX8_rests yX8_rests ∈ lw_tbl := List.mem_of_getElem? (i := 924) (by decide +kernel)
theorem tC_yX8_rests : Cond.code yX8_rests cX8_rests 8 (Option.some Jvm.ClassFile.FieldType.int) ∈ lw_tbl := List.mem_of_getElem? (i := 925) (by decide +kernel)
theorem tM_RX8_178 : Cond.methodLink RX8 178 yX8_layLosses ∈ lw_tbl := List.mem_of_getElem? (i := 926) (by decide +kernel)
theorem tI_yX8_layLosses : Cond.instanceMethod yX8_layLosses ∈ lw_tbl := List.mem_of_getElem? (i := 928) (by decide +kernel)
theorem tC_yX8_layLosses : Cond.code yX8_layLosses cX8_layLosses 5 (Option.none : Option Jvm.ClassFile.FieldType) ∈ lw_tbl := List.mem_of_getElem? (i := 929) (by decide +kernel)
theorem tM_RX8_182 : Cond.methodLink RX8 182 yX8_isRest ∈ lw_tbl := List.mem_of_getElem? (i := 930) (by decide +kernel)
theorem tI_yX8_isRest : Cond.instanceMethod yX8_isRest ∈ lw_tbl := List.mem_of_getElem? (i := 932) (by decide +kernel)
theorem tC_yX8_isRest : Cond.code yX8_isRest cX8_isRest 4 (Option.some Jvm.ClassFile.FieldType.boolean) ∈ lw_tbl := List.mem_of_getElem? (i := 933) (by decide +kernel)
theorem tM_RL_108 : Cond.methodLink RL 108 yX8_asleep ∈ lw_tbl := List.mem_of_getElem? (i := 934) (by decide +kernel)
theorem tI_yX8_asleep : Cond.instanceMethod yX8_asleep ∈ lw_tbl := List.mem_of_getElem? (i := 935) (by decide +kernel)
theorem tS_yX8_asleep : Cond.selects RX8 yX8_asleep yX8_asleep ∈ lw_tbl := List.mem_of_getElem? (i := 936) (by decide +kernel)
theorem tC_yX8_asleep : Cond.code yX8_asleep cX8_asleep 12 (Option.some Jvm.ClassFile.FieldType.int) ∈ lw_tbl := List.mem_of_getElem? (i := 937) (by decide +kernel)
theorem tK_RX8_185 : Cond.constantLong RX8 185 (10) ∈ lw_tbl := List.mem_of_getElem? (i := 938) (by decide +kernel)
theorem tM_RL_115 : Cond.methodLink RL 115 yX8_seed ∈ lw_tbl := List.mem_of_getElem? (i := 939) (by decide +kernel)
theorem tI_yX8_seed : Cond.instanceMethod yX8_seed ∈ lw_tbl := List.mem_of_getElem? (i := 940) (by decide +kernel)
theorem tS_yX8_seed : Cond.selects RX8 yX8_seed yX8_seed ∈ lw_tbl := List.mem_of_getElem? (i := 941) (by decide +kernel)
theorem tC_yX8_seed : Cond.code yX8_seed cX8_seed 5 (Option.some Jvm.ClassFile.FieldType.long) ∈ lw_tbl := List.mem_of_getElem? (i := 942) (by decide +kernel)
theorem tM_RL_119 : Cond.methodLink RL 119 yX8_days ∈ lw_tbl := List.mem_of_getElem? (i := 943) (by decide +kernel)
theorem tI_yX8_days : Cond.instanceMethod yX8_days ∈ lw_tbl := List.mem_of_getElem? (i := 944) (by decide +kernel)
theorem tS_yX8_days : Cond.selects RX8 yX8_days yX8_days ∈ lw_tbl := List.mem_of_getElem? (i := 945) (by decide +kernel)
theorem tC_yX8_days : Cond.code yX8_days cX8_days 7 (Option.some Jvm.ClassFile.FieldType.int) ∈ lw_tbl := List.mem_of_getElem? (i := 946) (by decide +kernel)
theorem tK_RX8_191 : Cond.constantLong RX8 191 (30) ∈ lw_tbl := List.mem_of_getElem? (i := 947) (by decide +kernel)
theorem tK_RX8_193 : Cond.constantLong RX8 193 (6364136223846793005) ∈ lw_tbl := List.mem_of_getElem? (i := 948) (by decide +kernel)
theorem tK_RX8_195 : Cond.constantLong RX8 195 (1442695040888963407) ∈ lw_tbl := List.mem_of_getElem? (i := 949) (by decide +kernel)
theorem tK_RX8_197 : Cond.constantLong RX8 197 (64) ∈ lw_tbl := List.mem_of_getElem? (i := 950) (by decide +kernel)
theorem tM_RX8_199 : Cond.methodLink RX8 199 yX8_isFirst ∈ lw_tbl := List.mem_of_getElem? (i := 951) (by decide +kernel)
theorem tI_yX8_isFirst : Cond.instanceMethod yX8_isFirst ∈ lw_tbl := List.mem_of_getElem? (i := 953) (by decide +kernel)
theorem tC_yX8_isFirst : Cond.code yX8_isFirst cX8_isFirst 2 (Option.some Jvm.ClassFile.FieldType.boolean) ∈ lw_tbl := List.mem_of_getElem? (i := 954) (by decide +kernel)
theorem tM_RL_123 : Cond.methodLink RL 123 yX8_keep ∈ lw_tbl := List.mem_of_getElem? (i := 955) (by decide +kernel)
theorem tI_yX8_keep : Cond.instanceMethod yX8_keep ∈ lw_tbl := List.mem_of_getElem? (i := 956) (by decide +kernel)
theorem tS_yX8_keep : Cond.selects RX8 yX8_keep yX8_keep ∈ lw_tbl := List.mem_of_getElem? (i := 957) (by decide +kernel)
theorem tC_yX8_keep : Cond.code yX8_keep cX8_keep 3 (Option.some Jvm.ClassFile.FieldType.int) ∈ lw_tbl := List.mem_of_getElem? (i := 958) (by decide +kernel)
theorem tM_RL_127 : Cond.methodLink RL 127 yX8_again ∈ lw_tbl := List.mem_of_getElem? (i := 959) (by decide +kernel)
theorem tI_yX8_again : Cond.instanceMethod yX8_again ∈ lw_tbl := List.mem_of_getElem? (i := 960) (by decide +kernel)
theorem tS_yX8_again : Cond.selects RX8 yX8_again yX8_again ∈ lw_tbl := List.mem_of_getElem? (i := 961) (by decide +kernel)
theorem tC_yX8_again : Cond.code yX8_again cX8_again 3 (Option.some Jvm.ClassFile.FieldType.int) ∈ lw_tbl := List.mem_of_getElem? (i := 962) (by decide +kernel)
theorem tM_RL_131 : Cond.methodLink RL 131 yX8_count ∈ lw_tbl := List.mem_of_getElem? (i := 963) (by decide +kernel)
theorem tI_yX8_count : Cond.instanceMethod yX8_count ∈ lw_tbl := List.mem_of_getElem? (i := 964) (by decide +kernel)
theorem tS_yX8_count : Cond.selects RX8 yX8_count yX8_count ∈ lw_tbl := List.mem_of_getElem? (i := 965) (by decide +kernel)
theorem tC_yX8_count : Cond.code yX8_count cX8_count 2 (Option.some Jvm.ClassFile.FieldType.int) ∈ lw_tbl := List.mem_of_getElem? (i := 966) (by decide +kernel)
theorem tM_RX8_202 : Cond.methodLink RX8 202 yX8_sumOf ∈ lw_tbl := List.mem_of_getElem? (i := 967) (by decide +kernel)
theorem tI_yX8_sumOf : Cond.instanceMethod yX8_sumOf ∈ lw_tbl := List.mem_of_getElem? (i := 969) (by decide +kernel)
theorem tC_yX8_sumOf : Cond.code yX8_sumOf cX8_sumOf 5 (Option.some Jvm.ClassFile.FieldType.int) ∈ lw_tbl := List.mem_of_getElem? (i := 970) (by decide +kernel)
theorem tK_RL_109 : Cond.constantLong RL 109 (4294967295) ∈ lw_tbl := List.mem_of_getElem? (i := 971) (by decide +kernel)
theorem inX0 : ∀ w ∈ u_ws RX0 TX0 3, w ∈ lw_tbl := mem_pl [168, 170, 172] (by decide +kernel)
theorem inX1 : ∀ w ∈ u_ws RX1 TX1 6, w ∈ lw_tbl := mem_pl [142, 144, 146, 148, 150, 152] (by decide +kernel)
theorem inX2 : ∀ w ∈ u_ws RX2 TX2 6, w ∈ lw_tbl := mem_pl [222, 224, 226, 228, 230, 232] (by decide +kernel)
theorem inX3 : ∀ w ∈ u_ws RX3 TX3 2, w ∈ lw_tbl := mem_pl [201, 203] (by decide +kernel)
theorem inX4 : ∀ w ∈ u_ws RX4 TX4 2, w ∈ lw_tbl := mem_pl [187, 189] (by decide +kernel)
theorem inX5 : ∀ w ∈ u_ws RX5 TX5 7, w ∈ lw_tbl := mem_pl [111, 113, 115, 117, 119, 121, 123] (by decide +kernel)
theorem inX6 : ∀ w ∈ u_ws RX6 TX6 2, w ∈ lw_tbl := mem_pl [69, 71] (by decide +kernel)
theorem inX7 : ∀ w ∈ u_ws RX7 TX7 7, w ∈ lw_tbl := mem_pl [242, 244, 246, 248, 250, 252, 254] (by decide +kernel)
theorem inX8 : ∀ w ∈ u_ws RX8 TX8 23, w ∈ lw_tbl := mem_pl [690, 692, 694, 696, 698, 700, 702, 704, 706, 708, 710, 712, 714, 716, 718, 720, 722, 724, 726, 728, 730, 732, 734] (by decide +kernel)
end
section
/-! the words that hold of tables alone, and the one list of them that every method here is given -/
abbrev TT : List Cond := lw_tbl.filter goodWord
theorem mTT {w : Cond} (h : w ∈ lw_tbl) (g : goodWord w = true) : w ∈ TT := List.mem_filter.mpr ⟨h, g⟩
theorem good_TT : GoodIn TT TT := fun _ h => ⟨h, good_of_word (List.mem_filter.mp h).2⟩
theorem good_cTT {y : MethodName} {cc : ByteArray} {maxL : Nat} {ret : Option FieldType} (h : Cond.code y cc maxL ret ∈ lw_tbl) : GoodIn TT (Cond.code y cc maxL ret :: TT) := by
  intro w hw
  rcases List.mem_cons.mp hw with rfl | hw
  · exact ⟨mTT h rfl, good_of_word rfl⟩
  · exact good_TT w hw
abbrev classes : List vw_C := [(RX0, TX0, 3), (RX1, TX1, 6), (RX2, TX2, 6), (RX3, TX3, 2), (RX4, TX4, 2), (RX5, TX5, 7), (RX6, TX6, 2), (RX7, TX7, 7), (RX8, TX8, 23)]
/-! the heap's fixed shape: an object (its class, its fields: none an int, some none a long, some (some r) the cell r), an array of ints (0) or booleans (1), an array of cells -/
abbrev Kd : Type := (Nat × List (Option (Option Nat))) ⊕ ((Nat × Nat) ⊕ List Nat)
abbrev kSt (b : Nat) : Kd := .inl (5, [some (some (b + 1)), some (some (b + 2)), some (some (b + 3)), some (some (b + 4)), some (some (b + 5)), none, none])
def shL : List Kd := [.inl (7, [some (some 1), some (some 3), some (some 18), some (some 104), some (some 119), some (some 122), some none]), .inl (6, [some (some 2), none]), .inr (.inl (0, 40)), .inl (1, [some (some 4), some (some 5), some (some 6), some (some 12), none, none]), .inr (.inl (0, 6)), .inr (.inl (0, 6)), kSt 6, .inr (.inl (0, 6)), .inr (.inl (0, 6)), .inr (.inl (0, 6)), .inr (.inl (0, 5)), .inr (.inl (0, 30)), kSt 12, .inr (.inl (0, 6)), .inr (.inl (0, 6)), .inr (.inl (0, 6)), .inr (.inl (0, 5)), .inr (.inl (0, 30)), .inl (0, [some (some 19), none, none]), .inr (.inr [20, 26, 32, 38, 44, 50, 56, 62, 68, 74, 80, 86, 92, 98]), kSt 20, .inr (.inl (0, 6)), .inr (.inl (0, 6)), .inr (.inl (0, 6)), .inr (.inl (0, 5)), .inr (.inl (0, 30)), kSt 26, .inr (.inl (0, 6)), .inr (.inl (0, 6)), .inr (.inl (0, 6)), .inr (.inl (0, 5)), .inr (.inl (0, 30)), kSt 32, .inr (.inl (0, 6)), .inr (.inl (0, 6)), .inr (.inl (0, 6)), .inr (.inl (0, 5)), .inr (.inl (0, 30)), kSt 38, .inr (.inl (0, 6)), .inr (.inl (0, 6)), .inr (.inl (0, 6)), .inr (.inl (0, 5)), .inr (.inl (0, 30)), kSt 44, .inr (.inl (0, 6)), .inr (.inl (0, 6)), .inr (.inl (0, 6)), .inr (.inl (0, 5)), .inr (.inl (0, 30)), kSt 50, .inr (.inl (0, 6)), .inr (.inl (0, 6)), .inr (.inl (0, 6)), .inr (.inl (0, 5)), .inr (.inl (0, 30)), kSt 56, .inr (.inl (0, 6)), .inr (.inl (0, 6)), .inr (.inl (0, 6)), .inr (.inl (0, 5)), .inr (.inl (0, 30)), kSt 62, .inr (.inl (0, 6)), .inr (.inl (0, 6)), .inr (.inl (0, 6)), .inr (.inl (0, 5)), .inr (.inl (0, 30)), kSt 68, .inr (.inl (0, 6)), .inr (.inl (0, 6)), .inr (.inl (0, 6)), .inr (.inl (0, 5)), .inr (.inl (0, 30)), kSt 74, .inr (.inl (0, 6)), .inr (.inl (0, 6)), .inr (.inl (0, 6)), .inr (.inl (0, 5)), .inr (.inl (0, 30)), kSt 80, .inr (.inl (0, 6)), .inr (.inl (0, 6)), .inr (.inl (0, 6)), .inr (.inl (0, 5)), .inr (.inl (0, 30)), kSt 86, .inr (.inl (0, 6)), .inr (.inl (0, 6)), .inr (.inl (0, 6)), .inr (.inl (0, 5)), .inr (.inl (0, 30)), kSt 92, .inr (.inl (0, 6)), .inr (.inl (0, 6)), .inr (.inl (0, 6)), .inr (.inl (0, 5)), .inr (.inl (0, 30)), kSt 98, .inr (.inl (0, 6)), .inr (.inl (0, 6)), .inr (.inl (0, 6)), .inr (.inl (0, 5)), .inr (.inl (0, 30)), .inl (4, [some (some 105), some (some 118)]), .inr (.inr [106, 112]), kSt 106, .inr (.inl (0, 6)), .inr (.inl (0, 6)), .inr (.inl (0, 6)), .inr (.inl (0, 5)), .inr (.inl (0, 30)), kSt 112, .inr (.inl (0, 6)), .inr (.inl (0, 6)), .inr (.inl (0, 6)), .inr (.inl (0, 5)), .inr (.inl (0, 30)), .inr (.inl (1, 2)), .inl (3, [some (some 120), some (some 121)]), .inr (.inl (0, 6)), .inr (.inl (0, 6)), .inl (2, [some (some 123), some (some 124), none, none, none, none]), .inr (.inl (0, 16)), .inr (.inl (0, 16)), .inl (8, [none, none, some (some 126), some (some 127), some (some 128), some (some 129), some (some 130), none, none, some (some 131), none, none, none, some (some 132), none, none, some (some 133), some (some 134), some (some 135), some (some 136), some none, some (some 137), some (some 138)]), .inr (.inl (0, 6)), .inr (.inl (0, 6)), .inr (.inl (0, 108)), .inr (.inl (0, 5)), .inr (.inl (0, 18)), .inr (.inl (0, 40)), .inr (.inl (0, 6)), .inr (.inl (0, 756)), .inr (.inl (0, 64)), .inr (.inl (0, 16)), .inr (.inl (0, 16)), .inr (.inl (1, 2)), .inr (.inl (0, 108))]
def sh (id : Nat) : Kd := shL.getD id (.inr (.inr []))
abbrev NC : Nat := 139
theorem shL_len : shL.length = NC := by decide +kernel
theorem sh_lt {id : Nat} (h : sh id ≠ .inr (.inr [])) : id < NC := by
  rcases Nat.lt_or_ge id NC with q | q
  · exact q
  · exact absurd (by unfold sh; rw [List.getD_eq_getElem?_getD, List.getElem?_eq_none (by rw [shL_len]; exact q)]; rfl) h
/-- a State's cells stand at the cell b and behind it -/
def StB (b : Nat) : Prop := sh b = kSt b ∧ sh (b + 1) = .inr (.inl (0, 6)) ∧ sh (b + 2) = .inr (.inl (0, 6)) ∧ sh (b + 3) = .inr (.inl (0, 6)) ∧ sh (b + 4) = .inr (.inl (0, 5)) ∧ sh (b + 5) = .inr (.inl (0, 30))
theorem sh_0 : sh 0 = .inl (7, [some (some 1), some (some 3), some (some 18), some (some 104), some (some 119), some (some 122), some none]) := rfl
theorem sh_1 : sh 1 = .inl (6, [some (some 2), none]) := rfl
theorem sh_2 : sh 2 = .inr (.inl (0, 40)) := rfl
theorem sh_3 : sh 3 = .inl (1, [some (some 4), some (some 5), some (some 6), some (some 12), none, none]) := rfl
theorem sh_4 : sh 4 = .inr (.inl (0, 6)) := rfl
theorem sh_5 : sh 5 = .inr (.inl (0, 6)) := rfl
theorem sh_18 : sh 18 = .inl (0, [some (some 19), none, none]) := rfl
theorem sh_19 : sh 19 = .inr (.inr [20, 26, 32, 38, 44, 50, 56, 62, 68, 74, 80, 86, 92, 98]) := rfl
theorem sh_104 : sh 104 = .inl (4, [some (some 105), some (some 118)]) := rfl
theorem sh_105 : sh 105 = .inr (.inr [106, 112]) := rfl
theorem sh_118 : sh 118 = .inr (.inl (1, 2)) := rfl
theorem sh_119 : sh 119 = .inl (3, [some (some 120), some (some 121)]) := rfl
theorem sh_120 : sh 120 = .inr (.inl (0, 6)) := rfl
theorem sh_121 : sh 121 = .inr (.inl (0, 6)) := rfl
theorem sh_122 : sh 122 = .inl (2, [some (some 123), some (some 124), none, none, none, none]) := rfl
theorem sh_123 : sh 123 = .inr (.inl (0, 16)) := rfl
theorem sh_124 : sh 124 = .inr (.inl (0, 16)) := rfl
theorem sh_125 : sh 125 = .inl (8, [none, none, some (some 126), some (some 127), some (some 128), some (some 129), some (some 130), none, none, some (some 131), none, none, none, some (some 132), none, none, some (some 133), some (some 134), some (some 135), some (some 136), some none, some (some 137), some (some 138)]) := rfl
theorem sh_126 : sh 126 = .inr (.inl (0, 6)) := rfl
theorem sh_127 : sh 127 = .inr (.inl (0, 6)) := rfl
theorem sh_128 : sh 128 = .inr (.inl (0, 108)) := rfl
theorem sh_129 : sh 129 = .inr (.inl (0, 5)) := rfl
theorem sh_130 : sh 130 = .inr (.inl (0, 18)) := rfl
theorem sh_131 : sh 131 = .inr (.inl (0, 40)) := rfl
theorem sh_132 : sh 132 = .inr (.inl (0, 6)) := rfl
theorem sh_133 : sh 133 = .inr (.inl (0, 756)) := rfl
theorem sh_134 : sh 134 = .inr (.inl (0, 64)) := rfl
theorem sh_135 : sh 135 = .inr (.inl (0, 16)) := rfl
theorem sh_136 : sh 136 = .inr (.inl (0, 16)) := rfl
theorem sh_137 : sh 137 = .inr (.inl (1, 2)) := rfl
theorem sh_138 : sh 138 = .inr (.inl (0, 108)) := rfl
theorem stB_6 : StB 6 := ⟨rfl, rfl, rfl, rfl, rfl, rfl⟩
theorem stB_12 : StB 12 := ⟨rfl, rfl, rfl, rfl, rfl, rfl⟩
theorem stB_act {k : Nat} (h : k < 14) : StB (20 + 6 * k) := by
  have H : ∀ k, k < 14 → StB (20 + 6 * k) := by
    intro k hk
    match k, hk with
    | 0, _ => exact ⟨rfl, rfl, rfl, rfl, rfl, rfl⟩
    | 1, _ => exact ⟨rfl, rfl, rfl, rfl, rfl, rfl⟩
    | 2, _ => exact ⟨rfl, rfl, rfl, rfl, rfl, rfl⟩
    | 3, _ => exact ⟨rfl, rfl, rfl, rfl, rfl, rfl⟩
    | 4, _ => exact ⟨rfl, rfl, rfl, rfl, rfl, rfl⟩
    | 5, _ => exact ⟨rfl, rfl, rfl, rfl, rfl, rfl⟩
    | 6, _ => exact ⟨rfl, rfl, rfl, rfl, rfl, rfl⟩
    | 7, _ => exact ⟨rfl, rfl, rfl, rfl, rfl, rfl⟩
    | 8, _ => exact ⟨rfl, rfl, rfl, rfl, rfl, rfl⟩
    | 9, _ => exact ⟨rfl, rfl, rfl, rfl, rfl, rfl⟩
    | 10, _ => exact ⟨rfl, rfl, rfl, rfl, rfl, rfl⟩
    | 11, _ => exact ⟨rfl, rfl, rfl, rfl, rfl, rfl⟩
    | 12, _ => exact ⟨rfl, rfl, rfl, rfl, rfl, rfl⟩
    | 13, _ => exact ⟨rfl, rfl, rfl, rfl, rfl, rfl⟩
  exact H k h
theorem stB_slot {k : Nat} (h : k < 2) : StB (106 + 6 * k) := by
  have H : ∀ k, k < 2 → StB (106 + 6 * k) := by
    intro k hk
    match k, hk with
    | 0, _ => exact ⟨rfl, rfl, rfl, rfl, rfl, rfl⟩
    | 1, _ => exact ⟨rfl, rfl, rfl, rfl, rfl, rfl⟩
  exact H k h
theorem sh_small {id t n : Nat} (h : sh id = .inr (.inl (t, n))) : n < 2 ^ 31 := by
  have H : ∀ k, k < NC → (match sh k with | .inr (.inl q) => decide (q.2 < 1000) | _ => true) = true := by decide +kernel
  have h1 := H id (sh_lt (by rw [h]; intro z; cases z))
  rw [h] at h1
  have h2 : n < 1000 := of_decide_eq_true h1
  exact Nat.lt_trans h2 (by decide)
/-! the ints and the longs in it -/
abbrev Mem : Type := (Nat → Nat → Int32) × (Nat → Int64)
def sti (μ : Mem) (i k : Nat) (x : Int32) : Mem := (fun a b => if a = i ∧ b = k then x else μ.1 a b, μ.2)
def stl (μ : Mem) (i : Nat) (x : Int64) : Mem := (μ.1, fun a => if a = i then x else μ.2 a)
def sta (μ : Mem) (i : Nat) (f : Nat → Int32) : Mem := (fun a b => if a = i then f b else μ.1 a b, μ.2)
theorem sti_1 (μ : Mem) (i k : Nat) (x : Int32) (a b : Nat) : (sti μ i k x).1 a b = if a = i ∧ b = k then x else μ.1 a b := rfl
theorem sta_1 (μ : Mem) (i : Nat) (f : Nat → Int32) (a b : Nat) : (sta μ i f).1 a b = if a = i then f b else μ.1 a b := rfl
theorem sti_2 (μ : Mem) (i k : Nat) (x : Int32) : (sti μ i k x).2 = μ.2 := rfl
theorem sta_2 (μ : Mem) (i : Nat) (f : Nat → Int32) : (sta μ i f).2 = μ.2 := rfl
theorem stl_1 (μ : Mem) (i : Nat) (x : Int64) : (stl μ i x).1 = μ.1 := rfl
theorem stl_2 (μ : Mem) (i : Nat) (x : Int64) (a : Nat) : (stl μ i x).2 a = if a = i then x else μ.2 a := rfl
theorem sti_1_ne (μ : Mem) {i k : Nat} (x : Int32) {a : Nat} (b : Nat) (h : a ≠ i) : (sti μ i k x).1 a b = μ.1 a b := by rw [sti_1, if_neg (fun q => h q.1)]
theorem sti_1_eq (μ : Mem) (i k : Nat) (x : Int32) : (sti μ i k x).1 i k = x := by rw [sti_1, if_pos ⟨rfl, rfl⟩]
/-! the frame of a proof: classes' numbers and slots, array classes, addresses, arrays that are only read (the first: FACTORIALS) -/
abbrev Gm : Type := va_G × (ClassId × ClassId × ClassId) × (Nat → Nat) × List (Nat × Nat × (Nat → Int32))
def fac (k : Nat) : Int32 := match k with
  | 0 => 1
  | 1 => 1
  | 2 => 2
  | 3 => 6
  | 4 => 24
  | 5 => 120
  | 6 => 720
  | _ => 0
abbrev tys (G : Gm) : List (ClassId × FieldType) := [(G.2.1.1, .int), (G.2.1.2.1, .boolean), (G.2.1.2.2, .object "EelLocks$State")]
abbrev tyc (G : Gm) (t : Nat) : ClassId := match t with
  | 0 => G.2.1.1
  | _ => G.2.1.2.1
def fv (ad : Nat → Nat) (μ : Mem) (id k : Nat) (f : Option (Option Nat)) : Value := match f with
  | none => .int (μ.1 id k)
  | some none => .long (μ.2 id)
  | some (some r) => .ref (ad r)
def ce (G : Gm) (μ : Mem) (id : Nat) (q : Kd) : va_E := match q with
  | .inl o => .inr (o.1, o.2.mapIdx (fun k f => fv G.2.2.1 μ id k f))
  | .inr (.inl a) => .inl (tyc G a.1, a.2, .inl (μ.1 id))
  | .inr (.inr ids) => .inl (G.2.1.2.2, ids.length, .inr (.inr (.inr (.inr fun k => (ids[k]?).map G.2.2.1))))
def wl (G : Gm) (μ : Mem) : va_W := (List.range NC).map fun id => (G.2.2.1 id, ce G μ id (sh id))
theorem wl_get (G : Gm) (μ : Mem) {id : Nat} (h : id < NC) : (wl G μ)[id]? = some (G.2.2.1 id, ce G μ id (sh id)) := by
  unfold wl
  rw [List.getElem?_map, List.getElem?_range h]
  rfl
theorem wl_len (G : Gm) (μ : Mem) : (wl G μ).length = NC := by
  unfold wl
  rw [List.length_map, List.length_range]
theorem wl_set (G : Gm) (μ μ' : Mem) {id : Nat} (h : id < NC) (e : va_E) (he : e = ce G μ' id (sh id)) (ho : ∀ j, j ≠ id → ce G μ' j (sh j) = ce G μ j (sh j)) : (wl G μ).set id (G.2.2.1 id, e) = wl G μ' := by
  apply List.ext_getElem?
  intro j
  rcases Nat.lt_or_ge j NC with q | q
  · rw [wl_get G μ' q]
    by_cases hj : id = j
    · subst hj
      rw [List.getElem?_set_self (by rw [wl_len]; exact h), he]
    · rw [List.getElem?_set_ne hj, wl_get G μ q, ho j (fun z => hj z.symm)]
  · rw [List.getElem?_eq_none (by rw [List.length_set, wl_len]; exact q), List.getElem?_eq_none (by rw [wl_len]; exact q)]
theorem ce_congr (G : Gm) {μ μ' : Mem} {j : Nat} (h1 : ∀ k, μ'.1 j k = μ.1 j k) (h2 : μ'.2 j = μ.2 j) (q : Kd) : ce G μ' j q = ce G μ j q := by
  rcases q with o | a | ids
  · have h : (fun k f => fv G.2.2.1 μ' j k f) = fun k f => fv G.2.2.1 μ j k f := by
      funext k f
      rcases f with _ | _ | r
      · exact congrArg Value.int (h1 k)
      · exact congrArg Value.long h2
      · rfl
    exact congrArg (fun g => (Sum.inr (o.1, o.2.mapIdx g) : va_E)) h
  · exact congrArg (fun g => (Sum.inl (tyc G a.1, a.2, .inl g) : va_E)) (funext h1)
  · rfl
theorem wl_seti (G : Gm) (μ : Mem) {id t n : Nat} (hs : sh id = .inr (.inl (t, n))) (k : Nat) (x : Int32) : (wl G μ).set id (G.2.2.1 id, .inl (tyc G t, n, .inl (upd (μ.1 id) k x))) = wl G (sti μ id k x) := by
  refine wl_set G μ _ (sh_lt (by rw [hs]; intro z; cases z)) _ ?_ (fun j hj => ce_congr G (fun b => sti_1_ne μ x b hj) rfl _)
  rw [hs]
  refine congrArg (fun g => (Sum.inl (tyc G t, n, .inl g) : va_E)) (funext fun b => ?_)
  show (if b = k then x else μ.1 id b) = if id = id ∧ b = k then x else μ.1 id b
  by_cases hb : b = k
  · rw [if_pos hb, if_pos ⟨rfl, hb⟩]
  · rw [if_neg hb, if_neg (fun q => hb q.2)]
theorem wl_seta (G : Gm) (μ : Mem) {id t n : Nat} (hs : sh id = .inr (.inl (t, n))) (f : Nat → Int32) : (wl G μ).set id (G.2.2.1 id, .inl (tyc G t, n, .inl f)) = wl G (sta μ id f) := by
  refine wl_set G μ _ (sh_lt (by rw [hs]; intro z; cases z)) _ ?_ (fun j hj => ce_congr G (fun b => by rw [sta_1, if_neg hj]) (by rw [sta_2]) _)
  rw [hs]
  refine congrArg (fun g => (Sum.inl (tyc G t, n, .inl g) : va_E)) (funext fun b => ?_)
  show f b = if id = id then f b else μ.1 id b
  rw [if_pos rfl]
theorem wl_setf (G : Gm) (μ : Mem) {id ci : Nat} {fs : List (Option (Option Nat))} (hs : sh id = .inl (ci, fs)) {k : Nat} (hk : fs[k]? = some none) (x : Int32) : (wl G μ).set id (G.2.2.1 id, .inr (ci, (fs.mapIdx (fun k f => fv G.2.2.1 μ id k f)).set k (.int x))) = wl G (sti μ id k x) := by
  refine wl_set G μ _ (sh_lt (by rw [hs]; intro z; cases z)) _ ?_ (fun j hj => ce_congr G (fun b => sti_1_ne μ x b hj) rfl _)
  rw [hs]
  refine congrArg (fun g => (Sum.inr (ci, g) : va_E)) (List.ext_getElem? fun j => ?_)
  have hlt : k < fs.length := (List.getElem?_eq_some_iff.mp hk).1
  rw [List.getElem?_mapIdx]
  by_cases hj : k = j
  · subst hj
    rw [List.getElem?_set_self (by rw [List.length_mapIdx]; exact hlt), hk]
    show some (Value.int x) = some (Value.int ((sti μ id k x).1 id k))
    rw [sti_1_eq]
  · rw [List.getElem?_set_ne hj, List.getElem?_mapIdx]
    rcases fs[j]? with _ | f
    · rfl
    · refine congrArg some ?_
      rcases f with _ | _ | r
      · show Value.int (μ.1 id j) = Value.int ((sti μ id k x).1 id j)
        rw [sti_1, if_neg (fun q => hj q.2.symm)]
      · rfl
      · rfl
theorem wl_setl (G : Gm) (μ : Mem) {id ci : Nat} {fs : List (Option (Option Nat))} (hs : sh id = .inl (ci, fs)) {k : Nat} (hk : fs[k]? = some (some none)) (h1 : ∀ j, fs[j]? = some (some none) → j = k) (x : Int64) : (wl G μ).set id (G.2.2.1 id, .inr (ci, (fs.mapIdx (fun k f => fv G.2.2.1 μ id k f)).set k (.long x))) = wl G (stl μ id x) := by
  refine wl_set G μ _ (sh_lt (by rw [hs]; intro z; cases z)) _ ?_ (fun j hj => ce_congr G (fun b => by rw [stl_1]) (by rw [stl_2, if_neg hj]) _)
  rw [hs]
  refine congrArg (fun g => (Sum.inr (ci, g) : va_E)) (List.ext_getElem? fun j => ?_)
  have hlt : k < fs.length := (List.getElem?_eq_some_iff.mp hk).1
  rw [List.getElem?_mapIdx]
  by_cases hj : k = j
  · subst hj
    rw [List.getElem?_set_self (by rw [List.length_mapIdx]; exact hlt), hk]
    show some (Value.long x) = some (Value.long ((stl μ id x).2 id))
    rw [stl_2, if_pos rfl]
  · rw [List.getElem?_set_ne hj, List.getElem?_mapIdx]
    rcases hf : fs[j]? with _ | f
    · rfl
    · refine congrArg some ?_
      rcases f with _ | _ | r
      · rfl
      · exact absurd (h1 j hf).symm hj
      · rfl
/-! what holds of a state; the judgement -/
def AA (G : Gm) (q : Nat) : Prop := ∃ id, id < NC ∧ q = G.2.2.1 id
abbrev nM : Cond := Cond.methodLinkNest RX2 91 yX7_power "EelLocks"
abbrev nF : Cond := Cond.fieldLinkNest RX3 48 "EelLocks" "FACTORIALS" "[I" "EelLocks"
def Gx (G : Gm) (s : State) (H : Heap) : Prop := (∀ q ∈ G.2.2.2, va_X q.1 q.2.1 q.2.2 s H ∧ q.1 < H.size ∧ ¬ AA G q.1) ∧ (∃ fa : Nat, (fa, 7, fac) ∈ G.2.2.2 ∧ va_Z "EelLocks" "FACTORIALS" "[I" (.ref fa) (AA G) s H) ∧ va_Nw nM s ∧ va_Nw nF s
def Wd (G : Gm) (μ : Mem) (U : State) : Prop := va_P G.1 classes (wl G μ) U.heap ∧ va_K G.1 classes (tys G) U ∧ va_D (AA G) (wl G μ) ∧ Gx G U U.heap
def Hp (G : Gm) (s : State) (H : Heap) (locs : List Loc) (μ : Mem) : Prop := va_P G.1 classes (wl G μ) H ∧ va_D (AA G) (wl G μ) ∧ va_S (AA G) s.heap H locs
def Cx (G : Gm) (own : String) (cc : ByteArray) (nL dep : Nat) (p : Program) (R : Room) (s : State) (m : MethodId) (args : Array Value) (c : Code) (cells slots : Nat) : Prop :=
  p.tables.exec = Jvm.exec ∧ c.code = cc ∧ c.maxLocals = nL ∧ s.vm.findClass own = some m.cls ∧ (∀ w ∈ TT, w.before args s = true) ∧ va_K G.1 classes (tys G) s ∧ Gx G s s.heap ∧ dep ≤ R.frames ∧ 34 * dep ≤ R.locals ∧ cells ≤ R.cells ∧ slots ≤ R.slots
def lm (lg : Bool) (ls : Array Slot) (nL : Nat) (lo : List (Option Value)) : Prop := ls.size = nL ∧ lv_wf ls ∧ ∀ (i : Nat) (v : Value), lo[i]? = some (some v) → ls[i]? = some (.val v) ∧ (lg = false → v.category = 1)
/-- a return at pc with r, of a method whose descriptor says ret -/
def rok (cc : ByteArray) (ret : Option FieldType) (pc : Nat) (r : Option Value) : Prop := (∃ x, r = some (.int x) ∧ decode cc pc = .ok (.ireturn, 1) ∧ ∃ ty, ret = some ty ∧ narrow ty (.int x) = .int x) ∨ (∃ x, r = some (.long x) ∧ decode cc pc = .ok (.lreturn, 1) ∧ ret = some .long) ∨ (∃ a n, r = some (.ref a) ∧ decode cc pc = .ok (.areturn, 1) ∧ ret = some (.object n)) ∨ (r = none ∧ decode cc pc = .ok (.return_, 1) ∧ ret = none)
/-- V: from pc, locals lo, stack st, numbers μ, the method comes to a return with r and μ' of which Q r μ' holds -/
def V (G : Gm) (l : Launch) (own : String) (cc : ByteArray) (nL dep : Nat) (lg : Bool) (ret : Option FieldType) (Q : Option Value → Mem → Prop) (pc : Nat) (lo : List (Option Value)) (st : List Value) (μ : Mem) : Prop :=
  ∀ (p : Program) (e : Env) (R : Room) (s : State) (m : MethodId) (args : Array Value) (below : List Frame) (meth : Method) (c : Code) (H : Heap) (locs : List Loc) (cells slots : Nat) (Qf : State → Prop) (ls : Array Slot), Cx G own cc nL dep p R s m args c cells slots → Hp G s H locs μ → lm lg ls nL lo →
    (∀ (r : Option Value) (μ' : Mem) (H' : Heap) (locs' : List Loc) (ls' : Array Slot) (pc' : Nat), Q r μ' → Hp G s H' locs' μ' → rok cc ret pc' r → W p l e R s m args below meth c H' locs' cells slots Qf (F0 m pc' ls' r.toList)) →
    W p l e R s m args below meth c H locs cells slots Qf (F0 m pc ls st)
/-- a method's contract over the whole shape -/
def Ct (G : Gm) (l : Launch) (dep : Nat) (y : MethodName) (cc : ByteArray) (maxL : Nat) (ret : Option FieldType) (As : List Value) (μ : Mem) (Q : Option Value → Mem → Prop) : Prop :=
  Met l y (.code y cc maxL ret :: TT) { frames := dep, cells := 0, slots := 0, locals := 34 * dep } (va_Pc As (Wd G μ)) (fun _ st oc t => (∃ (r : Option Value) (μ' : Mem), oc = .returned r ∧ Q r μ' ∧ va_P G.1 classes (wl G μ') t.heap ∧ va_D (AA G) (wl G μ')) ∧ va_F (AA G) st t) 0 0 (AA G)
section VR
variable {G : Gm} {l : Launch} {own : String} {cc : ByteArray} {nL dep : Nat} {lg : Bool} {ret : Option FieldType} {Q : Option Value → Mem → Prop} {pc n : Nat} {lo : List (Option Value)} {st : List Value} {μ : Mem}
theorem R_iadd {x y : Int32} (hdg : decode cc pc = .ok (.iadd, 1)) (hn : pc + 1 = n) (k : V G l own cc nL dep lg ret Q n lo (.int (x + y) :: st) μ) : V G l own cc nL dep lg ret Q pc lo (.int y :: .int x :: st) μ := by
  subst hn
  intro p e R s m args below meth c H locs cells slots Qf ls hC hH hL hF
  exact lv_iadd hC.1 hC.2.1 hdg (k p e R s m args below meth c H locs cells slots Qf ls hC hH hL hF)
theorem R_isub {x y : Int32} (hdg : decode cc pc = .ok (.isub, 1)) (hn : pc + 1 = n) (k : V G l own cc nL dep lg ret Q n lo (.int (x - y) :: st) μ) : V G l own cc nL dep lg ret Q pc lo (.int y :: .int x :: st) μ := by
  subst hn
  intro p e R s m args below meth c H locs cells slots Qf ls hC hH hL hF
  exact lv_isub hC.1 hC.2.1 hdg (k p e R s m args below meth c H locs cells slots Qf ls hC hH hL hF)
theorem R_imul {x y : Int32} (hdg : decode cc pc = .ok (.imul, 1)) (hn : pc + 1 = n) (k : V G l own cc nL dep lg ret Q n lo (.int (x * y) :: st) μ) : V G l own cc nL dep lg ret Q pc lo (.int y :: .int x :: st) μ := by
  subst hn
  intro p e R s m args below meth c H locs cells slots Qf ls hC hH hL hF
  exact lv_imul hC.1 hC.2.1 hdg (k p e R s m args below meth c H locs cells slots Qf ls hC hH hL hF)
theorem R_iand {x y : Int32} (hdg : decode cc pc = .ok (.iand, 1)) (hn : pc + 1 = n) (k : V G l own cc nL dep lg ret Q n lo (.int (x &&& y) :: st) μ) : V G l own cc nL dep lg ret Q pc lo (.int y :: .int x :: st) μ := by
  subst hn
  intro p e R s m args below meth c H locs cells slots Qf ls hC hH hL hF
  exact lv_iand hC.1 hC.2.1 hdg (k p e R s m args below meth c H locs cells slots Qf ls hC hH hL hF)
theorem R_ior {x y : Int32} (hdg : decode cc pc = .ok (.ior, 1)) (hn : pc + 1 = n) (k : V G l own cc nL dep lg ret Q n lo (.int (x ||| y) :: st) μ) : V G l own cc nL dep lg ret Q pc lo (.int y :: .int x :: st) μ := by
  subst hn
  intro p e R s m args below meth c H locs cells slots Qf ls hC hH hL hF
  exact lv_ior hC.1 hC.2.1 hdg (k p e R s m args below meth c H locs cells slots Qf ls hC hH hL hF)
theorem R_ixor {x y : Int32} (hdg : decode cc pc = .ok (.ixor, 1)) (hn : pc + 1 = n) (k : V G l own cc nL dep lg ret Q n lo (.int (x ^^^ y) :: st) μ) : V G l own cc nL dep lg ret Q pc lo (.int y :: .int x :: st) μ := by
  subst hn
  intro p e R s m args below meth c H locs cells slots Qf ls hC hH hL hF
  exact lv_ixor hC.1 hC.2.1 hdg (k p e R s m args below meth c H locs cells slots Qf ls hC hH hL hF)
theorem R_ishl {x y : Int32} (hdg : decode cc pc = .ok (.ishl, 1)) (hn : pc + 1 = n) (k : V G l own cc nL dep lg ret Q n lo (.int (x <<< (y &&& 31)) :: st) μ) : V G l own cc nL dep lg ret Q pc lo (.int y :: .int x :: st) μ := by
  subst hn
  intro p e R s m args below meth c H locs cells slots Qf ls hC hH hL hF
  exact lv_ishl hC.1 hC.2.1 hdg (k p e R s m args below meth c H locs cells slots Qf ls hC hH hL hF)
theorem R_ishr {x y : Int32} (hdg : decode cc pc = .ok (.ishr, 1)) (hn : pc + 1 = n) (k : V G l own cc nL dep lg ret Q n lo (.int (x >>> (y &&& 31)) :: st) μ) : V G l own cc nL dep lg ret Q pc lo (.int y :: .int x :: st) μ := by
  subst hn
  intro p e R s m args below meth c H locs cells slots Qf ls hC hH hL hF
  exact lv_ishr hC.1 hC.2.1 hdg (k p e R s m args below meth c H locs cells slots Qf ls hC hH hL hF)
theorem R_ladd {x y : Int64} (hdg : decode cc pc = .ok (.ladd, 1)) (hn : pc + 1 = n) (k : V G l own cc nL dep lg ret Q n lo (.long (x + y) :: st) μ) : V G l own cc nL dep lg ret Q pc lo (.long y :: .long x :: st) μ := by
  subst hn
  intro p e R s m args below meth c H locs cells slots Qf ls hC hH hL hF
  exact lv_ladd hC.1 hC.2.1 hdg (k p e R s m args below meth c H locs cells slots Qf ls hC hH hL hF)
theorem R_lmul {x y : Int64} (hdg : decode cc pc = .ok (.lmul, 1)) (hn : pc + 1 = n) (k : V G l own cc nL dep lg ret Q n lo (.long (x * y) :: st) μ) : V G l own cc nL dep lg ret Q pc lo (.long y :: .long x :: st) μ := by
  subst hn
  intro p e R s m args below meth c H locs cells slots Qf ls hC hH hL hF
  exact lv_lmul hC.1 hC.2.1 hdg (k p e R s m args below meth c H locs cells slots Qf ls hC hH hL hF)
theorem R_land {x y : Int64} (hdg : decode cc pc = .ok (.land, 1)) (hn : pc + 1 = n) (k : V G l own cc nL dep lg ret Q n lo (.long (x &&& y) :: st) μ) : V G l own cc nL dep lg ret Q pc lo (.long y :: .long x :: st) μ := by
  subst hn
  intro p e R s m args below meth c H locs cells slots Qf ls hC hH hL hF
  exact lv_land hC.1 hC.2.1 hdg (k p e R s m args below meth c H locs cells slots Qf ls hC hH hL hF)
theorem R_lor {x y : Int64} (hdg : decode cc pc = .ok (.lor, 1)) (hn : pc + 1 = n) (k : V G l own cc nL dep lg ret Q n lo (.long (x ||| y) :: st) μ) : V G l own cc nL dep lg ret Q pc lo (.long y :: .long x :: st) μ := by
  subst hn
  intro p e R s m args below meth c H locs cells slots Qf ls hC hH hL hF
  exact lv_lor hC.1 hC.2.1 hdg (k p e R s m args below meth c H locs cells slots Qf ls hC hH hL hF)
theorem R_ineg {x : Int32} (hdg : decode cc pc = .ok (.ineg, 1)) (hn : pc + 1 = n) (k : V G l own cc nL dep lg ret Q n lo (.int (-x) :: st) μ) : V G l own cc nL dep lg ret Q pc lo (.int x :: st) μ := by
  subst hn
  intro p e R s m args below meth c H locs cells slots Qf ls hC hH hL hF
  exact lv_ineg hC.1 hC.2.1 hdg (k p e R s m args below meth c H locs cells slots Qf ls hC hH hL hF)
theorem R_i2l {x : Int32} (hdg : decode cc pc = .ok (.i2l, 1)) (hn : pc + 1 = n) (k : V G l own cc nL dep lg ret Q n lo (.long x.toInt64 :: st) μ) : V G l own cc nL dep lg ret Q pc lo (.int x :: st) μ := by
  subst hn
  intro p e R s m args below meth c H locs cells slots Qf ls hC hH hL hF
  exact lv_i2l hC.1 hC.2.1 hdg rfl (k p e R s m args below meth c H locs cells slots Qf ls hC hH hL hF)
theorem R_l2i {x : Int64} (hdg : decode cc pc = .ok (.l2i, 1)) (hn : pc + 1 = n) (k : V G l own cc nL dep lg ret Q n lo (.int x.toInt32 :: st) μ) : V G l own cc nL dep lg ret Q pc lo (.long x :: st) μ := by
  subst hn
  intro p e R s m args below meth c H locs cells slots Qf ls hC hH hL hF
  exact lv_l2i hC.1 hC.2.1 hdg rfl (k p e R s m args below meth c H locs cells slots Qf ls hC hH hL hF)
theorem R_idiv {x y : Int32} (hdg : decode cc pc = .ok (.idiv, 1)) (hne : ¬ y = 0) (hn : pc + 1 = n) (k : V G l own cc nL dep lg ret Q n lo (.int (x / y) :: st) μ) : V G l own cc nL dep lg ret Q pc lo (.int y :: .int x :: st) μ := by
  subst hn
  intro p e R s m args below meth c H locs cells slots Qf ls hC hH hL hF
  exact lv_idiv hC.1 hC.2.1 hdg hne (k p e R s m args below meth c H locs cells slots Qf ls hC hH hL hF)
theorem R_irem {x y : Int32} (hdg : decode cc pc = .ok (.irem, 1)) (hne : ¬ y = 0) (hn : pc + 1 = n) (k : V G l own cc nL dep lg ret Q n lo (.int (x - x / y * y) :: st) μ) : V G l own cc nL dep lg ret Q pc lo (.int y :: .int x :: st) μ := by
  subst hn
  intro p e R s m args below meth c H locs cells slots Qf ls hC hH hL hF
  exact lv_irem hC.1 hC.2.1 hdg hne (k p e R s m args below meth c H locs cells slots Qf ls hC hH hL hF)
theorem R_lrem {x y : Int64} (hdg : decode cc pc = .ok (.lrem, 1)) (hne : ¬ y = 0) (hn : pc + 1 = n) (k : V G l own cc nL dep lg ret Q n lo (.long (x - x / y * y) :: st) μ) : V G l own cc nL dep lg ret Q pc lo (.long y :: .long x :: st) μ := by
  subst hn
  intro p e R s m args below meth c H locs cells slots Qf ls hC hH hL hF
  exact lv_lrem hC.1 hC.2.1 hdg hne (k p e R s m args below meth c H locs cells slots Qf ls hC hH hL hF)
theorem R_iushr {x y : Int32} (hdg : decode cc pc = .ok (.iushr, 1)) (hn : pc + 1 = n) (k : V G l own cc nL dep lg ret Q n lo (.int (x.toUInt32 >>> (y.toUInt32 &&& Int32.toUInt32 31)).toInt32 :: st) μ) : V G l own cc nL dep lg ret Q pc lo (.int y :: .int x :: st) μ := by
  subst hn
  intro p e R s m args below meth c H locs cells slots Qf ls hC hH hL hF
  exact lv_iushr hC.1 hC.2.1 hdg rfl (k p e R s m args below meth c H locs cells slots Qf ls hC hH hL hF)
theorem R_lushr {x : Int64} {y : Int32} (hdg : decode cc pc = .ok (.lushr, 1)) (hn : pc + 1 = n) (k : V G l own cc nL dep lg ret Q n lo (.long (x.toUInt64 >>> (y.toInt64.toUInt64 &&& Int64.toUInt64 63)).toInt64 :: st) μ) : V G l own cc nL dep lg ret Q pc lo (.int y :: .long x :: st) μ := by
  subst hn
  intro p e R s m args below meth c H locs cells slots Qf ls hC hH hL hF
  exact lv_lushr hC.1 hC.2.1 hdg rfl (k p e R s m args below meth c H locs cells slots Qf ls hC hH hL hF)
theorem R_lcmp {x y : Int64} (hdg : decode cc pc = .ok (.lcmp, 1)) (hn : pc + 1 = n) (k : V G l own cc nL dep lg ret Q n lo (.int (lg_cmp x y) :: st) μ) : V G l own cc nL dep lg ret Q pc lo (.long y :: .long x :: st) μ := by
  subst hn
  intro p e R s m args below meth c H locs cells slots Qf ls hC hH hL hF
  exact W.lcmp hC.1 hC.2.1 hdg (k p e R s m args below meth c H locs cells slots Qf ls hC hH hL hF)
theorem R_dup {va : Value} (hdg : decode cc pc = .ok (.dup, 1)) (hva : va.category = 1) (hn : pc + 1 = n) (k : V G l own cc nL dep lg ret Q n lo (va :: va :: st) μ) : V G l own cc nL dep lg ret Q pc lo (va :: st) μ := by
  subst hn
  intro p e R s m args below meth c H locs cells slots Qf ls hC hH hL hF
  exact lv_dup hC.1 hC.2.1 hdg hva (k p e R s m args below meth c H locs cells slots Qf ls hC hH hL hF)
theorem R_dup2 {va vb : Value} (hdg : decode cc pc = .ok (.dup2, 1)) (hva : va.category = 1) (hvb : vb.category = 1) (hn : pc + 1 = n) (k : V G l own cc nL dep lg ret Q n lo (va :: vb :: va :: vb :: st) μ) : V G l own cc nL dep lg ret Q pc lo (va :: vb :: st) μ := by
  subst hn
  intro p e R s m args below meth c H locs cells slots Qf ls hC hH hL hF
  exact lv_dup2_11 hC.1 hC.2.1 hdg hva hvb (k p e R s m args below meth c H locs cells slots Qf ls hC hH hL hF)
theorem R_iconst {i : Int} {v : Int32} (hdg : decode cc pc = .ok (.iconst i, 1)) (hv : Int32.ofInt i = v) (hn : pc + 1 = n) (k : V G l own cc nL dep lg ret Q n lo (.int v :: st) μ) : V G l own cc nL dep lg ret Q pc lo (st) μ := by
  subst hn
  intro p e R s m args below meth c H locs cells slots Qf ls hC hH hL hF
  exact lv_iconst hC.1 hC.2.1 hdg hv (k p e R s m args below meth c H locs cells slots Qf ls hC hH hL hF)
theorem R_bipush {i : Int} {v : Int32} (hdg : decode cc pc = .ok (.bipush i, 2)) (hv : (Int8.ofInt i).toInt32 = v) (hn : pc + 2 = n) (k : V G l own cc nL dep lg ret Q n lo (.int v :: st) μ) : V G l own cc nL dep lg ret Q pc lo (st) μ := by
  subst hn
  intro p e R s m args below meth c H locs cells slots Qf ls hC hH hL hF
  exact lv_bipush hC.1 hC.2.1 hdg hv (k p e R s m args below meth c H locs cells slots Qf ls hC hH hL hF)
theorem R_sipush {i : Int} {v : Int32} (hdg : decode cc pc = .ok (.sipush i, 3)) (hv : (Int16.ofInt i).toInt32 = v) (hn : pc + 3 = n) (k : V G l own cc nL dep lg ret Q n lo (.int v :: st) μ) : V G l own cc nL dep lg ret Q pc lo (st) μ := by
  subst hn
  intro p e R s m args below meth c H locs cells slots Qf ls hC hH hL hF
  exact lv_sipush hC.1 hC.2.1 hdg hv (k p e R s m args below meth c H locs cells slots Qf ls hC hH hL hF)
theorem R_lconst {i : Fin 2} {v : Int64} (hdg : decode cc pc = .ok (.lconst i, 1)) (hv : Int64.ofNat (i : Nat) = v) (hn : pc + 1 = n) (k : V G l own cc nL dep lg ret Q n lo (.long v :: st) μ) : V G l own cc nL dep lg ret Q pc lo (st) μ := by
  subst hn
  intro p e R s m args below meth c H locs cells slots Qf ls hC hH hL hF
  exact lv_lconst hC.1 hC.2.1 hdg hv (k p e R s m args below meth c H locs cells slots Qf ls hC hH hL hF)
theorem R_ldc2 {ix : Nat} {v : Int64} (hdg : decode cc pc = .ok (.ldc2_w ix, 3)) (hw : Cond.constantLong own ix v ∈ lw_tbl) (hn : pc + 3 = n) (k : V G l own cc nL dep lg ret Q n lo (.long v :: st) μ) : V G l own cc nL dep lg ret Q pc lo (st) μ := by
  subst hn
  intro p e R s m args below meth c H locs cells slots Qf ls hC hH hL hF
  exact lv_ldc2 hC.1 hC.2.1 hC.2.2.2.1 (hC.2.2.2.2.1 _ (mTT hw rfl)) hdg (k p e R s m args below meth c H locs cells slots Qf ls hC hH hL hF)
theorem R_ldcw {ix : Nat} {v : Int32} (hdg : decode cc pc = .ok (.ldc_w ix, 3)) (hw : Cond.constant own ix v ∈ lw_tbl) (hn : pc + 3 = n) (k : V G l own cc nL dep lg ret Q n lo (.int v :: st) μ) : V G l own cc nL dep lg ret Q pc lo (st) μ := by
  subst hn
  intro p e R s m args below meth c H locs cells slots Qf ls hC hH hL hF
  exact lv_ldcw hC.1 hC.2.1 hC.2.2.2.1 (hC.2.2.2.2.1 _ (mTT hw rfl)) hdg (k p e R s m args below meth c H locs cells slots Qf ls hC hH hL hF)
theorem R_iload {i : Nat} {x : Int32} (hdg : decode cc pc = .ok (.iload i, 2)) (hl : lo[i]? = some (some (.int x))) (hn : pc + 2 = n) (k : V G l own cc nL dep lg ret Q n lo (.int x :: st) μ) : V G l own cc nL dep lg ret Q pc lo (st) μ := by
  subst hn
  intro p e R s m args below meth c H locs cells slots Qf ls hC hH hL hF
  exact lv_iload hC.1 hC.2.1 hdg (hL.2.2 _ _ hl).1 (k p e R s m args below meth c H locs cells slots Qf ls hC hH hL hF)
theorem R_aload {i a : Nat} (hdg : decode cc pc = .ok (.aload i, 2)) (hl : lo[i]? = some (some (.ref a))) (hn : pc + 2 = n) (k : V G l own cc nL dep lg ret Q n lo (.ref a :: st) μ) : V G l own cc nL dep lg ret Q pc lo (st) μ := by
  subst hn
  intro p e R s m args below meth c H locs cells slots Qf ls hC hH hL hF
  exact lv_aload hC.1 hC.2.1 hdg (hL.2.2 _ _ hl).1 (k p e R s m args below meth c H locs cells slots Qf ls hC hH hL hF)
theorem R_lload {i : Nat} {x : Int64} (hdg : decode cc pc = .ok (.lload i, 2)) (hl : lo[i]? = some (some (.long x))) (hn : pc + 2 = n) (k : V G l own cc nL dep lg ret Q n lo (.long x :: st) μ) : V G l own cc nL dep lg ret Q pc lo (st) μ := by
  subst hn
  intro p e R s m args below meth c H locs cells slots Qf ls hC hH hL hF
  exact lv_lload hC.1 hC.2.1 hdg (hL.2.2 _ _ hl).1 (k p e R s m args below meth c H locs cells slots Qf ls hC hH hL hF)
theorem R_iload_n {j : Fin 4} {x : Int32} (hdg : decode cc pc = .ok (.iload_n j, 1)) (hl : lo[(j : Nat)]? = some (some (.int x))) (hn : pc + 1 = n) (k : V G l own cc nL dep lg ret Q n lo (.int x :: st) μ) : V G l own cc nL dep lg ret Q pc lo (st) μ := by
  subst hn
  intro p e R s m args below meth c H locs cells slots Qf ls hC hH hL hF
  exact lv_iload_n hC.1 hC.2.1 hdg rfl (hL.2.2 _ _ hl).1 (k p e R s m args below meth c H locs cells slots Qf ls hC hH hL hF)
theorem R_aload_n {j : Fin 4} {x : Nat} (hdg : decode cc pc = .ok (.aload_n j, 1)) (hl : lo[(j : Nat)]? = some (some (.ref x))) (hn : pc + 1 = n) (k : V G l own cc nL dep lg ret Q n lo (.ref x :: st) μ) : V G l own cc nL dep lg ret Q pc lo (st) μ := by
  subst hn
  intro p e R s m args below meth c H locs cells slots Qf ls hC hH hL hF
  exact lv_aload_n hC.1 hC.2.1 hdg rfl (hL.2.2 _ _ hl).1 (k p e R s m args below meth c H locs cells slots Qf ls hC hH hL hF)
theorem R_lload_n {j : Fin 4} {x : Int64} (hdg : decode cc pc = .ok (.lload_n j, 1)) (hl : lo[(j : Nat)]? = some (some (.long x))) (hn : pc + 1 = n) (k : V G l own cc nL dep lg ret Q n lo (.long x :: st) μ) : V G l own cc nL dep lg ret Q pc lo (st) μ := by
  subst hn
  intro p e R s m args below meth c H locs cells slots Qf ls hC hH hL hF
  exact lv_lload_n hC.1 hC.2.1 hdg rfl (hL.2.2 _ _ hl).1 (k p e R s m args below meth c H locs cells slots Qf ls hC hH hL hF)
theorem R_if_eq {x : Int32} {off : Int} {tgt : Nat} (hdg : decode cc pc = .ok (.ifCond .eq off, 3)) (ht : (pc : Int) + off = (tgt : Int)) (hn : pc + 3 = n) (kt : x = 0 → V G l own cc nL dep lg ret Q tgt lo st μ) (kf : ¬ (x = 0) → V G l own cc nL dep lg ret Q n lo st μ) : V G l own cc nL dep lg ret Q pc lo (.int x :: st) μ := by
  subst hn
  intro p e R s m args below meth c H locs cells slots Qf ls hC hH hL hF
  exact lv_if_eq hC.1 hC.2.1 hdg ht (fun h => kt h p e R s m args below meth c H locs cells slots Qf ls hC hH hL hF) (fun h => kf h p e R s m args below meth c H locs cells slots Qf ls hC hH hL hF)
theorem R_if_eq_t {x : Int32} {off : Int} {tgt : Nat} (hdg : decode cc pc = .ok (.ifCond .eq off, 3)) (ht : (pc : Int) + off = (tgt : Int)) (h : x = 0) (kt : V G l own cc nL dep lg ret Q tgt lo st μ) : V G l own cc nL dep lg ret Q pc lo (.int x :: st) μ :=
  R_if_eq hdg ht rfl (fun _ => kt) (fun q => (q h).elim)
theorem R_if_eq_f {x : Int32} {off : Int} {tgt : Nat} (hdg : decode cc pc = .ok (.ifCond .eq off, 3)) (ht : (pc : Int) + off = (tgt : Int)) (hn : pc + 3 = n) (h : ¬ (x = 0)) (kf : V G l own cc nL dep lg ret Q n lo st μ) : V G l own cc nL dep lg ret Q pc lo (.int x :: st) μ :=
  R_if_eq hdg ht hn (fun q => (h q).elim) (fun _ => kf)
theorem R_icmp_eq {x y : Int32} {off : Int} {tgt : Nat} (hdg : decode cc pc = .ok (.if_icmp .eq off, 3)) (ht : (pc : Int) + off = (tgt : Int)) (hn : pc + 3 = n) (kt : x = y → V G l own cc nL dep lg ret Q tgt lo st μ) (kf : ¬ (x = y) → V G l own cc nL dep lg ret Q n lo st μ) : V G l own cc nL dep lg ret Q pc lo (.int y :: .int x :: st) μ := by
  subst hn
  intro p e R s m args below meth c H locs cells slots Qf ls hC hH hL hF
  exact lv_icmp_eq hC.1 hC.2.1 hdg ht (fun h => kt h p e R s m args below meth c H locs cells slots Qf ls hC hH hL hF) (fun h => kf h p e R s m args below meth c H locs cells slots Qf ls hC hH hL hF)
theorem R_icmp_eq_t {x y : Int32} {off : Int} {tgt : Nat} (hdg : decode cc pc = .ok (.if_icmp .eq off, 3)) (ht : (pc : Int) + off = (tgt : Int)) (h : x = y) (kt : V G l own cc nL dep lg ret Q tgt lo st μ) : V G l own cc nL dep lg ret Q pc lo (.int y :: .int x :: st) μ :=
  R_icmp_eq hdg ht rfl (fun _ => kt) (fun q => (q h).elim)
theorem R_icmp_eq_f {x y : Int32} {off : Int} {tgt : Nat} (hdg : decode cc pc = .ok (.if_icmp .eq off, 3)) (ht : (pc : Int) + off = (tgt : Int)) (hn : pc + 3 = n) (h : ¬ (x = y)) (kf : V G l own cc nL dep lg ret Q n lo st μ) : V G l own cc nL dep lg ret Q pc lo (.int y :: .int x :: st) μ :=
  R_icmp_eq hdg ht hn (fun q => (h q).elim) (fun _ => kf)
theorem R_if_ne {x : Int32} {off : Int} {tgt : Nat} (hdg : decode cc pc = .ok (.ifCond .ne off, 3)) (ht : (pc : Int) + off = (tgt : Int)) (hn : pc + 3 = n) (kt : ¬ x = 0 → V G l own cc nL dep lg ret Q tgt lo st μ) (kf : x = 0 → V G l own cc nL dep lg ret Q n lo st μ) : V G l own cc nL dep lg ret Q pc lo (.int x :: st) μ := by
  subst hn
  intro p e R s m args below meth c H locs cells slots Qf ls hC hH hL hF
  exact lv_if_ne hC.1 hC.2.1 hdg ht (fun h => kt h p e R s m args below meth c H locs cells slots Qf ls hC hH hL hF) (fun h => kf h p e R s m args below meth c H locs cells slots Qf ls hC hH hL hF)
theorem R_if_ne_t {x : Int32} {off : Int} {tgt : Nat} (hdg : decode cc pc = .ok (.ifCond .ne off, 3)) (ht : (pc : Int) + off = (tgt : Int)) (h : ¬ x = 0) (kt : V G l own cc nL dep lg ret Q tgt lo st μ) : V G l own cc nL dep lg ret Q pc lo (.int x :: st) μ :=
  R_if_ne hdg ht rfl (fun _ => kt) (fun q => (h q).elim)
theorem R_if_ne_f {x : Int32} {off : Int} {tgt : Nat} (hdg : decode cc pc = .ok (.ifCond .ne off, 3)) (ht : (pc : Int) + off = (tgt : Int)) (hn : pc + 3 = n) (h : x = 0) (kf : V G l own cc nL dep lg ret Q n lo st μ) : V G l own cc nL dep lg ret Q pc lo (.int x :: st) μ :=
  R_if_ne hdg ht hn (fun q => (q h).elim) (fun _ => kf)
theorem R_icmp_ne {x y : Int32} {off : Int} {tgt : Nat} (hdg : decode cc pc = .ok (.if_icmp .ne off, 3)) (ht : (pc : Int) + off = (tgt : Int)) (hn : pc + 3 = n) (kt : ¬ x = y → V G l own cc nL dep lg ret Q tgt lo st μ) (kf : x = y → V G l own cc nL dep lg ret Q n lo st μ) : V G l own cc nL dep lg ret Q pc lo (.int y :: .int x :: st) μ := by
  subst hn
  intro p e R s m args below meth c H locs cells slots Qf ls hC hH hL hF
  exact lv_icmp_ne hC.1 hC.2.1 hdg ht (fun h => kt h p e R s m args below meth c H locs cells slots Qf ls hC hH hL hF) (fun h => kf h p e R s m args below meth c H locs cells slots Qf ls hC hH hL hF)
theorem R_icmp_ne_t {x y : Int32} {off : Int} {tgt : Nat} (hdg : decode cc pc = .ok (.if_icmp .ne off, 3)) (ht : (pc : Int) + off = (tgt : Int)) (h : ¬ x = y) (kt : V G l own cc nL dep lg ret Q tgt lo st μ) : V G l own cc nL dep lg ret Q pc lo (.int y :: .int x :: st) μ :=
  R_icmp_ne hdg ht rfl (fun _ => kt) (fun q => (h q).elim)
theorem R_icmp_ne_f {x y : Int32} {off : Int} {tgt : Nat} (hdg : decode cc pc = .ok (.if_icmp .ne off, 3)) (ht : (pc : Int) + off = (tgt : Int)) (hn : pc + 3 = n) (h : x = y) (kf : V G l own cc nL dep lg ret Q n lo st μ) : V G l own cc nL dep lg ret Q pc lo (.int y :: .int x :: st) μ :=
  R_icmp_ne hdg ht hn (fun q => (q h).elim) (fun _ => kf)
theorem R_if_lt {x : Int32} {off : Int} {tgt : Nat} (hdg : decode cc pc = .ok (.ifCond .lt off, 3)) (ht : (pc : Int) + off = (tgt : Int)) (hn : pc + 3 = n) (kt : x < 0 → V G l own cc nL dep lg ret Q tgt lo st μ) (kf : ¬ (x < 0) → V G l own cc nL dep lg ret Q n lo st μ) : V G l own cc nL dep lg ret Q pc lo (.int x :: st) μ := by
  subst hn
  intro p e R s m args below meth c H locs cells slots Qf ls hC hH hL hF
  exact lv_if_lt hC.1 hC.2.1 hdg ht (fun h => kt h p e R s m args below meth c H locs cells slots Qf ls hC hH hL hF) (fun h => kf h p e R s m args below meth c H locs cells slots Qf ls hC hH hL hF)
theorem R_if_lt_t {x : Int32} {off : Int} {tgt : Nat} (hdg : decode cc pc = .ok (.ifCond .lt off, 3)) (ht : (pc : Int) + off = (tgt : Int)) (h : x < 0) (kt : V G l own cc nL dep lg ret Q tgt lo st μ) : V G l own cc nL dep lg ret Q pc lo (.int x :: st) μ :=
  R_if_lt hdg ht rfl (fun _ => kt) (fun q => (q h).elim)
theorem R_if_lt_f {x : Int32} {off : Int} {tgt : Nat} (hdg : decode cc pc = .ok (.ifCond .lt off, 3)) (ht : (pc : Int) + off = (tgt : Int)) (hn : pc + 3 = n) (h : ¬ (x < 0)) (kf : V G l own cc nL dep lg ret Q n lo st μ) : V G l own cc nL dep lg ret Q pc lo (.int x :: st) μ :=
  R_if_lt hdg ht hn (fun q => (h q).elim) (fun _ => kf)
theorem R_icmp_lt {x y : Int32} {off : Int} {tgt : Nat} (hdg : decode cc pc = .ok (.if_icmp .lt off, 3)) (ht : (pc : Int) + off = (tgt : Int)) (hn : pc + 3 = n) (kt : x < y → V G l own cc nL dep lg ret Q tgt lo st μ) (kf : ¬ (x < y) → V G l own cc nL dep lg ret Q n lo st μ) : V G l own cc nL dep lg ret Q pc lo (.int y :: .int x :: st) μ := by
  subst hn
  intro p e R s m args below meth c H locs cells slots Qf ls hC hH hL hF
  exact lv_icmp_lt hC.1 hC.2.1 hdg ht (fun h => kt h p e R s m args below meth c H locs cells slots Qf ls hC hH hL hF) (fun h => kf h p e R s m args below meth c H locs cells slots Qf ls hC hH hL hF)
theorem R_icmp_lt_t {x y : Int32} {off : Int} {tgt : Nat} (hdg : decode cc pc = .ok (.if_icmp .lt off, 3)) (ht : (pc : Int) + off = (tgt : Int)) (h : x < y) (kt : V G l own cc nL dep lg ret Q tgt lo st μ) : V G l own cc nL dep lg ret Q pc lo (.int y :: .int x :: st) μ :=
  R_icmp_lt hdg ht rfl (fun _ => kt) (fun q => (q h).elim)
theorem R_icmp_lt_f {x y : Int32} {off : Int} {tgt : Nat} (hdg : decode cc pc = .ok (.if_icmp .lt off, 3)) (ht : (pc : Int) + off = (tgt : Int)) (hn : pc + 3 = n) (h : ¬ (x < y)) (kf : V G l own cc nL dep lg ret Q n lo st μ) : V G l own cc nL dep lg ret Q pc lo (.int y :: .int x :: st) μ :=
  R_icmp_lt hdg ht hn (fun q => (h q).elim) (fun _ => kf)
theorem R_if_ge {x : Int32} {off : Int} {tgt : Nat} (hdg : decode cc pc = .ok (.ifCond .ge off, 3)) (ht : (pc : Int) + off = (tgt : Int)) (hn : pc + 3 = n) (kt : 0 ≤ x → V G l own cc nL dep lg ret Q tgt lo st μ) (kf : ¬ (0 ≤ x) → V G l own cc nL dep lg ret Q n lo st μ) : V G l own cc nL dep lg ret Q pc lo (.int x :: st) μ := by
  subst hn
  intro p e R s m args below meth c H locs cells slots Qf ls hC hH hL hF
  exact lv_if_ge hC.1 hC.2.1 hdg ht (fun h => kt h p e R s m args below meth c H locs cells slots Qf ls hC hH hL hF) (fun h => kf h p e R s m args below meth c H locs cells slots Qf ls hC hH hL hF)
theorem R_if_ge_t {x : Int32} {off : Int} {tgt : Nat} (hdg : decode cc pc = .ok (.ifCond .ge off, 3)) (ht : (pc : Int) + off = (tgt : Int)) (h : 0 ≤ x) (kt : V G l own cc nL dep lg ret Q tgt lo st μ) : V G l own cc nL dep lg ret Q pc lo (.int x :: st) μ :=
  R_if_ge hdg ht rfl (fun _ => kt) (fun q => (q h).elim)
theorem R_if_ge_f {x : Int32} {off : Int} {tgt : Nat} (hdg : decode cc pc = .ok (.ifCond .ge off, 3)) (ht : (pc : Int) + off = (tgt : Int)) (hn : pc + 3 = n) (h : ¬ (0 ≤ x)) (kf : V G l own cc nL dep lg ret Q n lo st μ) : V G l own cc nL dep lg ret Q pc lo (.int x :: st) μ :=
  R_if_ge hdg ht hn (fun q => (h q).elim) (fun _ => kf)
theorem R_icmp_ge {x y : Int32} {off : Int} {tgt : Nat} (hdg : decode cc pc = .ok (.if_icmp .ge off, 3)) (ht : (pc : Int) + off = (tgt : Int)) (hn : pc + 3 = n) (kt : y ≤ x → V G l own cc nL dep lg ret Q tgt lo st μ) (kf : ¬ (y ≤ x) → V G l own cc nL dep lg ret Q n lo st μ) : V G l own cc nL dep lg ret Q pc lo (.int y :: .int x :: st) μ := by
  subst hn
  intro p e R s m args below meth c H locs cells slots Qf ls hC hH hL hF
  exact lv_icmp_ge hC.1 hC.2.1 hdg ht (fun h => kt h p e R s m args below meth c H locs cells slots Qf ls hC hH hL hF) (fun h => kf h p e R s m args below meth c H locs cells slots Qf ls hC hH hL hF)
theorem R_icmp_ge_t {x y : Int32} {off : Int} {tgt : Nat} (hdg : decode cc pc = .ok (.if_icmp .ge off, 3)) (ht : (pc : Int) + off = (tgt : Int)) (h : y ≤ x) (kt : V G l own cc nL dep lg ret Q tgt lo st μ) : V G l own cc nL dep lg ret Q pc lo (.int y :: .int x :: st) μ :=
  R_icmp_ge hdg ht rfl (fun _ => kt) (fun q => (q h).elim)
theorem R_icmp_ge_f {x y : Int32} {off : Int} {tgt : Nat} (hdg : decode cc pc = .ok (.if_icmp .ge off, 3)) (ht : (pc : Int) + off = (tgt : Int)) (hn : pc + 3 = n) (h : ¬ (y ≤ x)) (kf : V G l own cc nL dep lg ret Q n lo st μ) : V G l own cc nL dep lg ret Q pc lo (.int y :: .int x :: st) μ :=
  R_icmp_ge hdg ht hn (fun q => (h q).elim) (fun _ => kf)
theorem R_if_gt {x : Int32} {off : Int} {tgt : Nat} (hdg : decode cc pc = .ok (.ifCond .gt off, 3)) (ht : (pc : Int) + off = (tgt : Int)) (hn : pc + 3 = n) (kt : 0 < x → V G l own cc nL dep lg ret Q tgt lo st μ) (kf : ¬ (0 < x) → V G l own cc nL dep lg ret Q n lo st μ) : V G l own cc nL dep lg ret Q pc lo (.int x :: st) μ := by
  subst hn
  intro p e R s m args below meth c H locs cells slots Qf ls hC hH hL hF
  exact lv_if_gt hC.1 hC.2.1 hdg ht (fun h => kt h p e R s m args below meth c H locs cells slots Qf ls hC hH hL hF) (fun h => kf h p e R s m args below meth c H locs cells slots Qf ls hC hH hL hF)
theorem R_if_gt_t {x : Int32} {off : Int} {tgt : Nat} (hdg : decode cc pc = .ok (.ifCond .gt off, 3)) (ht : (pc : Int) + off = (tgt : Int)) (h : 0 < x) (kt : V G l own cc nL dep lg ret Q tgt lo st μ) : V G l own cc nL dep lg ret Q pc lo (.int x :: st) μ :=
  R_if_gt hdg ht rfl (fun _ => kt) (fun q => (q h).elim)
theorem R_if_gt_f {x : Int32} {off : Int} {tgt : Nat} (hdg : decode cc pc = .ok (.ifCond .gt off, 3)) (ht : (pc : Int) + off = (tgt : Int)) (hn : pc + 3 = n) (h : ¬ (0 < x)) (kf : V G l own cc nL dep lg ret Q n lo st μ) : V G l own cc nL dep lg ret Q pc lo (.int x :: st) μ :=
  R_if_gt hdg ht hn (fun q => (h q).elim) (fun _ => kf)
theorem R_icmp_gt {x y : Int32} {off : Int} {tgt : Nat} (hdg : decode cc pc = .ok (.if_icmp .gt off, 3)) (ht : (pc : Int) + off = (tgt : Int)) (hn : pc + 3 = n) (kt : y < x → V G l own cc nL dep lg ret Q tgt lo st μ) (kf : ¬ (y < x) → V G l own cc nL dep lg ret Q n lo st μ) : V G l own cc nL dep lg ret Q pc lo (.int y :: .int x :: st) μ := by
  subst hn
  intro p e R s m args below meth c H locs cells slots Qf ls hC hH hL hF
  exact lv_icmp_gt hC.1 hC.2.1 hdg ht (fun h => kt h p e R s m args below meth c H locs cells slots Qf ls hC hH hL hF) (fun h => kf h p e R s m args below meth c H locs cells slots Qf ls hC hH hL hF)
theorem R_icmp_gt_t {x y : Int32} {off : Int} {tgt : Nat} (hdg : decode cc pc = .ok (.if_icmp .gt off, 3)) (ht : (pc : Int) + off = (tgt : Int)) (h : y < x) (kt : V G l own cc nL dep lg ret Q tgt lo st μ) : V G l own cc nL dep lg ret Q pc lo (.int y :: .int x :: st) μ :=
  R_icmp_gt hdg ht rfl (fun _ => kt) (fun q => (q h).elim)
theorem R_icmp_gt_f {x y : Int32} {off : Int} {tgt : Nat} (hdg : decode cc pc = .ok (.if_icmp .gt off, 3)) (ht : (pc : Int) + off = (tgt : Int)) (hn : pc + 3 = n) (h : ¬ (y < x)) (kf : V G l own cc nL dep lg ret Q n lo st μ) : V G l own cc nL dep lg ret Q pc lo (.int y :: .int x :: st) μ :=
  R_icmp_gt hdg ht hn (fun q => (h q).elim) (fun _ => kf)
theorem R_if_le {x : Int32} {off : Int} {tgt : Nat} (hdg : decode cc pc = .ok (.ifCond .le off, 3)) (ht : (pc : Int) + off = (tgt : Int)) (hn : pc + 3 = n) (kt : x ≤ 0 → V G l own cc nL dep lg ret Q tgt lo st μ) (kf : ¬ (x ≤ 0) → V G l own cc nL dep lg ret Q n lo st μ) : V G l own cc nL dep lg ret Q pc lo (.int x :: st) μ := by
  subst hn
  intro p e R s m args below meth c H locs cells slots Qf ls hC hH hL hF
  exact lv_if_le hC.1 hC.2.1 hdg ht (fun h => kt h p e R s m args below meth c H locs cells slots Qf ls hC hH hL hF) (fun h => kf h p e R s m args below meth c H locs cells slots Qf ls hC hH hL hF)
theorem R_if_le_t {x : Int32} {off : Int} {tgt : Nat} (hdg : decode cc pc = .ok (.ifCond .le off, 3)) (ht : (pc : Int) + off = (tgt : Int)) (h : x ≤ 0) (kt : V G l own cc nL dep lg ret Q tgt lo st μ) : V G l own cc nL dep lg ret Q pc lo (.int x :: st) μ :=
  R_if_le hdg ht rfl (fun _ => kt) (fun q => (q h).elim)
theorem R_if_le_f {x : Int32} {off : Int} {tgt : Nat} (hdg : decode cc pc = .ok (.ifCond .le off, 3)) (ht : (pc : Int) + off = (tgt : Int)) (hn : pc + 3 = n) (h : ¬ (x ≤ 0)) (kf : V G l own cc nL dep lg ret Q n lo st μ) : V G l own cc nL dep lg ret Q pc lo (.int x :: st) μ :=
  R_if_le hdg ht hn (fun q => (h q).elim) (fun _ => kf)
theorem R_icmp_le {x y : Int32} {off : Int} {tgt : Nat} (hdg : decode cc pc = .ok (.if_icmp .le off, 3)) (ht : (pc : Int) + off = (tgt : Int)) (hn : pc + 3 = n) (kt : x ≤ y → V G l own cc nL dep lg ret Q tgt lo st μ) (kf : ¬ (x ≤ y) → V G l own cc nL dep lg ret Q n lo st μ) : V G l own cc nL dep lg ret Q pc lo (.int y :: .int x :: st) μ := by
  subst hn
  intro p e R s m args below meth c H locs cells slots Qf ls hC hH hL hF
  exact lv_icmp_le hC.1 hC.2.1 hdg ht (fun h => kt h p e R s m args below meth c H locs cells slots Qf ls hC hH hL hF) (fun h => kf h p e R s m args below meth c H locs cells slots Qf ls hC hH hL hF)
theorem R_icmp_le_t {x y : Int32} {off : Int} {tgt : Nat} (hdg : decode cc pc = .ok (.if_icmp .le off, 3)) (ht : (pc : Int) + off = (tgt : Int)) (h : x ≤ y) (kt : V G l own cc nL dep lg ret Q tgt lo st μ) : V G l own cc nL dep lg ret Q pc lo (.int y :: .int x :: st) μ :=
  R_icmp_le hdg ht rfl (fun _ => kt) (fun q => (q h).elim)
theorem R_icmp_le_f {x y : Int32} {off : Int} {tgt : Nat} (hdg : decode cc pc = .ok (.if_icmp .le off, 3)) (ht : (pc : Int) + off = (tgt : Int)) (hn : pc + 3 = n) (h : ¬ (x ≤ y)) (kf : V G l own cc nL dep lg ret Q n lo st μ) : V G l own cc nL dep lg ret Q pc lo (.int y :: .int x :: st) μ :=
  R_icmp_le hdg ht hn (fun q => (h q).elim) (fun _ => kf)
theorem R_goto {off : Int} {tgt : Nat} (hdg : decode cc pc = .ok (.goto off, 3)) (ht : (pc : Int) + off = (tgt : Int)) (k : V G l own cc nL dep lg ret Q tgt lo st μ) : V G l own cc nL dep lg ret Q pc lo st μ := by
  intro p e R s m args below meth c H locs cells slots Qf ls hC hH hL hF
  exact lv_goto hC.1 hC.2.1 hdg ht (k p e R s m args below meth c H locs cells slots Qf ls hC hH hL hF)
theorem R_tableOut {dflt l0 hi : Int} {offs : Array Int} {len : Nat} {x : Int32} {tgt : Nat} (hdg : decode cc pc = .ok (.tableswitch dflt l0 hi offs, len)) (h : x.toInt < l0 ∨ hi < x.toInt) (ht : (pc : Int) + dflt = (tgt : Int)) (k : V G l own cc nL dep lg ret Q tgt lo st μ) : V G l own cc nL dep lg ret Q pc lo (.int x :: st) μ := by
  intro p e R s m args below meth c H locs cells slots Qf ls hC hH hL hF
  exact lv_tableOut hC.1 hC.2.1 hdg h ht (k p e R s m args below meth c H locs cells slots Qf ls hC hH hL hF)
theorem R_tableIn {dflt l0 hi : Int} {offs : Array Int} {len : Nat} {x : Int32} {off : Int} {tgt : Nat} (hdg : decode cc pc = .ok (.tableswitch dflt l0 hi offs, len)) (h1 : ¬ x.toInt < l0) (h2 : ¬ hi < x.toInt) (ho : offs[(x.toInt - l0).toNat]? = some off) (ht : (pc : Int) + off = (tgt : Int)) (k : V G l own cc nL dep lg ret Q tgt lo st μ) : V G l own cc nL dep lg ret Q pc lo (.int x :: st) μ := by
  intro p e R s m args below meth c H locs cells slots Qf ls hC hH hL hF
  exact lv_tableIn hC.1 hC.2.1 hdg h1 h2 ho ht (k p e R s m args below meth c H locs cells slots Qf ls hC hH hL hF)
def prs : Nat → List (Option Value) → List (Nat × Value)
  | _, [] => []
  | i, none :: t => prs (i + 1) t
  | i, some v :: t => (i, v) :: prs (i + 1) t
theorem prs_mem (i : Nat) (v : Value) : ∀ (lo : List (Option Value)) (b : Nat), (b + i, v) ∈ prs b lo ↔ lo[i]? = some (some v)
  | [], b => by simp [prs]
  | o :: t, b => by
    have key : ∀ (lo : List (Option Value)) (b j : Nat) (v : Value), (j, v) ∈ prs b lo → b ≤ j := by
      intro lo
      induction lo with
      | nil => intro b j v h; simp [prs] at h
      | cons o t ih =>
        intro b j v h
        cases o with
        | none => exact Nat.le_trans (Nat.le_succ b) (ih _ _ _ h)
        | some w =>
          rcases List.mem_cons.mp h with h | h
          · cases h; exact Nat.le_refl _
          · exact Nat.le_trans (Nat.le_succ b) (ih _ _ _ h)
    cases i with
    | zero =>
      cases o with
      | none =>
        constructor
        · intro h; exact absurd (key _ _ _ _ (show (b + 0, v) ∈ prs (b + 1) t from h)) (by omega)
        · intro h; simp at h
      | some w =>
        constructor
        · intro h
          rcases List.mem_cons.mp (show (b + 0, v) ∈ (b, w) :: prs (b + 1) t from h) with h | h
          · cases h; rfl
          · exact absurd (key _ _ _ _ h) (by omega)
        · intro h
          have : w = v := by simpa using h
          subst this
          exact List.mem_cons_self
    | succ i =>
      have ih := prs_mem i v t (b + 1)
      have e : b + (i + 1) = b + 1 + i := by omega
      rw [e, List.getElem?_cons_succ]
      cases o with
      | none => exact ih
      | some w =>
        constructor
        · intro h
          rcases List.mem_cons.mp (show (b + 1 + i, v) ∈ (b, w) :: prs (b + 1) t from h) with h | h
          · exact absurd (congrArg Prod.fst h) (by simp; omega)
          · exact ih.mp h
        · intro h; exact List.mem_cons_of_mem _ (ih.mpr h)
theorem lm_has {ls : Array Slot} (h : lm lg ls nL lo) : lv_has ls nL (prs 0 lo) := ⟨h.1, h.2.1, fun q hq => (h.2.2 q.1 q.2 ((prs_mem q.1 q.2 lo 0).mp (by rw [Nat.zero_add]; exact hq))).1⟩
theorem lm_of {ls : Array Slot} (h : lm false ls nL lo) {i : Nat} (hi : i < lo.length) {v : Value} (hv : v.category = 1) {ls' : Array Slot} (h' : lv_has ls' nL ((i, v) :: (prs 0 lo).filter (fun q => !(q.1 == i) && !(q.1 + 1 == i && q.2.category == 2)))) : lm false ls' nL (lo.set i (some v)) := by
  refine ⟨h'.1, h'.2.1, fun j w hj => ?_⟩
  by_cases e : i = j
  · subst e
    rw [List.getElem?_set_self hi] at hj
    cases hj
    exact ⟨h'.2.2 _ List.mem_cons_self, fun _ => hv⟩
  · rw [List.getElem?_set_ne e] at hj
    have hc := (h.2.2 j w hj).2 rfl
    refine ⟨h'.2.2 (j, w) (List.mem_cons_of_mem _ (List.mem_filter.mpr ⟨?_, ?_⟩)), fun _ => hc⟩
    · have := (prs_mem j w lo 0).mpr hj
      rwa [Nat.zero_add] at this
    · have e' : ¬ j = i := fun z => e z.symm
      simp [e', hc]
theorem R_istore {i : Nat} {x : Int32} (hdg : decode cc pc = .ok (.istore i, 2)) (hn : pc + 2 = n) (hi : i < lo.length) (hi2 : i < nL) (k : V G l own cc nL dep false ret Q n (lo.set i (some (.int x))) st μ) : V G l own cc nL dep false ret Q pc lo (.int x :: st) μ := by
  subst hn
  intro p e R s m args below meth c H locs cells slots Qf ls hC hH hL hF
  exact lv_istore hC.1 hC.2.1 hdg (lm_has hL) hi2 rfl (fun ls' h' => k p e R s m args below meth c H locs cells slots Qf ls' hC hH (lm_of hL hi rfl h') hF)
theorem R_istore_n {j : Fin 4} {x : Int32} (hdg : decode cc pc = .ok (.istore_n j, 1)) (hn : pc + 1 = n) (hi : (j : Nat) < lo.length) (hi2 : (j : Nat) < nL) (k : V G l own cc nL dep false ret Q n (lo.set (j : Nat) (some (.int x))) st μ) : V G l own cc nL dep false ret Q pc lo (.int x :: st) μ := by
  subst hn
  intro p e R s m args below meth c H locs cells slots Qf ls hC hH hL hF
  exact lv_istore_n hC.1 hC.2.1 hdg rfl (lm_has hL) hi2 rfl (fun ls' h' => k p e R s m args below meth c H locs cells slots Qf ls' hC hH (lm_of hL hi rfl h') hF)
theorem R_astore {i : Nat} {x : Nat} (hdg : decode cc pc = .ok (.astore i, 2)) (hn : pc + 2 = n) (hi : i < lo.length) (hi2 : i < nL) (k : V G l own cc nL dep false ret Q n (lo.set i (some (.ref x))) st μ) : V G l own cc nL dep false ret Q pc lo (.ref x :: st) μ := by
  subst hn
  intro p e R s m args below meth c H locs cells slots Qf ls hC hH hL hF
  exact lv_astore hC.1 hC.2.1 hdg (lm_has hL) hi2 rfl (fun ls' h' => k p e R s m args below meth c H locs cells slots Qf ls' hC hH (lm_of hL hi rfl h') hF)
theorem R_astore_n {j : Fin 4} {x : Nat} (hdg : decode cc pc = .ok (.astore_n j, 1)) (hn : pc + 1 = n) (hi : (j : Nat) < lo.length) (hi2 : (j : Nat) < nL) (k : V G l own cc nL dep false ret Q n (lo.set (j : Nat) (some (.ref x))) st μ) : V G l own cc nL dep false ret Q pc lo (.ref x :: st) μ := by
  subst hn
  intro p e R s m args below meth c H locs cells slots Qf ls hC hH hL hF
  exact lv_astore_n hC.1 hC.2.1 hdg rfl (lm_has hL) hi2 rfl (fun ls' h' => k p e R s m args below meth c H locs cells slots Qf ls' hC hH (lm_of hL hi rfl h') hF)
theorem R_iinc {i : Nat} {d : Int} {x v : Int32} (hdg : decode cc pc = .ok (.iinc i d, 3)) (hn : pc + 3 = n) (hl : lo[i]? = some (some (.int x))) (hv : x + Int32.ofInt d = v) (hi2 : i < nL) (k : V G l own cc nL dep false ret Q n (lo.set i (some (.int v))) st μ) : V G l own cc nL dep false ret Q pc lo st μ := by
  subst hn
  intro p e R s m args below meth c H locs cells slots Qf ls hC hH hL hF
  obtain ⟨j, hj⟩ := List.getElem?_of_mem (show (i, Value.int x) ∈ prs 0 lo from by have := (prs_mem i (.int x) lo 0).mpr hl; rwa [Nat.zero_add] at this)
  exact lv_iinc hC.1 hC.2.1 hdg (lm_has hL) hj hv hi2 rfl (fun ls' h' => k p e R s m args below meth c H locs cells slots Qf ls' hC hH (lm_of hL (List.getElem?_eq_some_iff.mp hl).1 rfl h') hF)
/-- a local that is no longer wanted may be anything -/
theorem V.drop {lo' : List (Option Value)} (h : ∀ (i : Nat) (v : Value), lo'[i]? = some (some v) → lo[i]? = some (some v)) (k : V G l own cc nL dep lg ret Q pc lo' st μ) : V G l own cc nL dep lg ret Q pc lo st μ := by
  intro p e R s m args below meth c H locs cells slots Qf ls hC hH hL hF
  exact k p e R s m args below meth c H locs cells slots Qf ls hC hH ⟨hL.1, hL.2.1, fun i v hi => hL.2.2 i v (h i v hi)⟩ hF
/-- the end may be told weaker -/
theorem V.mono {Q' : Option Value → Mem → Prop} (h : ∀ r μ', Q' r μ' → Q r μ') (k : V G l own cc nL dep lg ret Q' pc lo st μ) : V G l own cc nL dep lg ret Q pc lo st μ := by
  intro p e R s m args below meth c H locs cells slots Qf ls hC hH hL hF
  exact k p e R s m args below meth c H locs cells slots Qf ls hC hH hL (fun r μ' H' locs' ls' pc' q => hF r μ' H' locs' ls' pc' (h r μ' q))
theorem V.eqμ {μ' : Mem} (h : μ = μ') (k : V G l own cc nL dep lg ret Q pc lo st μ') : V G l own cc nL dep lg ret Q pc lo st μ := h ▸ k
theorem V.eqs {st' : List Value} (h : st = st') (k : V G l own cc nL dep lg ret Q pc lo st' μ) : V G l own cc nL dep lg ret Q pc lo st μ := h ▸ k
/-! returns -/
theorem R_iret {x : Int32} {ty : FieldType} (hdg : decode cc pc = .ok (.ireturn, 1)) (hr : ret = some ty) (hn : narrow ty (.int x) = .int x) (hq : Q (some (.int x)) μ) : V G l own cc nL dep lg ret Q pc lo [.int x] μ := by
  intro p e R s m args below meth c H locs cells slots Qf ls hC hH hL hF
  exact hF _ _ _ _ _ _ hq hH (Or.inl ⟨x, rfl, hdg, ty, hr, hn⟩)
theorem R_lret {x : Int64} (hdg : decode cc pc = .ok (.lreturn, 1)) (hr : ret = some .long) (hq : Q (some (.long x)) μ) : V G l own cc nL dep lg ret Q pc lo [.long x] μ := by
  intro p e R s m args below meth c H locs cells slots Qf ls hC hH hL hF
  exact hF _ _ _ _ _ _ hq hH (Or.inr (Or.inl ⟨x, rfl, hdg, hr⟩))
theorem R_aret {a : Nat} {cn : String} (hdg : decode cc pc = .ok (.areturn, 1)) (hr : ret = some (.object cn)) (hq : Q (some (.ref a)) μ) : V G l own cc nL dep lg ret Q pc lo [.ref a] μ := by
  intro p e R s m args below meth c H locs cells slots Qf ls hC hH hL hF
  exact hF _ _ _ _ _ _ hq hH (Or.inr (Or.inr (Or.inl ⟨a, cn, rfl, hdg, hr⟩)))
theorem R_ret (hdg : decode cc pc = .ok (.return_, 1)) (hr : ret = none) (hq : Q none μ) : V G l own cc nL dep lg ret Q pc lo [] μ := by
  intro p e R s m args below meth c H locs cells slots Qf ls hC hH hL hF
  exact hF _ _ _ _ _ _ hq hH (Or.inr (Or.inr (Or.inr ⟨rfl, hdg, hr⟩)))
/-! fields and arrays -/
theorem ce_obj (G : Gm) (μ : Mem) {id ci : Nat} {fs : List (Option (Option Nat))} (hs : sh id = .inl (ci, fs)) : (wl G μ)[id]? = some (G.2.2.1 id, .inr (ci, fs.mapIdx (fun k f => fv G.2.2.1 μ id k f))) := by
  rw [wl_get G μ (sh_lt (by rw [hs]; intro z; cases z)), hs]
  rfl
theorem ce_arr (G : Gm) (μ : Mem) {id t n : Nat} (hs : sh id = .inr (.inl (t, n))) : (wl G μ)[id]? = some (G.2.2.1 id, .inl (tyc G t, n, .inl (μ.1 id))) := by
  rw [wl_get G μ (sh_lt (by rw [hs]; intro z; cases z)), hs]
  rfl
theorem R_get {ci j N : Nat} {C : String} {T : u_T} {ix id : Nat} {fs : List (Option (Option Nat))} {kd : Option (Option Nat)} (hc : classes[ci]? = some (C, T, N)) (hin : ∀ w ∈ u_ws C T N, w ∈ lw_tbl) (hj : j < N) (hT : (T j).1 = C) (hlink : Cond.fieldLink own ix C (T j).2.1 (T j).2.2.1 ∈ lw_tbl) (hs : sh id = .inl (ci, fs)) (hf : fs[j]? = some kd) (hdg : decode cc pc = .ok (.getfield ix, 3)) (hn : pc + 3 = n) (k : V G l own cc nL dep lg ret Q n lo (fv G.2.2.1 μ id j kd :: st) μ) : V G l own cc nL dep lg ret Q pc lo (.ref (G.2.2.1 id) :: st) μ := by
  subst hn
  intro p e R s m args below meth c H locs cells slots Qf ls hC hH hL hF
  have hg : ∀ w ∈ u_ws C T N, w ∈ TT := fun w h => mTT (hin w h) (by obtain ⟨q, -, rfl⟩ := List.mem_map.mp h; unfold u_lay; split <;> rfl)
  exact va_get hC.1 hC.2.1 hC.2.2.2.2.1 hg hC.2.2.2.1 hC.2.2.2.2.2.1 hH.1 id (ce_obj G μ hs) hc j hj (hC.2.2.2.2.1 _ (mTT hlink rfl)) (fun x hx => by rw [hT] at hx; exact hx) (by rw [List.getElem?_mapIdx, hf]; rfl) hdg (k p e R s m args below meth c H locs cells slots Qf ls hC hH hL hF)
theorem R_put {ci j N : Nat} {C : String} {T : u_T} {ix id : Nat} {fs : List (Option (Option Nat))} {tyf : Nat → FieldType} (hc : classes[ci]? = some (C, T, N)) (hin : ∀ w ∈ u_ws C T N, w ∈ lw_tbl) (hty : ∀ k, k < N → parseFieldDescriptor (T k).2.2.1 = some (tyf k)) (hnm : ∀ a, a < N → ∀ b, b < N → a ≠ b → (T a).2.1 ≠ (T b).2.1) (hj : j < N) (hT : (T j).1 = C) (hlink : Cond.fieldLink own ix C (T j).2.1 (T j).2.2.1 ∈ lw_tbl) (hfin : (T j).2.2.2 = false) (hint : tyf j = .int) (hs : sh id = .inl (ci, fs)) (hf : fs[j]? = some none) {x : Int32} (hdg : decode cc pc = .ok (.putfield ix, 3)) (hn : pc + 3 = n) (k : V G l own cc nL dep lg ret Q n lo st (sti μ id j x)) : V G l own cc nL dep lg ret Q pc lo (.int x :: .ref (G.2.2.1 id) :: st) μ := by
  subst hn
  intro p e R s m args below meth c H locs cells slots Qf ls hC hH hL hF
  have hg : ∀ w ∈ u_ws C T N, w ∈ TT := fun w h => mTT (hin w h) (by obtain ⟨q, -, rfl⟩ := List.mem_map.mp h; unfold u_lay; split <;> rfl)
  refine va_put hC.1 hC.2.1 hC.2.2.2.2.1 hg tyf hty hnm hC.2.2.2.1 hC.2.2.2.2.2.1 hH.1 hH.2.1 hH.2.2 id (ce_obj G μ hs) hc j hj (hC.2.2.2.2.1 _ (mTT hlink rfl)) (fun x hx => by rw [hT] at hx; exact hx) hfin (ty := .int) (by rw [hty j hj, hint]) rfl rfl (by rw [List.length_mapIdx]; exact (List.getElem?_eq_some_iff.mp hf).1) hdg (fun H1 locs1 hP hD hS => ?_)
  rw [wl_setf G μ hs hf] at hP hD
  exact k p e R s m args below meth c H1 locs1 cells slots Qf ls hC ⟨hP, hD, hS⟩ hL hF
theorem R_putl {ci j N : Nat} {C : String} {T : u_T} {ix id : Nat} {fs : List (Option (Option Nat))} {tyf : Nat → FieldType} (hc : classes[ci]? = some (C, T, N)) (hin : ∀ w ∈ u_ws C T N, w ∈ lw_tbl) (hty : ∀ k, k < N → parseFieldDescriptor (T k).2.2.1 = some (tyf k)) (hnm : ∀ a, a < N → ∀ b, b < N → a ≠ b → (T a).2.1 ≠ (T b).2.1) (hj : j < N) (hT : (T j).1 = C) (hlink : Cond.fieldLink own ix C (T j).2.1 (T j).2.2.1 ∈ lw_tbl) (hfin : (T j).2.2.2 = false) (hint : tyf j = .long) (hs : sh id = .inl (ci, fs)) (hf : fs[j]? = some (some none)) (h1 : ∀ i, fs[i]? = some (some none) → i = j) {x : Int64} (hdg : decode cc pc = .ok (.putfield ix, 3)) (hn : pc + 3 = n) (k : V G l own cc nL dep lg ret Q n lo st (stl μ id x)) : V G l own cc nL dep lg ret Q pc lo (.long x :: .ref (G.2.2.1 id) :: st) μ := by
  subst hn
  intro p e R s m args below meth c H locs cells slots Qf ls hC hH hL hF
  have hg : ∀ w ∈ u_ws C T N, w ∈ TT := fun w h => mTT (hin w h) (by obtain ⟨q, -, rfl⟩ := List.mem_map.mp h; unfold u_lay; split <;> rfl)
  refine va_put hC.1 hC.2.1 hC.2.2.2.2.1 hg tyf hty hnm hC.2.2.2.1 hC.2.2.2.2.2.1 hH.1 hH.2.1 hH.2.2 id (ce_obj G μ hs) hc j hj (hC.2.2.2.2.1 _ (mTT hlink rfl)) (fun x hx => by rw [hT] at hx; exact hx) hfin (ty := .long) (by rw [hty j hj, hint]) rfl rfl (by rw [List.length_mapIdx]; exact (List.getElem?_eq_some_iff.mp hf).1) hdg (fun H1 locs1 hP hD hS => ?_)
  rw [wl_setl G μ hs hf h1] at hP hD
  exact k p e R s m args below meth c H1 locs1 cells slots Qf ls hC ⟨hP, hD, hS⟩ hL hF
theorem vn_of {i : Int32} {j N : Nat} (hi : i = nI j) (hj : j < N) (hN : N < 2 ^ 31) : vp_in i N ∧ i.toNatClampNeg = j := by
  subst hi
  exact ⟨nI_in hj hN, nI_clamp (Nat.lt_trans hj hN)⟩
theorem R_iald {id N j : Nat} {i : Int32} (hs : sh id = .inr (.inl (0, N))) (hi : i = nI j) (hj : j < N) (hdg : decode cc pc = .ok (.iaload, 1)) (hn : pc + 1 = n) (k : V G l own cc nL dep lg ret Q n lo (.int (μ.1 id j) :: st) μ) : V G l own cc nL dep lg ret Q pc lo (.int i :: .ref (G.2.2.1 id) :: st) μ := by
  subst hn
  intro p e R s m args below meth c H locs cells slots Qf ls hC hH hL hF
  obtain ⟨h1, h2⟩ := vn_of hi hj (sh_small hs)
  exact va_iald hC.1 hC.2.1 hC.2.2.2.2.2.1 hH.1 id 0 (ce_arr G μ hs) rfl h1 hdg (by rw [h2]; exact k p e R s m args below meth c H locs cells slots Qf ls hC hH hL hF)
theorem R_zald {id N j : Nat} {i : Int32} (hs : sh id = .inr (.inl (1, N))) (hi : i = nI j) (hj : j < N) (hdg : decode cc pc = .ok (.baload, 1)) (hn : pc + 1 = n) (k : V G l own cc nL dep lg ret Q n lo (.int (μ.1 id j) :: st) μ) : V G l own cc nL dep lg ret Q pc lo (.int i :: .ref (G.2.2.1 id) :: st) μ := by
  subst hn
  intro p e R s m args below meth c H locs cells slots Qf ls hC hH hL hF
  obtain ⟨h1, h2⟩ := vn_of hi hj (sh_small hs)
  exact va_zald hC.1 hC.2.1 hC.2.2.2.2.2.1 hH.1 id 1 (ce_arr G μ hs) rfl h1 hdg (by rw [h2]; exact k p e R s m args below meth c H locs cells slots Qf ls hC hH hL hF)
theorem R_iast {id N j : Nat} {i x : Int32} (hs : sh id = .inr (.inl (0, N))) (hi : i = nI j) (hj : j < N) (hdg : decode cc pc = .ok (.iastore, 1)) (hn : pc + 1 = n) (k : V G l own cc nL dep lg ret Q n lo st (sti μ id j x)) : V G l own cc nL dep lg ret Q pc lo (.int x :: .int i :: .ref (G.2.2.1 id) :: st) μ := by
  subst hn
  intro p e R s m args below meth c H locs cells slots Qf ls hC hH hL hF
  obtain ⟨h1, h2⟩ := vn_of hi hj (sh_small hs)
  refine va_iast hC.1 hC.2.1 hC.2.2.2.2.2.1 hH.1 hH.2.1 hH.2.2 id 0 (ce_arr G μ hs) rfl h1 hdg (fun H1 locs1 hP hD hS => ?_)
  rw [h2] at hP hD
  rw [wl_seti G μ hs] at hP hD
  exact k p e R s m args below meth c H1 locs1 cells slots Qf ls hC ⟨hP, hD, hS⟩ hL hF
theorem R_zast {id N j : Nat} {i x : Int32} (hs : sh id = .inr (.inl (1, N))) (hi : i = nI j) (hj : j < N) (hdg : decode cc pc = .ok (.bastore, 1)) (hn : pc + 1 = n) (k : V G l own cc nL dep lg ret Q n lo st (sti μ id j (vp_nar .boolean x))) : V G l own cc nL dep lg ret Q pc lo (.int x :: .int i :: .ref (G.2.2.1 id) :: st) μ := by
  subst hn
  intro p e R s m args below meth c H locs cells slots Qf ls hC hH hL hF
  obtain ⟨h1, h2⟩ := vn_of hi hj (sh_small hs)
  refine va_zast hC.1 hC.2.1 hC.2.2.2.2.2.1 hH.1 hH.2.1 hH.2.2 id 1 (ce_arr G μ hs) rfl h1 hdg (fun H1 locs1 hP hD hS => ?_)
  rw [h2] at hP hD
  rw [wl_seti G μ hs] at hP hD
  exact k p e R s m args below meth c H1 locs1 cells slots Qf ls hC ⟨hP, hD, hS⟩ hL hF
theorem R_aald {id j r : Nat} {ids : List Nat} {i : Int32} (hid : id < NC) (hs : sh id = .inr (.inr ids)) (hi : i = nI j) (hr : ids[j]? = some r) (hdg : decode cc pc = .ok (.aaload, 1)) (hn : pc + 1 = n) (k : V G l own cc nL dep lg ret Q n lo (.ref (G.2.2.1 r) :: st) μ) : V G l own cc nL dep lg ret Q pc lo (.int i :: .ref (G.2.2.1 id) :: st) μ := by
  subst hn
  intro p e R s m args below meth c H locs cells slots Qf ls hC hH hL hF
  have hw : (wl G μ)[id]? = some (G.2.2.1 id, .inl (G.2.1.2.2, ids.length, .inr (.inr (.inr (.inr fun k => (ids[k]?).map G.2.2.1))))) := by rw [wl_get G μ hid, hs]; rfl
  have hlen : ids.length < 2 ^ 31 := by
    have H : ∀ k, k < NC → (match sh k with | .inr (.inr q) => decide (q.length < 1000) | _ => true) = true := by decide +kernel
    have h1 := H id hid
    rw [hs] at h1
    have h2 : ids.length < 1000 := of_decide_eq_true h1
    exact Nat.lt_trans h2 (by decide)
  obtain ⟨h1, h2⟩ := vn_of hi (List.getElem?_eq_some_iff.mp hr).1 hlen
  refine va_aldq hC.1 hC.2.1 hC.2.2.2.2.2.1 hH.1 id 2 hw rfl h1 hdg ?_
  rw [h2]
  show W p l e R s m args below meth c H locs cells slots Qf (F0 m (pc + 1) ls (va_rf ((ids[j]?).map G.2.2.1) :: st))
  rw [hr]
  exact k p e R s m args below meth c H locs cells slots Qf ls hC hH hL hF
theorem R_alen {id N : Nat} (hs : sh id = .inr (.inl (0, N))) (hdg : decode cc pc = .ok (.arraylength, 1)) (hn : pc + 1 = n) (k : V G l own cc nL dep lg ret Q n lo (.int (nI N) :: st) μ) : V G l own cc nL dep lg ret Q pc lo (.ref (G.2.2.1 id) :: st) μ := by
  subst hn
  intro p e R s m args below meth c H locs cells slots Qf ls hC hH hL hF
  exact va_alen hC.1 hC.2.1 hC.2.2.2.2.2.1 hH.1 id 0 (ce_arr G μ hs) rfl rfl hdg (k p e R s m args below meth c H locs cells slots Qf ls hC hH hL hF)
/-! arrays that are only read -/
theorem R_rld {b L j : Nat} {xs : Nat → Int32} {i : Int32} (hq : (b, L, xs) ∈ G.2.2.2) (hL31 : L < 2 ^ 31) (hi : i = nI j) (hj : j < L) (hdg : decode cc pc = .ok (.iaload, 1)) (hn : pc + 1 = n) (k : V G l own cc nL dep lg ret Q n lo (.int (xs j) :: st) μ) : V G l own cc nL dep lg ret Q pc lo (.int i :: .ref b :: st) μ := by
  subst hn
  intro p e R s m args below meth c H locs cells slots Qf ls hC hH hL hF
  obtain ⟨h1, h2⟩ := vn_of hi hj hL31
  obtain ⟨hX, hbl, hbA⟩ := hC.2.2.2.2.2.2.1.1 _ hq
  exact va_sld hC.1 hC.2.1 hX hbl hbA hH.2.2 h1 hdg (by rw [h2]; exact k p e R s m args below meth c H locs cells slots Qf ls hC hH hL hF)
theorem R_rlen {b L : Nat} {xs : Nat → Int32} (hq : (b, L, xs) ∈ G.2.2.2) (hdg : decode cc pc = .ok (.arraylength, 1)) (hn : pc + 1 = n) (k : V G l own cc nL dep lg ret Q n lo (.int (nI L) :: st) μ) : V G l own cc nL dep lg ret Q pc lo (.ref b :: st) μ := by
  subst hn
  intro p e R s m args below meth c H locs cells slots Qf ls hC hH hL hF
  obtain ⟨hX, hbl, hbA⟩ := hC.2.2.2.2.2.2.1.1 _ hq
  exact va_slen hC.1 hC.2.1 hX hbl hbA hH.2.2 hdg (k p e R s m args below meth c H locs cells slots Qf ls hC hH hL hF)
theorem R_gets {ix : Nat} (hlink : Cond.fieldLink own ix "EelLocks" "FACTORIALS" "[I" ∈ lw_tbl) (hdg : decode cc pc = .ok (.getstatic ix, 3)) (hn : pc + 3 = n) (k : ∀ fa : Nat, (fa, 7, fac) ∈ G.2.2.2 → V G l own cc nL dep lg ret Q n lo (.ref fa :: st) μ) : V G l own cc nL dep lg ret Q pc lo st μ := by
  subst hn
  intro p e R s m args below meth c H locs cells slots Qf ls hC hH hL hF
  obtain ⟨fa, hfa, hZ⟩ := hC.2.2.2.2.2.2.1.2.1
  exact va_gets hC.1 hC.2.1 hZ hH.2.2 hC.2.2.2.1 (hC.2.2.2.2.1 _ (mTT hlink rfl)) (fun x h => h) hdg (k fa hfa p e R s m args below meth c H locs cells slots Qf ls hC hH hL hF)
theorem R_getsN (hown : own = RX3) (hdg : decode cc pc = .ok (.getstatic 48, 3)) (hn : pc + 3 = n) (k : ∀ fa : Nat, (fa, 7, fac) ∈ G.2.2.2 → V G l own cc nL dep lg ret Q n lo (.ref fa :: st) μ) : V G l own cc nL dep lg ret Q pc lo st μ := by
  subst hn
  intro p e R s m args below meth c H locs cells slots Qf ls hC hH hL hF
  subst hown
  obtain ⟨fa, hfa, hZ⟩ := hC.2.2.2.2.2.2.1.2.1
  exact va_getsN hC.1 hC.2.1 hZ hH.2.2 hC.2.2.2.1 (va_Nw.use rfl hC.2.2.2.2.2.2.1.2.2.2) (fun x h => h) hdg (k fa hfa p e R s m args below meth c H locs cells slots Qf ls hC hH hL hF)
/-! Math and arraycopy -/
theorem R_max {ix : Nat} {x y : Int32} (hlink : Cond.methodLink own ix Lib.Math.max.name ∈ lw_tbl) (hstat : Cond.static Lib.Math.max.name ∈ lw_tbl) (hini : Cond.initialized "java/lang/Math" ∈ lw_tbl) (hcode : Cond.code Lib.Math.max.name Lib.Math.max.code 2 (some .int) ∈ lw_tbl) (hd : 1 ≤ dep) (hst : (st.map fun v => v.category).sum ≤ 8) (hdg : decode cc pc = .ok (.invokestatic ix, 3)) (hn : pc + 3 = n) (k : V G l own cc nL dep lg ret Q n lo (.int (if x < y then y else x) :: st) μ) : V G l own cc nL dep lg ret Q pc lo (.int y :: .int x :: st) μ := by
  subst hn
  intro p e R s m args below meth c H locs cells slots Qf ls hC hH hL hF
  have hfr := hC.2.2.2.2.2.2.2.1
  have hlo := hC.2.2.2.2.2.2.2.2.1
  exact va_mmax hC.1 hC.2.1 (hC.2.2.1.trans hL.1.symm) hC.2.2.2.1 (hC.2.2.2.2.1 _ (mTT hlink rfl)) (hC.2.2.2.2.1 _ (mTT hstat rfl)) (hC.2.2.2.2.1 _ (mTT hini rfl)) (hC.2.2.2.2.1 _ (mTT hcode rfl)) (Nat.le_trans hd hfr) (by omega) hC.2.2.2.2.2.2.2.2.2.1 hC.2.2.2.2.2.2.2.2.2.2 hdg (k p e R s m args below meth c H locs cells slots Qf ls hC hH hL hF)
theorem R_abs {ix : Nat} {x : Int32} (hlink : Cond.methodLink own ix Lib.Math.abs.name ∈ lw_tbl) (hstat : Cond.static Lib.Math.abs.name ∈ lw_tbl) (hini : Cond.initialized "java/lang/Math" ∈ lw_tbl) (hcode : Cond.code Lib.Math.abs.name Lib.Math.abs.code 1 (some .int) ∈ lw_tbl) (hd : 1 ≤ dep) (hst : (st.map fun v => v.category).sum ≤ 8) (hdg : decode cc pc = .ok (.invokestatic ix, 3)) (hn : pc + 3 = n) (k : V G l own cc nL dep lg ret Q n lo (.int (if 0 ≤ x then x else 0 - x) :: st) μ) : V G l own cc nL dep lg ret Q pc lo (.int x :: st) μ := by
  subst hn
  intro p e R s m args below meth c H locs cells slots Qf ls hC hH hL hF
  have hfr := hC.2.2.2.2.2.2.2.1
  have hlo := hC.2.2.2.2.2.2.2.2.1
  exact va_mabs hC.1 hC.2.1 (hC.2.2.1.trans hL.1.symm) hC.2.2.2.1 (hC.2.2.2.2.1 _ (mTT hlink rfl)) (hC.2.2.2.2.1 _ (mTT hstat rfl)) (hC.2.2.2.2.1 _ (mTT hini rfl)) (hC.2.2.2.2.1 _ (mTT hcode rfl)) (Nat.le_trans hd hfr) (by omega) hC.2.2.2.2.2.2.2.2.2.1 hC.2.2.2.2.2.2.2.2.2.2 hdg (k p e R s m args below meth c H locs cells slots Qf ls hC hH hL hF)
theorem R_copy {ix id0 id1 N j : Nat} (hlink : Cond.methodLink own ix arraycopyName ∈ lw_tbl) (hnat : Cond.native arraycopyName ∈ lw_tbl) (hstat : Cond.static arraycopyName ∈ lw_tbl) (hini : Cond.initialized "java/lang/System" ∈ lw_tbl) (hs0 : sh id0 = .inr (.inl (0, N))) (hs1 : sh id1 = .inr (.inl (0, N))) {x : Int32} (hx : x = nI j) (hj : j ≤ N) (hd : 1 ≤ dep) (hst : (st.map fun v => v.category).sum ≤ 8) (hdg : decode cc pc = .ok (.invokestatic ix, 3)) (hn : pc + 3 = n) (k : V G l own cc nL dep lg ret Q n lo st (sta μ id1 (va_cpy (μ.1 id0) (μ.1 id1) 0 0 j))) : V G l own cc nL dep lg ret Q pc lo (.int x :: .int 0 :: .ref (G.2.2.1 id1) :: .int 0 :: .ref (G.2.2.1 id0) :: st) μ := by
  subst hn
  intro p e R s m args below meth c H locs cells slots Qf ls hC hH hL hF
  have hfr := hC.2.2.2.2.2.2.2.1
  have hlo := hC.2.2.2.2.2.2.2.2.1
  have hNN := sh_small hs0
  subst hx
  have hcl : (nI j).toNatClampNeg = j := nI_clamp (by omega)
  have hnat2 : nativeFrameWords "java/lang/System" "arraycopy" 5 + 11 ≤ 26 := by decide
  refine va_copyi hC.1 hC.2.1 (hC.2.2.1.trans hL.1.symm) hC.2.2.2.1 (hC.2.2.2.2.1 _ (mTT hlink rfl)) (hC.2.2.2.2.1 _ (mTT hnat rfl)) (hC.2.2.2.2.1 _ (mTT hstat rfl)) (hC.2.2.2.2.1 _ (mTT hini rfl)) hC.2.2.2.2.2.1 hH.1 hH.2.1 hH.2.2 id0 id1 0 0 (ty := .int) (ce_arr G μ hs0) (ce_arr G μ hs1) rfl rfl rfl (by decide) (by decide) (nI_pos (by omega)) (by rw [hcl]; show 0 + j ≤ N; omega) (by rw [hcl]; show 0 + j ≤ N; omega) (fun _ _ => rfl) (Nat.le_trans hd hfr) (by omega) hdg (fun H1 locs1 hP hD hS => ?_)
  rw [hcl] at hP hD
  rw [wl_seta G μ hs1] at hP hD
  exact k p e R s m args below meth c H1 locs1 cells slots Qf ls hC ⟨hP, hD, hS⟩ hL hF
end VR
end
section
section VC
variable {G : Gm} {l : Launch} {own : String} {cc : ByteArray} {nL dep : Nat} {lg : Bool} {ret : Option FieldType} {Q : Option Value → Mem → Prop} {pc n : Nat} {lo : List (Option Value)} {st : List Value} {μ : Mem}
theorem Gx.moved {s U : State} {H : Heap} (hvm : s.vm.Alike U.vm) (hN : va_Nw nM s → va_Nw nM U) (hF : va_Nw nF s → va_Nw nF U) (h : Gx G s H) : Gx G U H :=
  ⟨fun q hq => ⟨va_X.moved hvm (h.1 q hq).1, (h.1 q hq).2⟩, by obtain ⟨fa, h1, h2⟩ := h.2.1; exact ⟨fa, h1, va_Z.moved hvm h2⟩, hN h.2.2.1, hF h.2.2.2⟩
theorem Gx.kept {s : State} {H H1 : Heap} (h : Gx G s H) (hz : H.size ≤ H1.size) (hq : ∀ a : Nat, a < H.size → ¬ AA G a → H1[a]? = H[a]?) : Gx G s H1 :=
  ⟨fun q hm => ⟨va_X.kept (h.1 q hm).1 (hq _ (h.1 q hm).2.1 (h.1 q hm).2.2), Nat.lt_of_lt_of_le (h.1 q hm).2.1 hz, (h.1 q hm).2.2⟩, by obtain ⟨fa, h1, h2⟩ := h.2.1; exact ⟨fa, h1, va_Z.kept h2 hq⟩, h.2.2⟩
theorem wd_blind (As : List Value) : FrameBlind (va_Pc As (Wd G μ)) := fun a U g mk q =>
  ⟨q.1, q.2.1, va_K.moved (u := U) (U := U.calling g mk a) (Vm.Alike.refl U.vm) q.2.2.1, q.2.2.2.1, Gx.moved (s := U) (U := U.calling g mk a) (Vm.Alike.refl U.vm) (fun h => va_Nw.same rfl rfl h) (fun h => va_Nw.same rfl rfl h) q.2.2.2.2⟩
theorem wd_pre {s U : State} {H : Heap} {locs : List Loc} (hK : va_K G.1 classes (tys G) s) (hx : Gx G s s.heap) (hH : Hp G s H locs μ) (hU : U.heap = H) (hW : s.WarmedH U.vm) : Wd G μ U := by
  refine ⟨by rw [hU]; exact hH.1, va_K.moved hW.alike hK, hH.2.1, ?_⟩
  rw [hU]
  exact Gx.moved hW.alike (fun h => va_Nw.warmM hW h) (fun h => va_Nw.warmF hW h) (hx.kept hH.2.2.1 hH.2.2.2.1)
theorem lm_entry {As : List Value} {k : Nat} (hc : As.all (fun v => v.category == 1) = true) (h : (lg_sl As).length ≤ nL) : lm false ((lg_sl As ++ List.replicate (nL - (lg_sl As).length) Slot.unset).toArray) nL (As.map some ++ List.replicate k none) := by
  have hl := lv_entry As (n := nL) h
  have key : ∀ (As : List Value) (b i : Nat) (v : Value), As.all (fun v => v.category == 1) = true → As[i]? = some v → (b + i, v) ∈ lv_args b As ∧ v.category = 1 := by
    intro As
    induction As with
    | nil => intro b i v _ h; simp at h
    | cons a t ih =>
      intro b i v hc h
      obtain ⟨h1, h2⟩ : a.category = 1 ∧ t.all (fun v => v.category == 1) = true := by simpa using hc
      cases i with
      | zero =>
        have : a = v := by simpa using h
        subst this
        exact ⟨List.mem_cons_self, h1⟩
      | succ i =>
        have h3 := ih (b + 1) i v h2 (by simpa using h)
        have e : b + (i + 1) = b + 1 + i := by omega
        refine ⟨?_, h3.2⟩
        rw [e]
        show _ ∈ (b, a) :: lv_args (if a.category = 2 then b + 2 else b + 1) t
        rw [h1]
        exact List.mem_cons_of_mem _ h3.1
  refine ⟨hl.1, hl.2.1, fun i v hi => ?_⟩
  have hA : As[i]? = some v := by
    rcases Nat.lt_or_ge i As.length with q | q
    · rw [List.getElem?_append_left (by rw [List.length_map]; exact q), List.getElem?_map] at hi
      cases hh : As[i]? with
      | none => rw [hh] at hi; simp at hi
      | some w => rw [hh] at hi; simpa using hi
    · rw [List.getElem?_append_right (by rw [List.length_map]; exact q), List.getElem?_replicate] at hi
      split at hi <;> simp at hi
  have h3 := key As 0 i v hc hA
  rw [Nat.zero_add] at h3
  exact ⟨hl.2.2 _ h3.1, fun _ => h3.2⟩
theorem Ct.ofLm {y : MethodName} {As : List Value} (hy : plainName y.cls = true) (hlm : lm lg ((lg_sl As ++ List.replicate (nL - (lg_sl As).length) Slot.unset).toArray) nL lo) (k : V G l y.cls cc nL dep lg ret Q 0 lo [] μ) : Ct G l dep y cc nL ret As μ Q := by
  refine Met.ofW (cc := cc) (maxL := nL) (ret := ret) hy rfl ?_
  intro p e s m args below meth c s₁ B hml hv
  obtain ⟨rfl, hP, hK, hD, hx⟩ := hv
  have hts : ∀ w ∈ Cond.code y cc nL ret :: TT, w.before As.toArray s = true := atoms_spec (ws := Cond.code y cc nL ret :: TT) B.pre
  have hr := B.returns
  have hlk := B.notSynchronized
  rw [lg_entry_eq]
  refine k p e _ s m As.toArray below meth c s.heap [] 0 0 _ _ ⟨B.exec, B.bytes, hml, findClass_of_methodNamed B.named, fun w h => hts w (List.mem_cons_of_mem _ h), hK, hx, Nat.le_refl _, Nat.le_refl _, Nat.le_refl _, Nat.le_refl _⟩ ⟨hP, hD, va_S.rf⟩ hlm ?_
  intro r μ' H' locs' ls' pc' hq hH' hrok
  have hQ : ∀ t : State, t.heap = H' → s.WarmedH t.vm → ((∃ (r' : Option Value) (μ' : Mem), Outcome.returned r = .returned r' ∧ Q r' μ' ∧ va_P G.1 classes (wl G μ') t.heap ∧ va_D (AA G) (wl G μ')) ∧ va_F (AA G) s t) := fun t ht _ => ⟨⟨r, μ', rfl, hq, by rw [ht]; exact hH'.1, hH'.2.1⟩, hH'.2.2.F ht⟩
  rcases hrok with ⟨x, rfl, hd, ty, he, hn⟩ | ⟨x, rfl, hd, he⟩ | ⟨a, cn, rfl, hd, he⟩ | ⟨rfl, hd, he⟩
  · exact W.zret B.exec B.bytes (hr.trans he) hn hQ hH'.2.2.2.2 hd hlk
  · exact W.lret B.exec B.bytes (hr.trans he) hQ hH'.2.2.2.2 hd hlk
  · exact W.aret B.exec B.bytes (hr.trans he) (Or.inl ⟨cn, rfl⟩) (Or.inr ⟨a, rfl⟩) hQ hH'.2.2.2.2 hd hlk
  · exact W.vret B.exec B.bytes (hr.trans he) hQ hH'.2.2.2.2 hd hlk
theorem Ct.of {y : MethodName} {As : List Value} (j : Nat) (hy : plainName y.cls = true) (hc : As.all (fun v => v.category == 1) = true) (h : (lg_sl As).length ≤ nL) (k : V G l y.cls cc nL dep false ret Q 0 (As.map some ++ List.replicate j none) [] μ) : Ct G l dep y cc nL ret As μ Q := Ct.ofLm hy (lm_entry hc h) k
theorem Ct.mono {y : MethodName} {As : List Value} {Q' : Option Value → Mem → Prop} (hQ : ∀ r μ', Q' r μ' → Q r μ') (h : Ct G l dep y cc nL ret As μ Q') : Ct G l dep y cc nL ret As μ Q := by
  intro p e ha hc hk s m args below hf hfit happ hpre
  obtain ⟨t, o, h1, h2, h3, h4⟩ := h p e ha hc hk s m args below hf hfit happ hpre
  obtain ⟨⟨⟨r, μ', e1, q, hP, hD⟩, hF⟩, hL⟩ := h4
  exact ⟨t, o, h1, h2, h3, ⟨⟨r, μ', e1, hQ _ _ q, hP, hD⟩, hF⟩, hL⟩
theorem va_callg {p : Program} {e : Env} {R : Room} {s : State} {m : MethodId} {args : Array Value} {below : List Frame} {meth : Method} {c : Code} {H : Heap} {locs : List Loc} {cells slots : Nat} {Qf : State → Prop} {ls : Array Slot} {st0 rest : List Value} {Qy : Option Value → Mem → Prop}
    (hr : va_Run p l e R s m args below meth c H locs cells slots 0 0 (F0 m pc ls st0) rest (fun st oc t => (∃ (r : Option Value) (μ' : Mem), oc = .returned r ∧ Qy r μ' ∧ va_P G.1 classes (wl G μ') t.heap ∧ va_D (AA G) (wl G μ')) ∧ va_F (AA G) st t) (AA G)) (hS : va_S (AA G) s.heap H locs)
    (kk : ∀ (r : Option Value) (μ' : Mem) (H1 : Heap) (locs1 : List Loc), Qy r μ' → Hp G s H1 locs1 μ' → W p l e R s m args below meth c H1 locs1 cells slots Qf (F0 m (pc + 3) ls (r.toList ++ rest))) : W p l e R s m args below meth c H locs cells slots Qf (F0 m pc ls st0) := by
  intro T hT X
  obtain ⟨v, st₀, t, T', L, h0, X', hL, e1, e2, ⟨⟨r, μ', hv, hp, hP, hD⟩, hz, hk⟩, st⟩ := hr T hT X
  cases hv
  rw [h0] at hz hk
  obtain ⟨t2, a1, b1⟩ := kk v μ' T'.heap (locs ++ L) hp ⟨by rw [e1]; exact hP, hD, Nat.le_trans hS.1 (by rw [e1]; exact hz), fun q h1 h2 => by rw [e1, hk q (Nat.lt_of_lt_of_le h1 hS.1) h2]; exact hS.2.1 q h1 h2, fun q hq => by
      rcases List.mem_append.mp hq with h | h
      · exact hS.2.2 q h
      · exact hL q h⟩ T' rfl X'
  exact ⟨t2, st t2 a1, b1⟩
def okY (y : MethodName) (np : Nat) : Prop := y.cls ≠ "java/lang/invoke/MethodHandle" ∧ y.cls ≠ "java/lang/invoke/VarHandle" ∧ (parseMethodDescriptor y.desc).map (fun d => d.parameters.length) = some np
theorem R_callV {dep' : Nat} {y : MethodName} {cy : ByteArray} {mL : Nat} {ry : Option FieldType} {As : List Value} {Qy : Option Value → Mem → Prop} {ci : Nat} {C : String} {TC : u_T} {N id ix np : Nat} {fs : List (Option (Option Nat))} {rest st0 : List Value}
    (hct : Ct G l dep' y cy mL ry (.ref (G.2.2.1 id) :: As) μ Qy) (hd : dep' < dep) (hmL : mL ≤ 15) (hyC : y.cls = C) (tM : Cond.methodLink own ix y ∈ lw_tbl) (tI : Cond.instanceMethod y ∈ lw_tbl) (tS : Cond.selects C y y ∈ lw_tbl) (tN : Cond.initialized C ∈ lw_tbl) (tC : Cond.code y cy mL ry ∈ lw_tbl) (hy : okY y np) (hnp : As.length = np)
    (hcl : classes[ci]? = some (C, TC, N)) (hs : sh id = .inl (ci, fs)) (hst0 : st0 = As.reverse ++ .ref (G.2.2.1 id) :: rest) (hrest : (rest.map fun v => v.category).sum ≤ 8) (hdg : decode cc pc = .ok (.invokevirtual ix, 3)) (hn : pc + 3 = n)
    (k : ∀ (r : Option Value) (μ' : Mem), Qy r μ' → V G l own cc nL dep lg ret Q n lo (r.toList ++ rest) μ') : V G l own cc nL dep lg ret Q pc lo st0 μ := by
  subst hn
  intro p e R s m args below meth c H locs cells slots Qf ls hC hH hL hF
  have hC0 := hC
  obtain ⟨hx, hb, hml, hown, hts, hK, hG, hfr, hlo, hce, hsl⟩ := hC0
  refine va_callg (va_runV (As := As) (rest := rest) (n := np) ⟨hx, hb, hml, hown, hts⟩ hct ⟨callB_of np hts (good_cTT tC) rfl rfl rfl (by rw [hyC]; exact hts _ (mTT tN rfl)) (hts _ (mTT tM rfl)) hy ⟨by show dep' + 1 ≤ R.frames; omega, by show 8 + (mL + 11) + 34 * dep' ≤ R.locals; omega⟩, hts _ (mTT tI rfl), hts _ (mTT tS rfl)⟩ ⟨wd_blind _, va_recv hK hH.1 hcl (ce_obj G μ hs), fun U hU hW => ⟨rfl, wd_pre hK hG hH hU hW⟩⟩ rfl hnp (hL.1.trans (by first | rfl | exact hml)) hst0 (lv_room hrest) hdg ⟨hce, hsl⟩) hH.2.2 (fun r μ' H1 locs1 hq hH1 => k r μ' hq p e R s m args below meth c H1 locs1 cells slots Qf ls hC hH1 hL hF)
theorem R_callS {dep' : Nat} {y : MethodName} {cy : ByteArray} {mL : Nat} {ry : Option FieldType} {As : List Value} {Qy : Option Value → Mem → Prop} {ix np : Nat} {rest st0 : List Value}
    (hct : Ct G l dep' y cy mL ry As μ Qy) (hd : dep' < dep) (hmL : mL ≤ 15) (tM : Cond.methodLink own ix y ∈ lw_tbl) (tT : Cond.static y ∈ lw_tbl) (tN : Cond.initialized y.cls ∈ lw_tbl) (tC : Cond.code y cy mL ry ∈ lw_tbl) (hy : okY y np) (hnp : As.length = np)
    (hst0 : st0 = As.reverse ++ rest) (hrest : (rest.map fun v => v.category).sum ≤ 8) (hdg : decode cc pc = .ok (.invokestatic ix, 3)) (hn : pc + 3 = n)
    (k : ∀ (r : Option Value) (μ' : Mem), Qy r μ' → V G l own cc nL dep lg ret Q n lo (r.toList ++ rest) μ') : V G l own cc nL dep lg ret Q pc lo st0 μ := by
  subst hn
  intro p e R s m args below meth c H locs cells slots Qf ls hC hH hL hF
  have hC0 := hC
  obtain ⟨hx, hb, hml, hown, hts, hK, hG, hfr, hlo, hce, hsl⟩ := hC0
  refine va_callg (va_runS (As := As) (rest := rest) (n := np) ⟨hx, hb, hml, hown, hts⟩ hct ⟨callB_of np hts (good_cTT tC) rfl rfl rfl (hts _ (mTT tN rfl)) (hts _ (mTT tM rfl)) hy ⟨by show dep' + 1 ≤ R.frames; omega, by show 8 + (mL + 11) + 34 * dep' ≤ R.locals; omega⟩, hts _ (mTT tT rfl)⟩ ⟨wd_blind _, fun U hU hW => ⟨rfl, wd_pre hK hG hH hU hW⟩⟩ rfl hnp (hL.1.trans (by first | rfl | exact hml)) hst0 (lv_room hrest) hdg ⟨hce, hsl⟩) hH.2.2 (fun r μ' H1 locs1 hq hH1 => k r μ' hq p e R s m args below meth c H1 locs1 cells slots Qf ls hC hH1 hL hF)
/-- the one call of a nest mate's static method: EelLocks.power out of Guesses -/
theorem R_callN {dep' : Nat} {cy : ByteArray} {mL : Nat} {ry : Option FieldType} {As : List Value} {Qy : Option Value → Mem → Prop} {np : Nat} {rest st0 : List Value} (hown0 : own = RX2)
    (hct : Ct G l dep' yX7_power cy mL ry As μ Qy) (hd : dep' < dep) (hmL : mL ≤ 15) (tT : Cond.static yX7_power ∈ lw_tbl) (tN : Cond.initialized RX7 ∈ lw_tbl) (tC : Cond.code yX7_power cy mL ry ∈ lw_tbl) (hy : okY yX7_power np) (hnp : As.length = np)
    (hst0 : st0 = As.reverse ++ rest) (hrest : (rest.map fun v => v.category).sum ≤ 8) (hdg : decode cc pc = .ok (.invokestatic 91, 3)) (hn : pc + 3 = n)
    (k : ∀ (r : Option Value) (μ' : Mem), Qy r μ' → V G l own cc nL dep lg ret Q n lo (r.toList ++ rest) μ') : V G l own cc nL dep lg ret Q pc lo st0 μ := by
  subst hn
  subst hown0
  intro p e R s m args below meth c H locs cells slots Qf ls hC hH hL hF
  have hC0 := hC
  obtain ⟨hx, hb, hml, hown, hts, hK, hG, hfr, hlo, hce, hsl⟩ := hC0
  refine va_callg (va_runSN (As := As) (rest := rest) (n := np) ⟨hx, hb, hml, hown, hts⟩ hct ⟨va_cnB np hts (good_cTT tC) rfl rfl rfl hG.2.2.1 (hts _ (mTT tN rfl)) hy ⟨by show dep' + 1 ≤ R.frames; omega, by show 8 + (mL + 11) + 34 * dep' ≤ R.locals; omega⟩, hts _ (mTT tT rfl), trivial⟩ ⟨wd_blind _, fun U hU hW => ⟨rfl, wd_pre hK hG hH hU hW⟩⟩ rfl hnp (hL.1.trans (by first | rfl | exact hml)) hst0 (lv_room hrest) hdg ⟨hce, hsl⟩) hH.2.2 (fun r μ' H1 locs1 hq hH1 => k r μ' hq p e R s m args below meth c H1 locs1 cells slots Qf ls hC hH1 hL hF)
end VC
end
section
section VC
variable {G : Gm} {l : Launch} {cc : ByteArray} {nL dep : Nat} {lg : Bool} {ret : Option FieldType} {Q : Option Value → Mem → Prop} {pc n : Nat} {lo : List (Option Value)} {st : List Value} {μ : Mem}
theorem one_long (N j : Nat) (fs : List (Option (Option Nat))) (hN : fs.length = N) (h : (List.range N).all (fun i => decide (i = j) || decide (fs[i]? ≠ some (some none))) = true) : ∀ i, fs[i]? = some (some none) → i = j := by
  intro i hi
  have hl : i < N := by rw [← hN]; exact (List.getElem?_eq_some_iff.mp hi).1
  have := List.all_eq_true.mp h i (List.mem_range.mpr hl)
  simp [hi] at this
  exact this
theorem gf_X6_9 (hdg : decode cc pc = .ok (.getfield 9, 3)) (hn : pc + 3 = n) (k : V G l RX6 cc nL dep lg ret Q n lo (.ref (G.2.2.1 2) :: st) μ) : V G l RX6 cc nL dep lg ret Q pc lo (.ref (G.2.2.1 1) :: st) μ := R_get (ci := 6) (j := 0) rfl inX6 (by decide) rfl tF_RX6_9 sh_1 rfl hdg hn k
theorem gf_X1_43 (hdg : decode cc pc = .ok (.getfield 43, 3)) (hn : pc + 3 = n) (k : V G l RX1 cc nL dep lg ret Q n lo (.ref (G.2.2.1 2) :: st) μ) : V G l RX1 cc nL dep lg ret Q pc lo (.ref (G.2.2.1 1) :: st) μ := R_get (ci := 6) (j := 0) rfl inX6 (by decide) rfl tF_RX1_43 sh_1 rfl hdg hn k
theorem gf_X6_15 (hdg : decode cc pc = .ok (.getfield 15, 3)) (hn : pc + 3 = n) (k : V G l RX6 cc nL dep lg ret Q n lo (.int (μ.1 1 1) :: st) μ) : V G l RX6 cc nL dep lg ret Q pc lo (.ref (G.2.2.1 1) :: st) μ := R_get (ci := 6) (j := 1) rfl inX6 (by decide) rfl tF_RX6_15 sh_1 rfl hdg hn k
theorem pf_X6_15 {x : Int32} (hdg : decode cc pc = .ok (.putfield 15, 3)) (hn : pc + 3 = n) (k : V G l RX6 cc nL dep lg ret Q n lo st (sti μ 1 1 x)) : V G l RX6 cc nL dep lg ret Q pc lo (.int x :: .ref (G.2.2.1 1) :: st) μ := R_put (ci := 6) (j := 1) rfl inX6 tyX6_ok nmX6 (by decide) rfl tF_RX6_15 rfl rfl sh_1 rfl hdg hn k
theorem gf_X7_51 (hdg : decode cc pc = .ok (.getfield 51, 3)) (hn : pc + 3 = n) (k : V G l RX7 cc nL dep lg ret Q n lo (.int (μ.1 1 1) :: st) μ) : V G l RX7 cc nL dep lg ret Q pc lo (.ref (G.2.2.1 1) :: st) μ := R_get (ci := 6) (j := 1) rfl inX6 (by decide) rfl tF_RX7_51 sh_1 rfl hdg hn k
theorem pf_X7_51 {x : Int32} (hdg : decode cc pc = .ok (.putfield 51, 3)) (hn : pc + 3 = n) (k : V G l RX7 cc nL dep lg ret Q n lo st (sti μ 1 1 x)) : V G l RX7 cc nL dep lg ret Q pc lo (.int x :: .ref (G.2.2.1 1) :: st) μ := R_put (ci := 6) (j := 1) rfl inX6 tyX6_ok nmX6 (by decide) rfl tF_RX7_51 rfl rfl sh_1 rfl hdg hn k
theorem gf_X1_38 (hdg : decode cc pc = .ok (.getfield 38, 3)) (hn : pc + 3 = n) (k : V G l RX1 cc nL dep lg ret Q n lo (.int (μ.1 1 1) :: st) μ) : V G l RX1 cc nL dep lg ret Q pc lo (.ref (G.2.2.1 1) :: st) μ := R_get (ci := 6) (j := 1) rfl inX6 (by decide) rfl tF_RX1_38 sh_1 rfl hdg hn k
theorem pf_X1_38 {x : Int32} (hdg : decode cc pc = .ok (.putfield 38, 3)) (hn : pc + 3 = n) (k : V G l RX1 cc nL dep lg ret Q n lo st (sti μ 1 1 x)) : V G l RX1 cc nL dep lg ret Q pc lo (.int x :: .ref (G.2.2.1 1) :: st) μ := R_put (ci := 6) (j := 1) rfl inX6 tyX6_ok nmX6 (by decide) rfl tF_RX1_38 rfl rfl sh_1 rfl hdg hn k
theorem gf_X5_9 {id : Nat} (hs : StB id) (hdg : decode cc pc = .ok (.getfield 9, 3)) (hn : pc + 3 = n) (k : V G l RX5 cc nL dep lg ret Q n lo (.ref (G.2.2.1 (id + 1)) :: st) μ) : V G l RX5 cc nL dep lg ret Q pc lo (.ref (G.2.2.1 id) :: st) μ := R_get (ci := 5) (j := 0) rfl inX5 (by decide) rfl tF_RX5_9 hs.1 rfl hdg hn k
theorem gf_X1_56 {id : Nat} (hs : StB id) (hdg : decode cc pc = .ok (.getfield 56, 3)) (hn : pc + 3 = n) (k : V G l RX1 cc nL dep lg ret Q n lo (.ref (G.2.2.1 (id + 1)) :: st) μ) : V G l RX1 cc nL dep lg ret Q pc lo (.ref (G.2.2.1 id) :: st) μ := R_get (ci := 5) (j := 0) rfl inX5 (by decide) rfl tF_RX1_56 hs.1 rfl hdg hn k
theorem gf_X3_51 {id : Nat} (hs : StB id) (hdg : decode cc pc = .ok (.getfield 51, 3)) (hn : pc + 3 = n) (k : V G l RX3 cc nL dep lg ret Q n lo (.ref (G.2.2.1 (id + 1)) :: st) μ) : V G l RX3 cc nL dep lg ret Q pc lo (.ref (G.2.2.1 id) :: st) μ := R_get (ci := 5) (j := 0) rfl inX5 (by decide) rfl tF_RX3_51 hs.1 rfl hdg hn k
theorem gf_X5_15 {id : Nat} (hs : StB id) (hdg : decode cc pc = .ok (.getfield 15, 3)) (hn : pc + 3 = n) (k : V G l RX5 cc nL dep lg ret Q n lo (.ref (G.2.2.1 (id + 2)) :: st) μ) : V G l RX5 cc nL dep lg ret Q pc lo (.ref (G.2.2.1 id) :: st) μ := R_get (ci := 5) (j := 1) rfl inX5 (by decide) rfl tF_RX5_15 hs.1 rfl hdg hn k
theorem gf_X7_101 {id : Nat} (hs : StB id) (hdg : decode cc pc = .ok (.getfield 101, 3)) (hn : pc + 3 = n) (k : V G l RX7 cc nL dep lg ret Q n lo (.ref (G.2.2.1 (id + 2)) :: st) μ) : V G l RX7 cc nL dep lg ret Q pc lo (.ref (G.2.2.1 id) :: st) μ := R_get (ci := 5) (j := 1) rfl inX5 (by decide) rfl tF_RX7_101 hs.1 rfl hdg hn k
theorem gf_X1_88 {id : Nat} (hs : StB id) (hdg : decode cc pc = .ok (.getfield 88, 3)) (hn : pc + 3 = n) (k : V G l RX1 cc nL dep lg ret Q n lo (.ref (G.2.2.1 (id + 2)) :: st) μ) : V G l RX1 cc nL dep lg ret Q pc lo (.ref (G.2.2.1 id) :: st) μ := R_get (ci := 5) (j := 1) rfl inX5 (by decide) rfl tF_RX1_88 hs.1 rfl hdg hn k
theorem gf_X5_18 {id : Nat} (hs : StB id) (hdg : decode cc pc = .ok (.getfield 18, 3)) (hn : pc + 3 = n) (k : V G l RX5 cc nL dep lg ret Q n lo (.ref (G.2.2.1 (id + 3)) :: st) μ) : V G l RX5 cc nL dep lg ret Q pc lo (.ref (G.2.2.1 id) :: st) μ := R_get (ci := 5) (j := 2) rfl inX5 (by decide) rfl tF_RX5_18 hs.1 rfl hdg hn k
theorem gf_X1_53 {id : Nat} (hs : StB id) (hdg : decode cc pc = .ok (.getfield 53, 3)) (hn : pc + 3 = n) (k : V G l RX1 cc nL dep lg ret Q n lo (.ref (G.2.2.1 (id + 3)) :: st) μ) : V G l RX1 cc nL dep lg ret Q pc lo (.ref (G.2.2.1 id) :: st) μ := R_get (ci := 5) (j := 2) rfl inX5 (by decide) rfl tF_RX1_53 hs.1 rfl hdg hn k
theorem gf_X7_92 {id : Nat} (hs : StB id) (hdg : decode cc pc = .ok (.getfield 92, 3)) (hn : pc + 3 = n) (k : V G l RX7 cc nL dep lg ret Q n lo (.ref (G.2.2.1 (id + 3)) :: st) μ) : V G l RX7 cc nL dep lg ret Q pc lo (.ref (G.2.2.1 id) :: st) μ := R_get (ci := 5) (j := 2) rfl inX5 (by decide) rfl tF_RX7_92 hs.1 rfl hdg hn k
theorem gf_X3_109 {id : Nat} (hs : StB id) (hdg : decode cc pc = .ok (.getfield 109, 3)) (hn : pc + 3 = n) (k : V G l RX3 cc nL dep lg ret Q n lo (.ref (G.2.2.1 (id + 3)) :: st) μ) : V G l RX3 cc nL dep lg ret Q pc lo (.ref (G.2.2.1 id) :: st) μ := R_get (ci := 5) (j := 2) rfl inX5 (by decide) rfl tF_RX3_109 hs.1 rfl hdg hn k
theorem gf_X5_21 {id : Nat} (hs : StB id) (hdg : decode cc pc = .ok (.getfield 21, 3)) (hn : pc + 3 = n) (k : V G l RX5 cc nL dep lg ret Q n lo (.ref (G.2.2.1 (id + 4)) :: st) μ) : V G l RX5 cc nL dep lg ret Q pc lo (.ref (G.2.2.1 id) :: st) μ := R_get (ci := 5) (j := 3) rfl inX5 (by decide) rfl tF_RX5_21 hs.1 rfl hdg hn k
theorem gf_X1_46 {id : Nat} (hs : StB id) (hdg : decode cc pc = .ok (.getfield 46, 3)) (hn : pc + 3 = n) (k : V G l RX1 cc nL dep lg ret Q n lo (.ref (G.2.2.1 (id + 4)) :: st) μ) : V G l RX1 cc nL dep lg ret Q pc lo (.ref (G.2.2.1 id) :: st) μ := R_get (ci := 5) (j := 3) rfl inX5 (by decide) rfl tF_RX1_46 hs.1 rfl hdg hn k
theorem gf_X2_41 {id : Nat} (hs : StB id) (hdg : decode cc pc = .ok (.getfield 41, 3)) (hn : pc + 3 = n) (k : V G l RX2 cc nL dep lg ret Q n lo (.ref (G.2.2.1 (id + 4)) :: st) μ) : V G l RX2 cc nL dep lg ret Q pc lo (.ref (G.2.2.1 id) :: st) μ := R_get (ci := 5) (j := 3) rfl inX5 (by decide) rfl tF_RX2_41 hs.1 rfl hdg hn k
theorem gf_X7_107 {id : Nat} (hs : StB id) (hdg : decode cc pc = .ok (.getfield 107, 3)) (hn : pc + 3 = n) (k : V G l RX7 cc nL dep lg ret Q n lo (.ref (G.2.2.1 (id + 4)) :: st) μ) : V G l RX7 cc nL dep lg ret Q pc lo (.ref (G.2.2.1 id) :: st) μ := R_get (ci := 5) (j := 3) rfl inX5 (by decide) rfl tF_RX7_107 hs.1 rfl hdg hn k
theorem gf_X5_24 {id : Nat} (hs : StB id) (hdg : decode cc pc = .ok (.getfield 24, 3)) (hn : pc + 3 = n) (k : V G l RX5 cc nL dep lg ret Q n lo (.ref (G.2.2.1 (id + 5)) :: st) μ) : V G l RX5 cc nL dep lg ret Q pc lo (.ref (G.2.2.1 id) :: st) μ := R_get (ci := 5) (j := 4) rfl inX5 (by decide) rfl tF_RX5_24 hs.1 rfl hdg hn k
theorem gf_X7_254 {id : Nat} (hs : StB id) (hdg : decode cc pc = .ok (.getfield 254, 3)) (hn : pc + 3 = n) (k : V G l RX7 cc nL dep lg ret Q n lo (.ref (G.2.2.1 (id + 5)) :: st) μ) : V G l RX7 cc nL dep lg ret Q pc lo (.ref (G.2.2.1 id) :: st) μ := R_get (ci := 5) (j := 4) rfl inX5 (by decide) rfl tF_RX7_254 hs.1 rfl hdg hn k
theorem gf_X5_33 {id : Nat} (hs : StB id) (hdg : decode cc pc = .ok (.getfield 33, 3)) (hn : pc + 3 = n) (k : V G l RX5 cc nL dep lg ret Q n lo (.int (μ.1 id 5) :: st) μ) : V G l RX5 cc nL dep lg ret Q pc lo (.ref (G.2.2.1 id) :: st) μ := R_get (ci := 5) (j := 5) rfl inX5 (by decide) rfl tF_RX5_33 hs.1 rfl hdg hn k
theorem pf_X5_33 {id : Nat} (hs : StB id) {x : Int32} (hdg : decode cc pc = .ok (.putfield 33, 3)) (hn : pc + 3 = n) (k : V G l RX5 cc nL dep lg ret Q n lo st (sti μ id 5 x)) : V G l RX5 cc nL dep lg ret Q pc lo (.int x :: .ref (G.2.2.1 id) :: st) μ := R_put (ci := 5) (j := 5) rfl inX5 tyX5_ok nmX5 (by decide) rfl tF_RX5_33 rfl rfl hs.1 rfl hdg hn k
theorem gf_X1_59 {id : Nat} (hs : StB id) (hdg : decode cc pc = .ok (.getfield 59, 3)) (hn : pc + 3 = n) (k : V G l RX1 cc nL dep lg ret Q n lo (.int (μ.1 id 5) :: st) μ) : V G l RX1 cc nL dep lg ret Q pc lo (.ref (G.2.2.1 id) :: st) μ := R_get (ci := 5) (j := 5) rfl inX5 (by decide) rfl tF_RX1_59 hs.1 rfl hdg hn k
theorem pf_X1_59 {id : Nat} (hs : StB id) {x : Int32} (hdg : decode cc pc = .ok (.putfield 59, 3)) (hn : pc + 3 = n) (k : V G l RX1 cc nL dep lg ret Q n lo st (sti μ id 5 x)) : V G l RX1 cc nL dep lg ret Q pc lo (.int x :: .ref (G.2.2.1 id) :: st) μ := R_put (ci := 5) (j := 5) rfl inX5 tyX5_ok nmX5 (by decide) rfl tF_RX1_59 rfl rfl hs.1 rfl hdg hn k
theorem gf_X3_134 {id : Nat} (hs : StB id) (hdg : decode cc pc = .ok (.getfield 134, 3)) (hn : pc + 3 = n) (k : V G l RX3 cc nL dep lg ret Q n lo (.int (μ.1 id 5) :: st) μ) : V G l RX3 cc nL dep lg ret Q pc lo (.ref (G.2.2.1 id) :: st) μ := R_get (ci := 5) (j := 5) rfl inX5 (by decide) rfl tF_RX3_134 hs.1 rfl hdg hn k
theorem pf_X3_134 {id : Nat} (hs : StB id) {x : Int32} (hdg : decode cc pc = .ok (.putfield 134, 3)) (hn : pc + 3 = n) (k : V G l RX3 cc nL dep lg ret Q n lo st (sti μ id 5 x)) : V G l RX3 cc nL dep lg ret Q pc lo (.int x :: .ref (G.2.2.1 id) :: st) μ := R_put (ci := 5) (j := 5) rfl inX5 tyX5_ok nmX5 (by decide) rfl tF_RX3_134 rfl rfl hs.1 rfl hdg hn k
theorem gf_X3_24 {id : Nat} (hs : StB id) (hdg : decode cc pc = .ok (.getfield 24, 3)) (hn : pc + 3 = n) (k : V G l RX3 cc nL dep lg ret Q n lo (.int (μ.1 id 6) :: st) μ) : V G l RX3 cc nL dep lg ret Q pc lo (.ref (G.2.2.1 id) :: st) μ := R_get (ci := 5) (j := 6) rfl inX5 (by decide) rfl tF_RX3_24 hs.1 rfl hdg hn k
theorem pf_X3_24 {id : Nat} (hs : StB id) {x : Int32} (hdg : decode cc pc = .ok (.putfield 24, 3)) (hn : pc + 3 = n) (k : V G l RX3 cc nL dep lg ret Q n lo st (sti μ id 6 x)) : V G l RX3 cc nL dep lg ret Q pc lo (.int x :: .ref (G.2.2.1 id) :: st) μ := R_put (ci := 5) (j := 6) rfl inX5 tyX5_ok nmX5 (by decide) rfl tF_RX3_24 rfl rfl hs.1 rfl hdg hn k
theorem gf_X5_37 {id : Nat} (hs : StB id) (hdg : decode cc pc = .ok (.getfield 37, 3)) (hn : pc + 3 = n) (k : V G l RX5 cc nL dep lg ret Q n lo (.int (μ.1 id 6) :: st) μ) : V G l RX5 cc nL dep lg ret Q pc lo (.ref (G.2.2.1 id) :: st) μ := R_get (ci := 5) (j := 6) rfl inX5 (by decide) rfl tF_RX5_37 hs.1 rfl hdg hn k
theorem pf_X5_37 {id : Nat} (hs : StB id) {x : Int32} (hdg : decode cc pc = .ok (.putfield 37, 3)) (hn : pc + 3 = n) (k : V G l RX5 cc nL dep lg ret Q n lo st (sti μ id 6 x)) : V G l RX5 cc nL dep lg ret Q pc lo (.int x :: .ref (G.2.2.1 id) :: st) μ := R_put (ci := 5) (j := 6) rfl inX5 tyX5_ok nmX5 (by decide) rfl tF_RX5_37 rfl rfl hs.1 rfl hdg hn k
theorem gf_X1_62 {id : Nat} (hs : StB id) (hdg : decode cc pc = .ok (.getfield 62, 3)) (hn : pc + 3 = n) (k : V G l RX1 cc nL dep lg ret Q n lo (.int (μ.1 id 6) :: st) μ) : V G l RX1 cc nL dep lg ret Q pc lo (.ref (G.2.2.1 id) :: st) μ := R_get (ci := 5) (j := 6) rfl inX5 (by decide) rfl tF_RX1_62 hs.1 rfl hdg hn k
theorem pf_X1_62 {id : Nat} (hs : StB id) {x : Int32} (hdg : decode cc pc = .ok (.putfield 62, 3)) (hn : pc + 3 = n) (k : V G l RX1 cc nL dep lg ret Q n lo st (sti μ id 6 x)) : V G l RX1 cc nL dep lg ret Q pc lo (.int x :: .ref (G.2.2.1 id) :: st) μ := R_put (ci := 5) (j := 6) rfl inX5 tyX5_ok nmX5 (by decide) rfl tF_RX1_62 rfl rfl hs.1 rfl hdg hn k
theorem gf_X2_95 {id : Nat} (hs : StB id) (hdg : decode cc pc = .ok (.getfield 95, 3)) (hn : pc + 3 = n) (k : V G l RX2 cc nL dep lg ret Q n lo (.int (μ.1 id 6) :: st) μ) : V G l RX2 cc nL dep lg ret Q pc lo (.ref (G.2.2.1 id) :: st) μ := R_get (ci := 5) (j := 6) rfl inX5 (by decide) rfl tF_RX2_95 hs.1 rfl hdg hn k
theorem pf_X2_95 {id : Nat} (hs : StB id) {x : Int32} (hdg : decode cc pc = .ok (.putfield 95, 3)) (hn : pc + 3 = n) (k : V G l RX2 cc nL dep lg ret Q n lo st (sti μ id 6 x)) : V G l RX2 cc nL dep lg ret Q pc lo (.int x :: .ref (G.2.2.1 id) :: st) μ := R_put (ci := 5) (j := 6) rfl inX5 tyX5_ok nmX5 (by decide) rfl tF_RX2_95 rfl rfl hs.1 rfl hdg hn k
theorem gf_X7_236 {id : Nat} (hs : StB id) (hdg : decode cc pc = .ok (.getfield 236, 3)) (hn : pc + 3 = n) (k : V G l RX7 cc nL dep lg ret Q n lo (.int (μ.1 id 6) :: st) μ) : V G l RX7 cc nL dep lg ret Q pc lo (.ref (G.2.2.1 id) :: st) μ := R_get (ci := 5) (j := 6) rfl inX5 (by decide) rfl tF_RX7_236 hs.1 rfl hdg hn k
theorem pf_X7_236 {id : Nat} (hs : StB id) {x : Int32} (hdg : decode cc pc = .ok (.putfield 236, 3)) (hn : pc + 3 = n) (k : V G l RX7 cc nL dep lg ret Q n lo st (sti μ id 6 x)) : V G l RX7 cc nL dep lg ret Q pc lo (.int x :: .ref (G.2.2.1 id) :: st) μ := R_put (ci := 5) (j := 6) rfl inX5 tyX5_ok nmX5 (by decide) rfl tF_RX7_236 rfl rfl hs.1 rfl hdg hn k
theorem gf_X1_9 (hdg : decode cc pc = .ok (.getfield 9, 3)) (hn : pc + 3 = n) (k : V G l RX1 cc nL dep lg ret Q n lo (.ref (G.2.2.1 4) :: st) μ) : V G l RX1 cc nL dep lg ret Q pc lo (.ref (G.2.2.1 3) :: st) μ := R_get (ci := 1) (j := 0) rfl inX1 (by decide) rfl tF_RX1_9 sh_3 rfl hdg hn k
theorem gf_X7_81 (hdg : decode cc pc = .ok (.getfield 81, 3)) (hn : pc + 3 = n) (k : V G l RX7 cc nL dep lg ret Q n lo (.ref (G.2.2.1 4) :: st) μ) : V G l RX7 cc nL dep lg ret Q pc lo (.ref (G.2.2.1 3) :: st) μ := R_get (ci := 1) (j := 0) rfl inX1 (by decide) rfl tF_RX7_81 sh_3 rfl hdg hn k
theorem gf_X1_15 (hdg : decode cc pc = .ok (.getfield 15, 3)) (hn : pc + 3 = n) (k : V G l RX1 cc nL dep lg ret Q n lo (.ref (G.2.2.1 5) :: st) μ) : V G l RX1 cc nL dep lg ret Q pc lo (.ref (G.2.2.1 3) :: st) μ := R_get (ci := 1) (j := 1) rfl inX1 (by decide) rfl tF_RX1_15 sh_3 rfl hdg hn k
theorem gf_X7_85 (hdg : decode cc pc = .ok (.getfield 85, 3)) (hn : pc + 3 = n) (k : V G l RX7 cc nL dep lg ret Q n lo (.ref (G.2.2.1 5) :: st) μ) : V G l RX7 cc nL dep lg ret Q pc lo (.ref (G.2.2.1 3) :: st) μ := R_get (ci := 1) (j := 1) rfl inX1 (by decide) rfl tF_RX7_85 sh_3 rfl hdg hn k
theorem gf_X1_21 (hdg : decode cc pc = .ok (.getfield 21, 3)) (hn : pc + 3 = n) (k : V G l RX1 cc nL dep lg ret Q n lo (.ref (G.2.2.1 6) :: st) μ) : V G l RX1 cc nL dep lg ret Q pc lo (.ref (G.2.2.1 3) :: st) μ := R_get (ci := 1) (j := 2) rfl inX1 (by decide) rfl tF_RX1_21 sh_3 rfl hdg hn k
theorem gf_X7_88 (hdg : decode cc pc = .ok (.getfield 88, 3)) (hn : pc + 3 = n) (k : V G l RX7 cc nL dep lg ret Q n lo (.ref (G.2.2.1 6) :: st) μ) : V G l RX7 cc nL dep lg ret Q pc lo (.ref (G.2.2.1 3) :: st) μ := R_get (ci := 1) (j := 2) rfl inX1 (by decide) rfl tF_RX7_88 sh_3 rfl hdg hn k
theorem gf_X3_105 (hdg : decode cc pc = .ok (.getfield 105, 3)) (hn : pc + 3 = n) (k : V G l RX3 cc nL dep lg ret Q n lo (.ref (G.2.2.1 6) :: st) μ) : V G l RX3 cc nL dep lg ret Q pc lo (.ref (G.2.2.1 3) :: st) μ := R_get (ci := 1) (j := 2) rfl inX1 (by decide) rfl tF_RX3_105 sh_3 rfl hdg hn k
theorem gf_X1_25 (hdg : decode cc pc = .ok (.getfield 25, 3)) (hn : pc + 3 = n) (k : V G l RX1 cc nL dep lg ret Q n lo (.ref (G.2.2.1 12) :: st) μ) : V G l RX1 cc nL dep lg ret Q pc lo (.ref (G.2.2.1 3) :: st) μ := R_get (ci := 1) (j := 3) rfl inX1 (by decide) rfl tF_RX1_25 sh_3 rfl hdg hn k
theorem gf_X1_28 (hdg : decode cc pc = .ok (.getfield 28, 3)) (hn : pc + 3 = n) (k : V G l RX1 cc nL dep lg ret Q n lo (.int (μ.1 3 4) :: st) μ) : V G l RX1 cc nL dep lg ret Q pc lo (.ref (G.2.2.1 3) :: st) μ := R_get (ci := 1) (j := 4) rfl inX1 (by decide) rfl tF_RX1_28 sh_3 rfl hdg hn k
theorem pf_X1_28 {x : Int32} (hdg : decode cc pc = .ok (.putfield 28, 3)) (hn : pc + 3 = n) (k : V G l RX1 cc nL dep lg ret Q n lo st (sti μ 3 4 x)) : V G l RX1 cc nL dep lg ret Q pc lo (.int x :: .ref (G.2.2.1 3) :: st) μ := R_put (ci := 1) (j := 4) rfl inX1 tyX1_ok nmX1 (by decide) rfl tF_RX1_28 rfl rfl sh_3 rfl hdg hn k
theorem gf_X3_30 (hdg : decode cc pc = .ok (.getfield 30, 3)) (hn : pc + 3 = n) (k : V G l RX3 cc nL dep lg ret Q n lo (.int (μ.1 3 4) :: st) μ) : V G l RX3 cc nL dep lg ret Q pc lo (.ref (G.2.2.1 3) :: st) μ := R_get (ci := 1) (j := 4) rfl inX1 (by decide) rfl tF_RX3_30 sh_3 rfl hdg hn k
theorem pf_X3_30 {x : Int32} (hdg : decode cc pc = .ok (.putfield 30, 3)) (hn : pc + 3 = n) (k : V G l RX3 cc nL dep lg ret Q n lo st (sti μ 3 4 x)) : V G l RX3 cc nL dep lg ret Q pc lo (.int x :: .ref (G.2.2.1 3) :: st) μ := R_put (ci := 1) (j := 4) rfl inX1 tyX1_ok nmX1 (by decide) rfl tF_RX3_30 rfl rfl sh_3 rfl hdg hn k
theorem gf_X7_71 (hdg : decode cc pc = .ok (.getfield 71, 3)) (hn : pc + 3 = n) (k : V G l RX7 cc nL dep lg ret Q n lo (.int (μ.1 3 4) :: st) μ) : V G l RX7 cc nL dep lg ret Q pc lo (.ref (G.2.2.1 3) :: st) μ := R_get (ci := 1) (j := 4) rfl inX1 (by decide) rfl tF_RX7_71 sh_3 rfl hdg hn k
theorem pf_X7_71 {x : Int32} (hdg : decode cc pc = .ok (.putfield 71, 3)) (hn : pc + 3 = n) (k : V G l RX7 cc nL dep lg ret Q n lo st (sti μ 3 4 x)) : V G l RX7 cc nL dep lg ret Q pc lo (.int x :: .ref (G.2.2.1 3) :: st) μ := R_put (ci := 1) (j := 4) rfl inX1 tyX1_ok nmX1 (by decide) rfl tF_RX7_71 rfl rfl sh_3 rfl hdg hn k
theorem gf_X2_73 (hdg : decode cc pc = .ok (.getfield 73, 3)) (hn : pc + 3 = n) (k : V G l RX2 cc nL dep lg ret Q n lo (.int (μ.1 3 4) :: st) μ) : V G l RX2 cc nL dep lg ret Q pc lo (.ref (G.2.2.1 3) :: st) μ := R_get (ci := 1) (j := 4) rfl inX1 (by decide) rfl tF_RX2_73 sh_3 rfl hdg hn k
theorem pf_X2_73 {x : Int32} (hdg : decode cc pc = .ok (.putfield 73, 3)) (hn : pc + 3 = n) (k : V G l RX2 cc nL dep lg ret Q n lo st (sti μ 3 4 x)) : V G l RX2 cc nL dep lg ret Q pc lo (.int x :: .ref (G.2.2.1 3) :: st) μ := R_put (ci := 1) (j := 4) rfl inX1 tyX1_ok nmX1 (by decide) rfl tF_RX2_73 rfl rfl sh_3 rfl hdg hn k
theorem gf_X2_18 (hdg : decode cc pc = .ok (.getfield 18, 3)) (hn : pc + 3 = n) (k : V G l RX2 cc nL dep lg ret Q n lo (.int (μ.1 3 5) :: st) μ) : V G l RX2 cc nL dep lg ret Q pc lo (.ref (G.2.2.1 3) :: st) μ := R_get (ci := 1) (j := 5) rfl inX1 (by decide) rfl tF_RX2_18 sh_3 rfl hdg hn k
theorem pf_X2_18 {x : Int32} (hdg : decode cc pc = .ok (.putfield 18, 3)) (hn : pc + 3 = n) (k : V G l RX2 cc nL dep lg ret Q n lo st (sti μ 3 5 x)) : V G l RX2 cc nL dep lg ret Q pc lo (.int x :: .ref (G.2.2.1 3) :: st) μ := R_put (ci := 1) (j := 5) rfl inX1 tyX1_ok nmX1 (by decide) rfl tF_RX2_18 rfl rfl sh_3 rfl hdg hn k
theorem gf_X1_32 (hdg : decode cc pc = .ok (.getfield 32, 3)) (hn : pc + 3 = n) (k : V G l RX1 cc nL dep lg ret Q n lo (.int (μ.1 3 5) :: st) μ) : V G l RX1 cc nL dep lg ret Q pc lo (.ref (G.2.2.1 3) :: st) μ := R_get (ci := 1) (j := 5) rfl inX1 (by decide) rfl tF_RX1_32 sh_3 rfl hdg hn k
theorem pf_X1_32 {x : Int32} (hdg : decode cc pc = .ok (.putfield 32, 3)) (hn : pc + 3 = n) (k : V G l RX1 cc nL dep lg ret Q n lo st (sti μ 3 5 x)) : V G l RX1 cc nL dep lg ret Q pc lo (.int x :: .ref (G.2.2.1 3) :: st) μ := R_put (ci := 1) (j := 5) rfl inX1 tyX1_ok nmX1 (by decide) rfl tF_RX1_32 rfl rfl sh_3 rfl hdg hn k
theorem gf_X3_45 (hdg : decode cc pc = .ok (.getfield 45, 3)) (hn : pc + 3 = n) (k : V G l RX3 cc nL dep lg ret Q n lo (.int (μ.1 3 5) :: st) μ) : V G l RX3 cc nL dep lg ret Q pc lo (.ref (G.2.2.1 3) :: st) μ := R_get (ci := 1) (j := 5) rfl inX1 (by decide) rfl tF_RX3_45 sh_3 rfl hdg hn k
theorem pf_X3_45 {x : Int32} (hdg : decode cc pc = .ok (.putfield 45, 3)) (hn : pc + 3 = n) (k : V G l RX3 cc nL dep lg ret Q n lo st (sti μ 3 5 x)) : V G l RX3 cc nL dep lg ret Q pc lo (.int x :: .ref (G.2.2.1 3) :: st) μ := R_put (ci := 1) (j := 5) rfl inX1 tyX1_ok nmX1 (by decide) rfl tF_RX3_45 rfl rfl sh_3 rfl hdg hn k
theorem gf_X7_74 (hdg : decode cc pc = .ok (.getfield 74, 3)) (hn : pc + 3 = n) (k : V G l RX7 cc nL dep lg ret Q n lo (.int (μ.1 3 5) :: st) μ) : V G l RX7 cc nL dep lg ret Q pc lo (.ref (G.2.2.1 3) :: st) μ := R_get (ci := 1) (j := 5) rfl inX1 (by decide) rfl tF_RX7_74 sh_3 rfl hdg hn k
theorem pf_X7_74 {x : Int32} (hdg : decode cc pc = .ok (.putfield 74, 3)) (hn : pc + 3 = n) (k : V G l RX7 cc nL dep lg ret Q n lo st (sti μ 3 5 x)) : V G l RX7 cc nL dep lg ret Q pc lo (.int x :: .ref (G.2.2.1 3) :: st) μ := R_put (ci := 1) (j := 5) rfl inX1 tyX1_ok nmX1 (by decide) rfl tF_RX7_74 rfl rfl sh_3 rfl hdg hn k
theorem gf_X0_11 (hdg : decode cc pc = .ok (.getfield 11, 3)) (hn : pc + 3 = n) (k : V G l RX0 cc nL dep lg ret Q n lo (.ref (G.2.2.1 19) :: st) μ) : V G l RX0 cc nL dep lg ret Q pc lo (.ref (G.2.2.1 18) :: st) μ := R_get (ci := 0) (j := 0) rfl inX0 (by decide) rfl tF_RX0_11 sh_18 rfl hdg hn k
theorem gf_X0_18 (hdg : decode cc pc = .ok (.getfield 18, 3)) (hn : pc + 3 = n) (k : V G l RX0 cc nL dep lg ret Q n lo (.int (μ.1 18 1) :: st) μ) : V G l RX0 cc nL dep lg ret Q pc lo (.ref (G.2.2.1 18) :: st) μ := R_get (ci := 0) (j := 1) rfl inX0 (by decide) rfl tF_RX0_18 sh_18 rfl hdg hn k
theorem pf_X0_18 {x : Int32} (hdg : decode cc pc = .ok (.putfield 18, 3)) (hn : pc + 3 = n) (k : V G l RX0 cc nL dep lg ret Q n lo st (sti μ 18 1 x)) : V G l RX0 cc nL dep lg ret Q pc lo (.int x :: .ref (G.2.2.1 18) :: st) μ := R_put (ci := 0) (j := 1) rfl inX0 tyX0_ok nmX0 (by decide) rfl tF_RX0_18 rfl rfl sh_18 rfl hdg hn k
theorem gf_X0_22 (hdg : decode cc pc = .ok (.getfield 22, 3)) (hn : pc + 3 = n) (k : V G l RX0 cc nL dep lg ret Q n lo (.int (μ.1 18 2) :: st) μ) : V G l RX0 cc nL dep lg ret Q pc lo (.ref (G.2.2.1 18) :: st) μ := R_get (ci := 0) (j := 2) rfl inX0 (by decide) rfl tF_RX0_22 sh_18 rfl hdg hn k
theorem pf_X0_22 {x : Int32} (hdg : decode cc pc = .ok (.putfield 22, 3)) (hn : pc + 3 = n) (k : V G l RX0 cc nL dep lg ret Q n lo st (sti μ 18 2 x)) : V G l RX0 cc nL dep lg ret Q pc lo (.int x :: .ref (G.2.2.1 18) :: st) μ := R_put (ci := 0) (j := 2) rfl inX0 tyX0_ok nmX0 (by decide) rfl tF_RX0_22 rfl rfl sh_18 rfl hdg hn k
theorem gf_X7_140 (hdg : decode cc pc = .ok (.getfield 140, 3)) (hn : pc + 3 = n) (k : V G l RX7 cc nL dep lg ret Q n lo (.int (μ.1 18 2) :: st) μ) : V G l RX7 cc nL dep lg ret Q pc lo (.ref (G.2.2.1 18) :: st) μ := R_get (ci := 0) (j := 2) rfl inX0 (by decide) rfl tF_RX7_140 sh_18 rfl hdg hn k
theorem pf_X7_140 {x : Int32} (hdg : decode cc pc = .ok (.putfield 140, 3)) (hn : pc + 3 = n) (k : V G l RX7 cc nL dep lg ret Q n lo st (sti μ 18 2 x)) : V G l RX7 cc nL dep lg ret Q pc lo (.int x :: .ref (G.2.2.1 18) :: st) μ := R_put (ci := 0) (j := 2) rfl inX0 tyX0_ok nmX0 (by decide) rfl tF_RX7_140 rfl rfl sh_18 rfl hdg hn k
theorem gf_X4_11 (hdg : decode cc pc = .ok (.getfield 11, 3)) (hn : pc + 3 = n) (k : V G l RX4 cc nL dep lg ret Q n lo (.ref (G.2.2.1 105) :: st) μ) : V G l RX4 cc nL dep lg ret Q pc lo (.ref (G.2.2.1 104) :: st) μ := R_get (ci := 4) (j := 0) rfl inX4 (by decide) rfl tF_RX4_11 sh_104 rfl hdg hn k
theorem gf_X7_243 (hdg : decode cc pc = .ok (.getfield 243, 3)) (hn : pc + 3 = n) (k : V G l RX7 cc nL dep lg ret Q n lo (.ref (G.2.2.1 105) :: st) μ) : V G l RX7 cc nL dep lg ret Q pc lo (.ref (G.2.2.1 104) :: st) μ := R_get (ci := 4) (j := 0) rfl inX4 (by decide) rfl tF_RX7_243 sh_104 rfl hdg hn k
theorem gf_X4_17 (hdg : decode cc pc = .ok (.getfield 17, 3)) (hn : pc + 3 = n) (k : V G l RX4 cc nL dep lg ret Q n lo (.ref (G.2.2.1 118) :: st) μ) : V G l RX4 cc nL dep lg ret Q pc lo (.ref (G.2.2.1 104) :: st) μ := R_get (ci := 4) (j := 1) rfl inX4 (by decide) rfl tF_RX4_17 sh_104 rfl hdg hn k
theorem gf_X7_239 (hdg : decode cc pc = .ok (.getfield 239, 3)) (hn : pc + 3 = n) (k : V G l RX7 cc nL dep lg ret Q n lo (.ref (G.2.2.1 118) :: st) μ) : V G l RX7 cc nL dep lg ret Q pc lo (.ref (G.2.2.1 104) :: st) μ := R_get (ci := 4) (j := 1) rfl inX4 (by decide) rfl tF_RX7_239 sh_104 rfl hdg hn k
theorem gf_X3_9 (hdg : decode cc pc = .ok (.getfield 9, 3)) (hn : pc + 3 = n) (k : V G l RX3 cc nL dep lg ret Q n lo (.ref (G.2.2.1 120) :: st) μ) : V G l RX3 cc nL dep lg ret Q pc lo (.ref (G.2.2.1 119) :: st) μ := R_get (ci := 3) (j := 0) rfl inX3 (by decide) rfl tF_RX3_9 sh_119 rfl hdg hn k
theorem gf_X3_15 (hdg : decode cc pc = .ok (.getfield 15, 3)) (hn : pc + 3 = n) (k : V G l RX3 cc nL dep lg ret Q n lo (.ref (G.2.2.1 121) :: st) μ) : V G l RX3 cc nL dep lg ret Q pc lo (.ref (G.2.2.1 119) :: st) μ := R_get (ci := 3) (j := 1) rfl inX3 (by decide) rfl tF_RX3_15 sh_119 rfl hdg hn k
theorem gf_X2_11 (hdg : decode cc pc = .ok (.getfield 11, 3)) (hn : pc + 3 = n) (k : V G l RX2 cc nL dep lg ret Q n lo (.ref (G.2.2.1 123) :: st) μ) : V G l RX2 cc nL dep lg ret Q pc lo (.ref (G.2.2.1 122) :: st) μ := R_get (ci := 2) (j := 0) rfl inX2 (by decide) rfl tF_RX2_11 sh_122 rfl hdg hn k
theorem gf_X2_15 (hdg : decode cc pc = .ok (.getfield 15, 3)) (hn : pc + 3 = n) (k : V G l RX2 cc nL dep lg ret Q n lo (.ref (G.2.2.1 124) :: st) μ) : V G l RX2 cc nL dep lg ret Q pc lo (.ref (G.2.2.1 122) :: st) μ := R_get (ci := 2) (j := 1) rfl inX2 (by decide) rfl tF_RX2_15 sh_122 rfl hdg hn k
theorem gf_X2_24 (hdg : decode cc pc = .ok (.getfield 24, 3)) (hn : pc + 3 = n) (k : V G l RX2 cc nL dep lg ret Q n lo (.int (μ.1 122 2) :: st) μ) : V G l RX2 cc nL dep lg ret Q pc lo (.ref (G.2.2.1 122) :: st) μ := R_get (ci := 2) (j := 2) rfl inX2 (by decide) rfl tF_RX2_24 sh_122 rfl hdg hn k
theorem pf_X2_24 {x : Int32} (hdg : decode cc pc = .ok (.putfield 24, 3)) (hn : pc + 3 = n) (k : V G l RX2 cc nL dep lg ret Q n lo st (sti μ 122 2 x)) : V G l RX2 cc nL dep lg ret Q pc lo (.int x :: .ref (G.2.2.1 122) :: st) μ := R_put (ci := 2) (j := 2) rfl inX2 tyX2_ok nmX2 (by decide) rfl tF_RX2_24 rfl rfl sh_122 rfl hdg hn k
theorem gf_X7_195 (hdg : decode cc pc = .ok (.getfield 195, 3)) (hn : pc + 3 = n) (k : V G l RX7 cc nL dep lg ret Q n lo (.int (μ.1 122 2) :: st) μ) : V G l RX7 cc nL dep lg ret Q pc lo (.ref (G.2.2.1 122) :: st) μ := R_get (ci := 2) (j := 2) rfl inX2 (by decide) rfl tF_RX7_195 sh_122 rfl hdg hn k
theorem pf_X7_195 {x : Int32} (hdg : decode cc pc = .ok (.putfield 195, 3)) (hn : pc + 3 = n) (k : V G l RX7 cc nL dep lg ret Q n lo st (sti μ 122 2 x)) : V G l RX7 cc nL dep lg ret Q pc lo (.int x :: .ref (G.2.2.1 122) :: st) μ := R_put (ci := 2) (j := 2) rfl inX2 tyX2_ok nmX2 (by decide) rfl tF_RX7_195 rfl rfl sh_122 rfl hdg hn k
theorem gf_X2_27 (hdg : decode cc pc = .ok (.getfield 27, 3)) (hn : pc + 3 = n) (k : V G l RX2 cc nL dep lg ret Q n lo (.int (μ.1 122 3) :: st) μ) : V G l RX2 cc nL dep lg ret Q pc lo (.ref (G.2.2.1 122) :: st) μ := R_get (ci := 2) (j := 3) rfl inX2 (by decide) rfl tF_RX2_27 sh_122 rfl hdg hn k
theorem pf_X2_27 {x : Int32} (hdg : decode cc pc = .ok (.putfield 27, 3)) (hn : pc + 3 = n) (k : V G l RX2 cc nL dep lg ret Q n lo st (sti μ 122 3 x)) : V G l RX2 cc nL dep lg ret Q pc lo (.int x :: .ref (G.2.2.1 122) :: st) μ := R_put (ci := 2) (j := 3) rfl inX2 tyX2_ok nmX2 (by decide) rfl tF_RX2_27 rfl rfl sh_122 rfl hdg hn k
theorem gf_X7_198 (hdg : decode cc pc = .ok (.getfield 198, 3)) (hn : pc + 3 = n) (k : V G l RX7 cc nL dep lg ret Q n lo (.int (μ.1 122 3) :: st) μ) : V G l RX7 cc nL dep lg ret Q pc lo (.ref (G.2.2.1 122) :: st) μ := R_get (ci := 2) (j := 3) rfl inX2 (by decide) rfl tF_RX7_198 sh_122 rfl hdg hn k
theorem pf_X7_198 {x : Int32} (hdg : decode cc pc = .ok (.putfield 198, 3)) (hn : pc + 3 = n) (k : V G l RX7 cc nL dep lg ret Q n lo st (sti μ 122 3 x)) : V G l RX7 cc nL dep lg ret Q pc lo (.int x :: .ref (G.2.2.1 122) :: st) μ := R_put (ci := 2) (j := 3) rfl inX2 tyX2_ok nmX2 (by decide) rfl tF_RX7_198 rfl rfl sh_122 rfl hdg hn k
theorem gf_X2_34 (hdg : decode cc pc = .ok (.getfield 34, 3)) (hn : pc + 3 = n) (k : V G l RX2 cc nL dep lg ret Q n lo (.int (μ.1 122 4) :: st) μ) : V G l RX2 cc nL dep lg ret Q pc lo (.ref (G.2.2.1 122) :: st) μ := R_get (ci := 2) (j := 4) rfl inX2 (by decide) rfl tF_RX2_34 sh_122 rfl hdg hn k
theorem pf_X2_34 {x : Int32} (hdg : decode cc pc = .ok (.putfield 34, 3)) (hn : pc + 3 = n) (k : V G l RX2 cc nL dep lg ret Q n lo st (sti μ 122 4 x)) : V G l RX2 cc nL dep lg ret Q pc lo (.int x :: .ref (G.2.2.1 122) :: st) μ := R_put (ci := 2) (j := 4) rfl inX2 tyX2_ok nmX2 (by decide) rfl tF_RX2_34 rfl rfl sh_122 rfl hdg hn k
theorem gf_X7_201 (hdg : decode cc pc = .ok (.getfield 201, 3)) (hn : pc + 3 = n) (k : V G l RX7 cc nL dep lg ret Q n lo (.int (μ.1 122 4) :: st) μ) : V G l RX7 cc nL dep lg ret Q pc lo (.ref (G.2.2.1 122) :: st) μ := R_get (ci := 2) (j := 4) rfl inX2 (by decide) rfl tF_RX7_201 sh_122 rfl hdg hn k
theorem pf_X7_201 {x : Int32} (hdg : decode cc pc = .ok (.putfield 201, 3)) (hn : pc + 3 = n) (k : V G l RX7 cc nL dep lg ret Q n lo st (sti μ 122 4 x)) : V G l RX7 cc nL dep lg ret Q pc lo (.int x :: .ref (G.2.2.1 122) :: st) μ := R_put (ci := 2) (j := 4) rfl inX2 tyX2_ok nmX2 (by decide) rfl tF_RX7_201 rfl rfl sh_122 rfl hdg hn k
theorem gf_X2_66 (hdg : decode cc pc = .ok (.getfield 66, 3)) (hn : pc + 3 = n) (k : V G l RX2 cc nL dep lg ret Q n lo (.int (μ.1 122 5) :: st) μ) : V G l RX2 cc nL dep lg ret Q pc lo (.ref (G.2.2.1 122) :: st) μ := R_get (ci := 2) (j := 5) rfl inX2 (by decide) rfl tF_RX2_66 sh_122 rfl hdg hn k
theorem pf_X2_66 {x : Int32} (hdg : decode cc pc = .ok (.putfield 66, 3)) (hn : pc + 3 = n) (k : V G l RX2 cc nL dep lg ret Q n lo st (sti μ 122 5 x)) : V G l RX2 cc nL dep lg ret Q pc lo (.int x :: .ref (G.2.2.1 122) :: st) μ := R_put (ci := 2) (j := 5) rfl inX2 tyX2_ok nmX2 (by decide) rfl tF_RX2_66 rfl rfl sh_122 rfl hdg hn k
theorem gf_X7_208 (hdg : decode cc pc = .ok (.getfield 208, 3)) (hn : pc + 3 = n) (k : V G l RX7 cc nL dep lg ret Q n lo (.int (μ.1 122 5) :: st) μ) : V G l RX7 cc nL dep lg ret Q pc lo (.ref (G.2.2.1 122) :: st) μ := R_get (ci := 2) (j := 5) rfl inX2 (by decide) rfl tF_RX7_208 sh_122 rfl hdg hn k
theorem pf_X7_208 {x : Int32} (hdg : decode cc pc = .ok (.putfield 208, 3)) (hn : pc + 3 = n) (k : V G l RX7 cc nL dep lg ret Q n lo st (sti μ 122 5 x)) : V G l RX7 cc nL dep lg ret Q pc lo (.int x :: .ref (G.2.2.1 122) :: st) μ := R_put (ci := 2) (j := 5) rfl inX2 tyX2_ok nmX2 (by decide) rfl tF_RX7_208 rfl rfl sh_122 rfl hdg hn k
theorem gf_X7_10 (hdg : decode cc pc = .ok (.getfield 10, 3)) (hn : pc + 3 = n) (k : V G l RX7 cc nL dep lg ret Q n lo (.ref (G.2.2.1 1) :: st) μ) : V G l RX7 cc nL dep lg ret Q pc lo (.ref (G.2.2.1 0) :: st) μ := R_get (ci := 7) (j := 0) rfl inX7 (by decide) rfl tF_RX7_10 sh_0 rfl hdg hn k
theorem gf_X7_19 (hdg : decode cc pc = .ok (.getfield 19, 3)) (hn : pc + 3 = n) (k : V G l RX7 cc nL dep lg ret Q n lo (.ref (G.2.2.1 3) :: st) μ) : V G l RX7 cc nL dep lg ret Q pc lo (.ref (G.2.2.1 0) :: st) μ := R_get (ci := 7) (j := 1) rfl inX7 (by decide) rfl tF_RX7_19 sh_0 rfl hdg hn k
theorem gf_X7_26 (hdg : decode cc pc = .ok (.getfield 26, 3)) (hn : pc + 3 = n) (k : V G l RX7 cc nL dep lg ret Q n lo (.ref (G.2.2.1 18) :: st) μ) : V G l RX7 cc nL dep lg ret Q pc lo (.ref (G.2.2.1 0) :: st) μ := R_get (ci := 7) (j := 2) rfl inX7 (by decide) rfl tF_RX7_26 sh_0 rfl hdg hn k
theorem gf_X7_33 (hdg : decode cc pc = .ok (.getfield 33, 3)) (hn : pc + 3 = n) (k : V G l RX7 cc nL dep lg ret Q n lo (.ref (G.2.2.1 104) :: st) μ) : V G l RX7 cc nL dep lg ret Q pc lo (.ref (G.2.2.1 0) :: st) μ := R_get (ci := 7) (j := 3) rfl inX7 (by decide) rfl tF_RX7_33 sh_0 rfl hdg hn k
theorem gf_X7_40 (hdg : decode cc pc = .ok (.getfield 40, 3)) (hn : pc + 3 = n) (k : V G l RX7 cc nL dep lg ret Q n lo (.ref (G.2.2.1 119) :: st) μ) : V G l RX7 cc nL dep lg ret Q pc lo (.ref (G.2.2.1 0) :: st) μ := R_get (ci := 7) (j := 4) rfl inX7 (by decide) rfl tF_RX7_40 sh_0 rfl hdg hn k
theorem gf_X7_47 (hdg : decode cc pc = .ok (.getfield 47, 3)) (hn : pc + 3 = n) (k : V G l RX7 cc nL dep lg ret Q n lo (.ref (G.2.2.1 122) :: st) μ) : V G l RX7 cc nL dep lg ret Q pc lo (.ref (G.2.2.1 0) :: st) μ := R_get (ci := 7) (j := 5) rfl inX7 (by decide) rfl tF_RX7_47 sh_0 rfl hdg hn k
theorem gf_X7_218 (hdg : decode cc pc = .ok (.getfield 218, 3)) (hn : pc + 3 = n) (k : V G l RX7 cc nL dep lg ret Q n lo (.long (μ.2 0) :: st) μ) : V G l RX7 cc nL dep lg ret Q pc lo (.ref (G.2.2.1 0) :: st) μ := R_get (ci := 7) (j := 6) rfl inX7 (by decide) rfl tF_RX7_218 sh_0 rfl hdg hn k
theorem pf_X7_218 {x : Int64} (hdg : decode cc pc = .ok (.putfield 218, 3)) (hn : pc + 3 = n) (k : V G l RX7 cc nL dep lg ret Q n lo st (stl μ 0 x)) : V G l RX7 cc nL dep lg ret Q pc lo (.long x :: .ref (G.2.2.1 0) :: st) μ := R_putl (ci := 7) (j := 6) rfl inX7 tyX7_ok nmX7 (by decide) rfl tF_RX7_218 rfl rfl sh_0 rfl (one_long 7 6 _ rfl (by decide)) hdg hn k
theorem gf_X8_50 (hdg : decode cc pc = .ok (.getfield 50, 3)) (hn : pc + 3 = n) (k : V G l RX8 cc nL dep lg ret Q n lo (.int (μ.1 125 0) :: st) μ) : V G l RX8 cc nL dep lg ret Q pc lo (.ref (G.2.2.1 125) :: st) μ := R_get (ci := 8) (j := 0) rfl inX8 (by decide) rfl tF_RX8_50 sh_125 rfl hdg hn k
theorem pf_X8_50 {x : Int32} (hdg : decode cc pc = .ok (.putfield 50, 3)) (hn : pc + 3 = n) (k : V G l RX8 cc nL dep lg ret Q n lo st (sti μ 125 0 x)) : V G l RX8 cc nL dep lg ret Q pc lo (.int x :: .ref (G.2.2.1 125) :: st) μ := R_put (ci := 8) (j := 0) rfl inX8 tyX8_ok nmX8 (by decide) rfl tF_RX8_50 rfl rfl sh_125 rfl hdg hn k
theorem gf_X8_83 (hdg : decode cc pc = .ok (.getfield 83, 3)) (hn : pc + 3 = n) (k : V G l RX8 cc nL dep lg ret Q n lo (.int (μ.1 125 1) :: st) μ) : V G l RX8 cc nL dep lg ret Q pc lo (.ref (G.2.2.1 125) :: st) μ := R_get (ci := 8) (j := 1) rfl inX8 (by decide) rfl tF_RX8_83 sh_125 rfl hdg hn k
theorem pf_X8_83 {x : Int32} (hdg : decode cc pc = .ok (.putfield 83, 3)) (hn : pc + 3 = n) (k : V G l RX8 cc nL dep lg ret Q n lo st (sti μ 125 1 x)) : V G l RX8 cc nL dep lg ret Q pc lo (.int x :: .ref (G.2.2.1 125) :: st) μ := R_put (ci := 8) (j := 1) rfl inX8 tyX8_ok nmX8 (by decide) rfl tF_RX8_83 rfl rfl sh_125 rfl hdg hn k
theorem gf_X8_7 (hdg : decode cc pc = .ok (.getfield 7, 3)) (hn : pc + 3 = n) (k : V G l RX8 cc nL dep lg ret Q n lo (.ref (G.2.2.1 126) :: st) μ) : V G l RX8 cc nL dep lg ret Q pc lo (.ref (G.2.2.1 125) :: st) μ := R_get (ci := 8) (j := 2) rfl inX8 (by decide) rfl tF_RX8_7 sh_125 rfl hdg hn k
theorem gf_X8_13 (hdg : decode cc pc = .ok (.getfield 13, 3)) (hn : pc + 3 = n) (k : V G l RX8 cc nL dep lg ret Q n lo (.ref (G.2.2.1 127) :: st) μ) : V G l RX8 cc nL dep lg ret Q pc lo (.ref (G.2.2.1 125) :: st) μ := R_get (ci := 8) (j := 3) rfl inX8 (by decide) rfl tF_RX8_13 sh_125 rfl hdg hn k
theorem gf_X8_16 (hdg : decode cc pc = .ok (.getfield 16, 3)) (hn : pc + 3 = n) (k : V G l RX8 cc nL dep lg ret Q n lo (.ref (G.2.2.1 128) :: st) μ) : V G l RX8 cc nL dep lg ret Q pc lo (.ref (G.2.2.1 125) :: st) μ := R_get (ci := 8) (j := 4) rfl inX8 (by decide) rfl tF_RX8_16 sh_125 rfl hdg hn k
theorem gf_X8_19 (hdg : decode cc pc = .ok (.getfield 19, 3)) (hn : pc + 3 = n) (k : V G l RX8 cc nL dep lg ret Q n lo (.ref (G.2.2.1 129) :: st) μ) : V G l RX8 cc nL dep lg ret Q pc lo (.ref (G.2.2.1 125) :: st) μ := R_get (ci := 8) (j := 5) rfl inX8 (by decide) rfl tF_RX8_19 sh_125 rfl hdg hn k
theorem gf_X8_22 (hdg : decode cc pc = .ok (.getfield 22, 3)) (hn : pc + 3 = n) (k : V G l RX8 cc nL dep lg ret Q n lo (.ref (G.2.2.1 130) :: st) μ) : V G l RX8 cc nL dep lg ret Q pc lo (.ref (G.2.2.1 125) :: st) μ := R_get (ci := 8) (j := 6) rfl inX8 (by decide) rfl tF_RX8_22 sh_125 rfl hdg hn k
theorem gf_X8_69 (hdg : decode cc pc = .ok (.getfield 69, 3)) (hn : pc + 3 = n) (k : V G l RX8 cc nL dep lg ret Q n lo (.int (μ.1 125 7) :: st) μ) : V G l RX8 cc nL dep lg ret Q pc lo (.ref (G.2.2.1 125) :: st) μ := R_get (ci := 8) (j := 7) rfl inX8 (by decide) rfl tF_RX8_69 sh_125 rfl hdg hn k
theorem pf_X8_69 {x : Int32} (hdg : decode cc pc = .ok (.putfield 69, 3)) (hn : pc + 3 = n) (k : V G l RX8 cc nL dep lg ret Q n lo st (sti μ 125 7 x)) : V G l RX8 cc nL dep lg ret Q pc lo (.int x :: .ref (G.2.2.1 125) :: st) μ := R_put (ci := 8) (j := 7) rfl inX8 tyX8_ok nmX8 (by decide) rfl tF_RX8_69 rfl rfl sh_125 rfl hdg hn k
theorem gf_X8_72 (hdg : decode cc pc = .ok (.getfield 72, 3)) (hn : pc + 3 = n) (k : V G l RX8 cc nL dep lg ret Q n lo (.int (μ.1 125 8) :: st) μ) : V G l RX8 cc nL dep lg ret Q pc lo (.ref (G.2.2.1 125) :: st) μ := R_get (ci := 8) (j := 8) rfl inX8 (by decide) rfl tF_RX8_72 sh_125 rfl hdg hn k
theorem pf_X8_72 {x : Int32} (hdg : decode cc pc = .ok (.putfield 72, 3)) (hn : pc + 3 = n) (k : V G l RX8 cc nL dep lg ret Q n lo st (sti μ 125 8 x)) : V G l RX8 cc nL dep lg ret Q pc lo (.int x :: .ref (G.2.2.1 125) :: st) μ := R_put (ci := 8) (j := 8) rfl inX8 tyX8_ok nmX8 (by decide) rfl tF_RX8_72 rfl rfl sh_125 rfl hdg hn k
theorem gf_X8_25 (hdg : decode cc pc = .ok (.getfield 25, 3)) (hn : pc + 3 = n) (k : V G l RX8 cc nL dep lg ret Q n lo (.ref (G.2.2.1 131) :: st) μ) : V G l RX8 cc nL dep lg ret Q pc lo (.ref (G.2.2.1 125) :: st) μ := R_get (ci := 8) (j := 9) rfl inX8 (by decide) rfl tF_RX8_25 sh_125 rfl hdg hn k
theorem gf_X8_60 (hdg : decode cc pc = .ok (.getfield 60, 3)) (hn : pc + 3 = n) (k : V G l RX8 cc nL dep lg ret Q n lo (.int (μ.1 125 10) :: st) μ) : V G l RX8 cc nL dep lg ret Q pc lo (.ref (G.2.2.1 125) :: st) μ := R_get (ci := 8) (j := 10) rfl inX8 (by decide) rfl tF_RX8_60 sh_125 rfl hdg hn k
theorem pf_X8_60 {x : Int32} (hdg : decode cc pc = .ok (.putfield 60, 3)) (hn : pc + 3 = n) (k : V G l RX8 cc nL dep lg ret Q n lo st (sti μ 125 10 x)) : V G l RX8 cc nL dep lg ret Q pc lo (.int x :: .ref (G.2.2.1 125) :: st) μ := R_put (ci := 8) (j := 10) rfl inX8 tyX8_ok nmX8 (by decide) rfl tF_RX8_60 rfl rfl sh_125 rfl hdg hn k
theorem gf_X8_66 (hdg : decode cc pc = .ok (.getfield 66, 3)) (hn : pc + 3 = n) (k : V G l RX8 cc nL dep lg ret Q n lo (.int (μ.1 125 11) :: st) μ) : V G l RX8 cc nL dep lg ret Q pc lo (.ref (G.2.2.1 125) :: st) μ := R_get (ci := 8) (j := 11) rfl inX8 (by decide) rfl tF_RX8_66 sh_125 rfl hdg hn k
theorem pf_X8_66 {x : Int32} (hdg : decode cc pc = .ok (.putfield 66, 3)) (hn : pc + 3 = n) (k : V G l RX8 cc nL dep lg ret Q n lo st (sti μ 125 11 x)) : V G l RX8 cc nL dep lg ret Q pc lo (.int x :: .ref (G.2.2.1 125) :: st) μ := R_put (ci := 8) (j := 11) rfl inX8 tyX8_ok nmX8 (by decide) rfl tF_RX8_66 rfl rfl sh_125 rfl hdg hn k
theorem gf_X8_63 (hdg : decode cc pc = .ok (.getfield 63, 3)) (hn : pc + 3 = n) (k : V G l RX8 cc nL dep lg ret Q n lo (.int (μ.1 125 12) :: st) μ) : V G l RX8 cc nL dep lg ret Q pc lo (.ref (G.2.2.1 125) :: st) μ := R_get (ci := 8) (j := 12) rfl inX8 (by decide) rfl tF_RX8_63 sh_125 rfl hdg hn k
theorem pf_X8_63 {x : Int32} (hdg : decode cc pc = .ok (.putfield 63, 3)) (hn : pc + 3 = n) (k : V G l RX8 cc nL dep lg ret Q n lo st (sti μ 125 12 x)) : V G l RX8 cc nL dep lg ret Q pc lo (.int x :: .ref (G.2.2.1 125) :: st) μ := R_put (ci := 8) (j := 12) rfl inX8 tyX8_ok nmX8 (by decide) rfl tF_RX8_63 rfl rfl sh_125 rfl hdg hn k
theorem gf_X8_28 (hdg : decode cc pc = .ok (.getfield 28, 3)) (hn : pc + 3 = n) (k : V G l RX8 cc nL dep lg ret Q n lo (.ref (G.2.2.1 132) :: st) μ) : V G l RX8 cc nL dep lg ret Q pc lo (.ref (G.2.2.1 125) :: st) μ := R_get (ci := 8) (j := 13) rfl inX8 (by decide) rfl tF_RX8_28 sh_125 rfl hdg hn k
theorem gf_X8_86 (hdg : decode cc pc = .ok (.getfield 86, 3)) (hn : pc + 3 = n) (k : V G l RX8 cc nL dep lg ret Q n lo (.int (μ.1 125 14) :: st) μ) : V G l RX8 cc nL dep lg ret Q pc lo (.ref (G.2.2.1 125) :: st) μ := R_get (ci := 8) (j := 14) rfl inX8 (by decide) rfl tF_RX8_86 sh_125 rfl hdg hn k
theorem pf_X8_86 {x : Int32} (hdg : decode cc pc = .ok (.putfield 86, 3)) (hn : pc + 3 = n) (k : V G l RX8 cc nL dep lg ret Q n lo st (sti μ 125 14 x)) : V G l RX8 cc nL dep lg ret Q pc lo (.int x :: .ref (G.2.2.1 125) :: st) μ := R_put (ci := 8) (j := 14) rfl inX8 tyX8_ok nmX8 (by decide) rfl tF_RX8_86 rfl rfl sh_125 rfl hdg hn k
theorem gf_X8_111 (hdg : decode cc pc = .ok (.getfield 111, 3)) (hn : pc + 3 = n) (k : V G l RX8 cc nL dep lg ret Q n lo (.int (μ.1 125 15) :: st) μ) : V G l RX8 cc nL dep lg ret Q pc lo (.ref (G.2.2.1 125) :: st) μ := R_get (ci := 8) (j := 15) rfl inX8 (by decide) rfl tF_RX8_111 sh_125 rfl hdg hn k
theorem pf_X8_111 {x : Int32} (hdg : decode cc pc = .ok (.putfield 111, 3)) (hn : pc + 3 = n) (k : V G l RX8 cc nL dep lg ret Q n lo st (sti μ 125 15 x)) : V G l RX8 cc nL dep lg ret Q pc lo (.int x :: .ref (G.2.2.1 125) :: st) μ := R_put (ci := 8) (j := 15) rfl inX8 tyX8_ok nmX8 (by decide) rfl tF_RX8_111 rfl rfl sh_125 rfl hdg hn k
theorem gf_X8_31 (hdg : decode cc pc = .ok (.getfield 31, 3)) (hn : pc + 3 = n) (k : V G l RX8 cc nL dep lg ret Q n lo (.ref (G.2.2.1 133) :: st) μ) : V G l RX8 cc nL dep lg ret Q pc lo (.ref (G.2.2.1 125) :: st) μ := R_get (ci := 8) (j := 16) rfl inX8 (by decide) rfl tF_RX8_31 sh_125 rfl hdg hn k
theorem gf_X8_34 (hdg : decode cc pc = .ok (.getfield 34, 3)) (hn : pc + 3 = n) (k : V G l RX8 cc nL dep lg ret Q n lo (.ref (G.2.2.1 134) :: st) μ) : V G l RX8 cc nL dep lg ret Q pc lo (.ref (G.2.2.1 125) :: st) μ := R_get (ci := 8) (j := 17) rfl inX8 (by decide) rfl tF_RX8_34 sh_125 rfl hdg hn k
theorem gf_X8_37 (hdg : decode cc pc = .ok (.getfield 37, 3)) (hn : pc + 3 = n) (k : V G l RX8 cc nL dep lg ret Q n lo (.ref (G.2.2.1 135) :: st) μ) : V G l RX8 cc nL dep lg ret Q pc lo (.ref (G.2.2.1 125) :: st) μ := R_get (ci := 8) (j := 18) rfl inX8 (by decide) rfl tF_RX8_37 sh_125 rfl hdg hn k
theorem gf_X8_40 (hdg : decode cc pc = .ok (.getfield 40, 3)) (hn : pc + 3 = n) (k : V G l RX8 cc nL dep lg ret Q n lo (.ref (G.2.2.1 136) :: st) μ) : V G l RX8 cc nL dep lg ret Q pc lo (.ref (G.2.2.1 125) :: st) μ := R_get (ci := 8) (j := 19) rfl inX8 (by decide) rfl tF_RX8_40 sh_125 rfl hdg hn k
theorem gf_X8_187 (hdg : decode cc pc = .ok (.getfield 187, 3)) (hn : pc + 3 = n) (k : V G l RX8 cc nL dep lg ret Q n lo (.long (μ.2 125) :: st) μ) : V G l RX8 cc nL dep lg ret Q pc lo (.ref (G.2.2.1 125) :: st) μ := R_get (ci := 8) (j := 20) rfl inX8 (by decide) rfl tF_RX8_187 sh_125 rfl hdg hn k
theorem pf_X8_187 {x : Int64} (hdg : decode cc pc = .ok (.putfield 187, 3)) (hn : pc + 3 = n) (k : V G l RX8 cc nL dep lg ret Q n lo st (stl μ 125 x)) : V G l RX8 cc nL dep lg ret Q pc lo (.long x :: .ref (G.2.2.1 125) :: st) μ := R_putl (ci := 8) (j := 20) rfl inX8 tyX8_ok nmX8 (by decide) rfl tF_RX8_187 rfl rfl sh_125 rfl (one_long 23 20 _ rfl (by decide)) hdg hn k
theorem gf_X8_43 (hdg : decode cc pc = .ok (.getfield 43, 3)) (hn : pc + 3 = n) (k : V G l RX8 cc nL dep lg ret Q n lo (.ref (G.2.2.1 137) :: st) μ) : V G l RX8 cc nL dep lg ret Q pc lo (.ref (G.2.2.1 125) :: st) μ := R_get (ci := 8) (j := 21) rfl inX8 (by decide) rfl tF_RX8_43 sh_125 rfl hdg hn k
theorem gf_X8_47 (hdg : decode cc pc = .ok (.getfield 47, 3)) (hn : pc + 3 = n) (k : V G l RX8 cc nL dep lg ret Q n lo (.ref (G.2.2.1 138) :: st) μ) : V G l RX8 cc nL dep lg ret Q pc lo (.ref (G.2.2.1 125) :: st) μ := R_get (ci := 8) (j := 22) rfl inX8 (by decide) rfl tF_RX8_47 sh_125 rfl hdg hn k
theorem ok_yX7_write : okY yX7_write 1 := ⟨by decide +kernel, by decide +kernel, by decide +kernel⟩
theorem iv_L_13 {dep' : Nat} {Qy : Option Value → Mem → Prop} {rest : List Value} {a0 : Value} (hct : Ct G l dep' yX7_write cX7_write 2 (Option.some Jvm.ClassFile.FieldType.int) [Value.ref (G.2.2.1 0), a0] μ Qy) (hd : dep' < dep) (hdg : decode cc pc = .ok (.invokevirtual 13, 3)) (hn : pc + 3 = n) (hrest : (rest.map fun v => v.category).sum ≤ 8) (k : ∀ (r : Option Value) (μ' : Mem), Qy r μ' → V G l RL cc nL dep lg ret Q n lo (r.toList ++ rest) μ') : V G l RL cc nL dep lg ret Q pc lo (a0 :: .ref (G.2.2.1 0) :: rest) μ := R_callV (ci := 7) (id := 0) (As := [a0]) hct hd (by decide) rfl tM_RL_13 tI_yX7_write tS_yX7_write tN_RX7 tC_yX7_write ok_yX7_write rfl rfl sh_0 rfl hrest hdg hn k
theorem ok_yX6_append : okY yX6_append 1 := ⟨by decide +kernel, by decide +kernel, by decide +kernel⟩
theorem iv_X7_55 {dep' : Nat} {Qy : Option Value → Mem → Prop} {rest : List Value} {a0 : Value} (hct : Ct G l dep' yX6_append cX6_append 2 (Option.none : Option Jvm.ClassFile.FieldType) [Value.ref (G.2.2.1 1), a0] μ Qy) (hd : dep' < dep) (hdg : decode cc pc = .ok (.invokevirtual 55, 3)) (hn : pc + 3 = n) (hrest : (rest.map fun v => v.category).sum ≤ 8) (k : ∀ (r : Option Value) (μ' : Mem), Qy r μ' → V G l RX7 cc nL dep lg ret Q n lo (r.toList ++ rest) μ') : V G l RX7 cc nL dep lg ret Q pc lo (a0 :: .ref (G.2.2.1 1) :: rest) μ := R_callV (ci := 6) (id := 1) (As := [a0]) hct hd (by decide) rfl tM_RX7_55 tI_yX6_append tS_yX6_append tN_RX6 tC_yX6_append ok_yX6_append rfl rfl sh_1 rfl hrest hdg hn k
theorem ok_yX7_wipe : okY yX7_wipe 0 := ⟨by decide +kernel, by decide +kernel, by decide +kernel⟩
theorem iv_L_18 {dep' : Nat} {Qy : Option Value → Mem → Prop} {rest : List Value} (hct : Ct G l dep' yX7_wipe cX7_wipe 2 (Option.some Jvm.ClassFile.FieldType.int) [Value.ref (G.2.2.1 0)] μ Qy) (hd : dep' < dep) (hdg : decode cc pc = .ok (.invokevirtual 18, 3)) (hn : pc + 3 = n) (hrest : (rest.map fun v => v.category).sum ≤ 8) (k : ∀ (r : Option Value) (μ' : Mem), Qy r μ' → V G l RL cc nL dep lg ret Q n lo (r.toList ++ rest) μ') : V G l RL cc nL dep lg ret Q pc lo (.ref (G.2.2.1 0) :: rest) μ := R_callV (ci := 7) (id := 0) (As := []) hct hd (by decide) rfl tM_RL_18 tI_yX7_wipe tS_yX7_wipe tN_RX7 tC_yX7_wipe ok_yX7_wipe rfl rfl sh_0 rfl hrest hdg hn k
theorem ok_yX7_fault : okY yX7_fault 0 := ⟨by decide +kernel, by decide +kernel, by decide +kernel⟩
theorem iv_L_23 {dep' : Nat} {Qy : Option Value → Mem → Prop} {rest : List Value} (hct : Ct G l dep' yX7_fault cX7_fault 1 (Option.some Jvm.ClassFile.FieldType.int) [Value.ref (G.2.2.1 0)] μ Qy) (hd : dep' < dep) (hdg : decode cc pc = .ok (.invokevirtual 23, 3)) (hn : pc + 3 = n) (hrest : (rest.map fun v => v.category).sum ≤ 8) (k : ∀ (r : Option Value) (μ' : Mem), Qy r μ' → V G l RL cc nL dep lg ret Q n lo (r.toList ++ rest) μ') : V G l RL cc nL dep lg ret Q pc lo (.ref (G.2.2.1 0) :: rest) μ := R_callV (ci := 7) (id := 0) (As := []) hct hd (by decide) rfl tM_RL_23 tI_yX7_fault tS_yX7_fault tN_RX7 tC_yX7_fault ok_yX7_fault rfl rfl sh_0 rfl hrest hdg hn k
theorem ok_yX6_faultPlace : okY yX6_faultPlace 0 := ⟨by decide +kernel, by decide +kernel, by decide +kernel⟩
theorem iv_X7_59 {dep' : Nat} {Qy : Option Value → Mem → Prop} {rest : List Value} (hct : Ct G l dep' yX6_faultPlace cX6_faultPlace 6 (Option.some Jvm.ClassFile.FieldType.int) [Value.ref (G.2.2.1 1)] μ Qy) (hd : dep' < dep) (hdg : decode cc pc = .ok (.invokevirtual 59, 3)) (hn : pc + 3 = n) (hrest : (rest.map fun v => v.category).sum ≤ 8) (k : ∀ (r : Option Value) (μ' : Mem), Qy r μ' → V G l RX7 cc nL dep lg ret Q n lo (r.toList ++ rest) μ') : V G l RX7 cc nL dep lg ret Q pc lo (.ref (G.2.2.1 1) :: rest) μ := R_callV (ci := 6) (id := 1) (As := []) hct hd (by decide) rfl tM_RX7_59 tI_yX6_faultPlace tS_yX6_faultPlace tN_RX6 tC_yX6_faultPlace ok_yX6_faultPlace rfl rfl sh_1 rfl hrest hdg hn k
theorem ok_yX6_dueBehind : okY yX6_dueBehind 2 := ⟨by decide +kernel, by decide +kernel, by decide +kernel⟩
theorem iv_X6_19 {dep' : Nat} {Qy : Option Value → Mem → Prop} {rest : List Value} {a0 a1 : Value} (hct : Ct G l dep' yX6_dueBehind cX6_dueBehind 2 (Option.some Jvm.ClassFile.FieldType.int) [a0, a1] μ Qy) (hd : dep' < dep) (hdg : decode cc pc = .ok (.invokestatic 19, 3)) (hn : pc + 3 = n) (hrest : (rest.map fun v => v.category).sum ≤ 8) (k : ∀ (r : Option Value) (μ' : Mem), Qy r μ' → V G l RX6 cc nL dep lg ret Q n lo (r.toList ++ rest) μ') : V G l RX6 cc nL dep lg ret Q pc lo (a1 :: a0 :: rest) μ := R_callS hct hd (by decide) tM_RX6_19 tT_yX6_dueBehind tN_RX6 tC_yX6_dueBehind ok_yX6_dueBehind rfl rfl hrest hdg hn k
theorem ok_yX7_canal : okY yX7_canal 0 := ⟨by decide +kernel, by decide +kernel, by decide +kernel⟩
theorem iv_L_27 {dep' : Nat} {Qy : Option Value → Mem → Prop} {rest : List Value} (hct : Ct G l dep' yX7_canal cX7_canal 1 (Option.some Jvm.ClassFile.FieldType.int) [Value.ref (G.2.2.1 0)] μ Qy) (hd : dep' < dep) (hdg : decode cc pc = .ok (.invokevirtual 27, 3)) (hn : pc + 3 = n) (hrest : (rest.map fun v => v.category).sum ≤ 8) (k : ∀ (r : Option Value) (μ' : Mem), Qy r μ' → V G l RL cc nL dep lg ret Q n lo (r.toList ++ rest) μ') : V G l RL cc nL dep lg ret Q pc lo (.ref (G.2.2.1 0) :: rest) μ := R_callV (ci := 7) (id := 0) (As := []) hct hd (by decide) rfl tM_RL_27 tI_yX7_canal tS_yX7_canal tN_RX7 tC_yX7_canal ok_yX7_canal rfl rfl sh_0 rfl hrest hdg hn k
theorem ok_yX1_makeFrom : okY yX1_makeFrom 1 := ⟨by decide +kernel, by decide +kernel, by decide +kernel⟩
theorem iv_X7_63 {dep' : Nat} {Qy : Option Value → Mem → Prop} {rest : List Value} {a0 : Value} (hct : Ct G l dep' yX1_makeFrom cX1_makeFrom 4 (Option.none : Option Jvm.ClassFile.FieldType) [Value.ref (G.2.2.1 3), a0] μ Qy) (hd : dep' < dep) (hdg : decode cc pc = .ok (.invokevirtual 63, 3)) (hn : pc + 3 = n) (hrest : (rest.map fun v => v.category).sum ≤ 8) (k : ∀ (r : Option Value) (μ' : Mem), Qy r μ' → V G l RX7 cc nL dep lg ret Q n lo (r.toList ++ rest) μ') : V G l RX7 cc nL dep lg ret Q pc lo (a0 :: .ref (G.2.2.1 3) :: rest) μ := R_callV (ci := 1) (id := 3) (As := [a0]) hct hd (by decide) rfl tM_RX7_63 tI_yX1_makeFrom tS_yX1_makeFrom tN_RX1 tC_yX1_makeFrom ok_yX1_makeFrom rfl rfl sh_3 rfl hrest hdg hn k
theorem ok_yX5_clearAll : okY yX5_clearAll 0 := ⟨by decide +kernel, by decide +kernel, by decide +kernel⟩
theorem iv_X1_35 {dep' : Nat} {Qy : Option Value → Mem → Prop} {rest : List Value} {id : Nat} (hct : Ct G l dep' yX5_clearAll cX5_clearAll 2 (Option.none : Option Jvm.ClassFile.FieldType) [Value.ref (G.2.2.1 id)] μ Qy) (hs : StB id) (hd : dep' < dep) (hdg : decode cc pc = .ok (.invokevirtual 35, 3)) (hn : pc + 3 = n) (hrest : (rest.map fun v => v.category).sum ≤ 8) (k : ∀ (r : Option Value) (μ' : Mem), Qy r μ' → V G l RX1 cc nL dep lg ret Q n lo (r.toList ++ rest) μ') : V G l RX1 cc nL dep lg ret Q pc lo (.ref (G.2.2.1 id) :: rest) μ := R_callV (ci := 5) (id := id) (As := []) hct hd (by decide) rfl tM_RX1_35 tI_yX5_clearAll tS_yX5_clearAll tN_RX5 tC_yX5_clearAll ok_yX5_clearAll rfl rfl hs.1 rfl hrest hdg hn k
theorem ok_yX5_clearHours : okY yX5_clearHours 0 := ⟨by decide +kernel, by decide +kernel, by decide +kernel⟩
theorem iv_X5_40 {dep' : Nat} {Qy : Option Value → Mem → Prop} {rest : List Value} {id : Nat} (hct : Ct G l dep' yX5_clearHours cX5_clearHours 2 (Option.none : Option Jvm.ClassFile.FieldType) [Value.ref (G.2.2.1 id)] μ Qy) (hs : StB id) (hd : dep' < dep) (hdg : decode cc pc = .ok (.invokevirtual 40, 3)) (hn : pc + 3 = n) (hrest : (rest.map fun v => v.category).sum ≤ 8) (k : ∀ (r : Option Value) (μ' : Mem), Qy r μ' → V G l RX5 cc nL dep lg ret Q n lo (r.toList ++ rest) μ') : V G l RX5 cc nL dep lg ret Q pc lo (.ref (G.2.2.1 id) :: rest) μ := R_callV (ci := 5) (id := id) (As := []) hct hd (by decide) rfl tM_RX5_40 tI_yX5_clearHours tS_yX5_clearHours tN_RX5 tC_yX5_clearHours ok_yX5_clearHours rfl rfl hs.1 rfl hrest hdg hn k
theorem ok_yX6_figureAt : okY yX6_figureAt 1 := ⟨by decide +kernel, by decide +kernel, by decide +kernel⟩
theorem iv_X1_49 {dep' : Nat} {Qy : Option Value → Mem → Prop} {rest : List Value} {a0 : Value} (hct : Ct G l dep' yX6_figureAt cX6_figureAt 2 (Option.some Jvm.ClassFile.FieldType.int) [Value.ref (G.2.2.1 1), a0] μ Qy) (hd : dep' < dep) (hdg : decode cc pc = .ok (.invokevirtual 49, 3)) (hn : pc + 3 = n) (hrest : (rest.map fun v => v.category).sum ≤ 8) (k : ∀ (r : Option Value) (μ' : Mem), Qy r μ' → V G l RX1 cc nL dep lg ret Q n lo (r.toList ++ rest) μ') : V G l RX1 cc nL dep lg ret Q pc lo (a0 :: .ref (G.2.2.1 1) :: rest) μ := R_callV (ci := 6) (id := 1) (As := [a0]) hct hd (by decide) rfl tM_RX1_49 tI_yX6_figureAt tS_yX6_figureAt tN_RX6 tC_yX6_figureAt ok_yX6_figureAt rfl rfl sh_1 rfl hrest hdg hn k
theorem ok_yX0_forgetAll : okY yX0_forgetAll 0 := ⟨by decide +kernel, by decide +kernel, by decide +kernel⟩
theorem iv_X7_67 {dep' : Nat} {Qy : Option Value → Mem → Prop} {rest : List Value} (hct : Ct G l dep' yX0_forgetAll cX0_forgetAll 1 (Option.none : Option Jvm.ClassFile.FieldType) [Value.ref (G.2.2.1 18)] μ Qy) (hd : dep' < dep) (hdg : decode cc pc = .ok (.invokevirtual 67, 3)) (hn : pc + 3 = n) (hrest : (rest.map fun v => v.category).sum ≤ 8) (k : ∀ (r : Option Value) (μ' : Mem), Qy r μ' → V G l RX7 cc nL dep lg ret Q n lo (r.toList ++ rest) μ') : V G l RX7 cc nL dep lg ret Q pc lo (.ref (G.2.2.1 18) :: rest) μ := R_callV (ci := 0) (id := 18) (As := []) hct hd (by decide) rfl tM_RX7_67 tI_yX0_forgetAll tS_yX0_forgetAll tN_RX0 tC_yX0_forgetAll ok_yX0_forgetAll rfl rfl sh_18 rfl hrest hdg hn k
theorem ok_yX4_forgetAll : okY yX4_forgetAll 0 := ⟨by decide +kernel, by decide +kernel, by decide +kernel⟩
theorem iv_X7_70 {dep' : Nat} {Qy : Option Value → Mem → Prop} {rest : List Value} (hct : Ct G l dep' yX4_forgetAll cX4_forgetAll 2 (Option.none : Option Jvm.ClassFile.FieldType) [Value.ref (G.2.2.1 104)] μ Qy) (hd : dep' < dep) (hdg : decode cc pc = .ok (.invokevirtual 70, 3)) (hn : pc + 3 = n) (hrest : (rest.map fun v => v.category).sum ≤ 8) (k : ∀ (r : Option Value) (μ' : Mem), Qy r μ' → V G l RX7 cc nL dep lg ret Q n lo (r.toList ++ rest) μ') : V G l RX7 cc nL dep lg ret Q pc lo (.ref (G.2.2.1 104) :: rest) μ := R_callV (ci := 4) (id := 104) (As := []) hct hd (by decide) rfl tM_RX7_70 tI_yX4_forgetAll tS_yX4_forgetAll tN_RX4 tC_yX4_forgetAll ok_yX4_forgetAll rfl rfl sh_104 rfl hrest hdg hn k
theorem ok_yX7_barge : okY yX7_barge 2 := ⟨by decide +kernel, by decide +kernel, by decide +kernel⟩
theorem iv_L_31 {dep' : Nat} {Qy : Option Value → Mem → Prop} {rest : List Value} {a0 a1 : Value} (hct : Ct G l dep' yX7_barge cX7_barge 3 (Option.some Jvm.ClassFile.FieldType.int) [Value.ref (G.2.2.1 0), a0, a1] μ Qy) (hd : dep' < dep) (hdg : decode cc pc = .ok (.invokevirtual 31, 3)) (hn : pc + 3 = n) (hrest : (rest.map fun v => v.category).sum ≤ 8) (k : ∀ (r : Option Value) (μ' : Mem), Qy r μ' → V G l RL cc nL dep lg ret Q n lo (r.toList ++ rest) μ') : V G l RL cc nL dep lg ret Q pc lo (a1 :: a0 :: .ref (G.2.2.1 0) :: rest) μ := R_callV (ci := 7) (id := 0) (As := [a0, a1]) hct hd (by decide) rfl tM_RL_31 tI_yX7_barge tS_yX7_barge tN_RX7 tC_yX7_barge ok_yX7_barge rfl rfl sh_0 rfl hrest hdg hn k
theorem ok_yX1_hasBarge : okY yX1_hasBarge 1 := ⟨by decide +kernel, by decide +kernel, by decide +kernel⟩
theorem iv_X7_77 {dep' : Nat} {Qy : Option Value → Mem → Prop} {rest : List Value} {a0 : Value} (hct : Ct G l dep' yX1_hasBarge cX1_hasBarge 2 (Option.some Jvm.ClassFile.FieldType.boolean) [Value.ref (G.2.2.1 3), a0] μ Qy) (hd : dep' < dep) (hdg : decode cc pc = .ok (.invokevirtual 77, 3)) (hn : pc + 3 = n) (hrest : (rest.map fun v => v.category).sum ≤ 8) (k : ∀ (r : Option Value) (μ' : Mem), Qy r μ' → V G l RX7 cc nL dep lg ret Q n lo (r.toList ++ rest) μ') : V G l RX7 cc nL dep lg ret Q pc lo (a0 :: .ref (G.2.2.1 3) :: rest) μ := R_callV (ci := 1) (id := 3) (As := [a0]) hct hd (by decide) rfl tM_RX7_77 tI_yX1_hasBarge tS_yX1_hasBarge tN_RX1 tC_yX1_hasBarge ok_yX1_hasBarge rfl rfl sh_3 rfl hrest hdg hn k
theorem ok_yX5_placeOf : okY yX5_placeOf 1 := ⟨by decide +kernel, by decide +kernel, by decide +kernel⟩
theorem iv_X7_97 {dep' : Nat} {Qy : Option Value → Mem → Prop} {rest : List Value} {a0 : Value} {id : Nat} (hct : Ct G l dep' yX5_placeOf cX5_placeOf 3 (Option.some Jvm.ClassFile.FieldType.int) [Value.ref (G.2.2.1 id), a0] μ Qy) (hs : StB id) (hd : dep' < dep) (hdg : decode cc pc = .ok (.invokevirtual 97, 3)) (hn : pc + 3 = n) (hrest : (rest.map fun v => v.category).sum ≤ 8) (k : ∀ (r : Option Value) (μ' : Mem), Qy r μ' → V G l RX7 cc nL dep lg ret Q n lo (r.toList ++ rest) μ') : V G l RX7 cc nL dep lg ret Q pc lo (a0 :: .ref (G.2.2.1 id) :: rest) μ := R_callV (ci := 5) (id := id) (As := [a0]) hct hd (by decide) rfl tM_RX7_97 tI_yX5_placeOf tS_yX5_placeOf tN_RX5 tC_yX5_placeOf ok_yX5_placeOf rfl rfl hs.1 rfl hrest hdg hn k
theorem ok_yX7_lock : okY yX7_lock 2 := ⟨by decide +kernel, by decide +kernel, by decide +kernel⟩
theorem iv_L_36 {dep' : Nat} {Qy : Option Value → Mem → Prop} {rest : List Value} {a0 a1 : Value} (hct : Ct G l dep' yX7_lock cX7_lock 3 (Option.some Jvm.ClassFile.FieldType.int) [Value.ref (G.2.2.1 0), a0, a1] μ Qy) (hd : dep' < dep) (hdg : decode cc pc = .ok (.invokevirtual 36, 3)) (hn : pc + 3 = n) (hrest : (rest.map fun v => v.category).sum ≤ 8) (k : ∀ (r : Option Value) (μ' : Mem), Qy r μ' → V G l RL cc nL dep lg ret Q n lo (r.toList ++ rest) μ') : V G l RL cc nL dep lg ret Q pc lo (a1 :: a0 :: .ref (G.2.2.1 0) :: rest) μ := R_callV (ci := 7) (id := 0) (As := [a0, a1]) hct hd (by decide) rfl tM_RL_36 tI_yX7_lock tS_yX7_lock tN_RX7 tC_yX7_lock ok_yX7_lock rfl rfl sh_0 rfl hrest hdg hn k
theorem ok_yX1_hasLock : okY yX1_hasLock 1 := ⟨by decide +kernel, by decide +kernel, by decide +kernel⟩
theorem iv_X7_104 {dep' : Nat} {Qy : Option Value → Mem → Prop} {rest : List Value} {a0 : Value} (hct : Ct G l dep' yX1_hasLock cX1_hasLock 2 (Option.some Jvm.ClassFile.FieldType.boolean) [Value.ref (G.2.2.1 3), a0] μ Qy) (hd : dep' < dep) (hdg : decode cc pc = .ok (.invokevirtual 104, 3)) (hn : pc + 3 = n) (hrest : (rest.map fun v => v.category).sum ≤ 8) (k : ∀ (r : Option Value) (μ' : Mem), Qy r μ' → V G l RX7 cc nL dep lg ret Q n lo (r.toList ++ rest) μ') : V G l RX7 cc nL dep lg ret Q pc lo (a0 :: .ref (G.2.2.1 3) :: rest) μ := R_callV (ci := 1) (id := 3) (As := [a0]) hct hd (by decide) rfl tM_RX7_104 tI_yX1_hasLock tS_yX1_hasLock tN_RX1 tC_yX1_hasLock ok_yX1_hasLock rfl rfl sh_3 rfl hrest hdg hn k
theorem ok_yX1_isPassed : okY yX1_isPassed 1 := ⟨by decide +kernel, by decide +kernel, by decide +kernel⟩
theorem iv_X7_110 {dep' : Nat} {Qy : Option Value → Mem → Prop} {rest : List Value} {a0 : Value} (hct : Ct G l dep' yX1_isPassed cX1_isPassed 2 (Option.some Jvm.ClassFile.FieldType.boolean) [Value.ref (G.2.2.1 3), a0] μ Qy) (hd : dep' < dep) (hdg : decode cc pc = .ok (.invokevirtual 110, 3)) (hn : pc + 3 = n) (hrest : (rest.map fun v => v.category).sum ≤ 8) (k : ∀ (r : Option Value) (μ' : Mem), Qy r μ' → V G l RX7 cc nL dep lg ret Q n lo (r.toList ++ rest) μ') : V G l RX7 cc nL dep lg ret Q pc lo (a0 :: .ref (G.2.2.1 3) :: rest) μ := R_callV (ci := 1) (id := 3) (As := [a0]) hct hd (by decide) rfl tM_RX7_110 tI_yX1_isPassed tS_yX1_isPassed tN_RX1 tC_yX1_isPassed ok_yX1_isPassed rfl rfl sh_3 rfl hrest hdg hn k
theorem ok_yX5_loadsAt : okY yX5_loadsAt 1 := ⟨by decide +kernel, by decide +kernel, by decide +kernel⟩
theorem iv_X7_113 {dep' : Nat} {Qy : Option Value → Mem → Prop} {rest : List Value} {a0 : Value} {id : Nat} (hct : Ct G l dep' yX5_loadsAt cX5_loadsAt 4 (Option.some Jvm.ClassFile.FieldType.int) [Value.ref (G.2.2.1 id), a0] μ Qy) (hs : StB id) (hd : dep' < dep) (hdg : decode cc pc = .ok (.invokevirtual 113, 3)) (hn : pc + 3 = n) (hrest : (rest.map fun v => v.category).sum ≤ 8) (k : ∀ (r : Option Value) (μ' : Mem), Qy r μ' → V G l RX7 cc nL dep lg ret Q n lo (r.toList ++ rest) μ') : V G l RX7 cc nL dep lg ret Q pc lo (a0 :: .ref (G.2.2.1 id) :: rest) μ := R_callV (ci := 5) (id := id) (As := [a0]) hct hd (by decide) rfl tM_RX7_113 tI_yX5_loadsAt tS_yX5_loadsAt tN_RX5 tC_yX5_loadsAt ok_yX5_loadsAt rfl rfl hs.1 rfl hrest hdg hn k
theorem ok_yX5_loadsOf : okY yX5_loadsOf 2 := ⟨by decide +kernel, by decide +kernel, by decide +kernel⟩
theorem iv_X5_49 {dep' : Nat} {Qy : Option Value → Mem → Prop} {rest : List Value} {a0 a1 : Value} {id : Nat} (hct : Ct G l dep' yX5_loadsOf cX5_loadsOf 3 (Option.some Jvm.ClassFile.FieldType.int) [Value.ref (G.2.2.1 id), a0, a1] μ Qy) (hs : StB id) (hd : dep' < dep) (hdg : decode cc pc = .ok (.invokevirtual 49, 3)) (hn : pc + 3 = n) (hrest : (rest.map fun v => v.category).sum ≤ 8) (k : ∀ (r : Option Value) (μ' : Mem), Qy r μ' → V G l RX5 cc nL dep lg ret Q n lo (r.toList ++ rest) μ') : V G l RX5 cc nL dep lg ret Q pc lo (a1 :: a0 :: .ref (G.2.2.1 id) :: rest) μ := R_callV (ci := 5) (id := id) (As := [a0, a1]) hct hd (by decide) rfl tM_RX5_49 tI_yX5_loadsOf tS_yX5_loadsOf tN_RX5 tC_yX5_loadsOf ok_yX5_loadsOf rfl rfl hs.1 rfl hrest hdg hn k
theorem ok_yX7_pass : okY yX7_pass 0 := ⟨by decide +kernel, by decide +kernel, by decide +kernel⟩
theorem iv_L_40 {dep' : Nat} {Qy : Option Value → Mem → Prop} {rest : List Value} (hct : Ct G l dep' yX7_pass cX7_pass 1 (Option.some Jvm.ClassFile.FieldType.int) [Value.ref (G.2.2.1 0)] μ Qy) (hd : dep' < dep) (hdg : decode cc pc = .ok (.invokevirtual 40, 3)) (hn : pc + 3 = n) (hrest : (rest.map fun v => v.category).sum ≤ 8) (k : ∀ (r : Option Value) (μ' : Mem), Qy r μ' → V G l RL cc nL dep lg ret Q n lo (r.toList ++ rest) μ') : V G l RL cc nL dep lg ret Q pc lo (.ref (G.2.2.1 0) :: rest) μ := R_callV (ci := 7) (id := 0) (As := []) hct hd (by decide) rfl tM_RL_40 tI_yX7_pass tS_yX7_pass tN_RX7 tC_yX7_pass ok_yX7_pass rfl rfl sh_0 rfl hrest hdg hn k
theorem ok_yX1_locksLeft : okY yX1_locksLeft 0 := ⟨by decide +kernel, by decide +kernel, by decide +kernel⟩
theorem iv_X7_116 {dep' : Nat} {Qy : Option Value → Mem → Prop} {rest : List Value} (hct : Ct G l dep' yX1_locksLeft cX1_locksLeft 1 (Option.some Jvm.ClassFile.FieldType.int) [Value.ref (G.2.2.1 3)] μ Qy) (hd : dep' < dep) (hdg : decode cc pc = .ok (.invokevirtual 116, 3)) (hn : pc + 3 = n) (hrest : (rest.map fun v => v.category).sum ≤ 8) (k : ∀ (r : Option Value) (μ' : Mem), Qy r μ' → V G l RX7 cc nL dep lg ret Q n lo (r.toList ++ rest) μ') : V G l RX7 cc nL dep lg ret Q pc lo (.ref (G.2.2.1 3) :: rest) μ := R_callV (ci := 1) (id := 3) (As := []) hct hd (by decide) rfl tM_RX7_116 tI_yX1_locksLeft tS_yX1_locksLeft tN_RX1 tC_yX1_locksLeft ok_yX1_locksLeft rfl rfl sh_3 rfl hrest hdg hn k
theorem ok_yX0_remember : okY yX0_remember 1 := ⟨by decide +kernel, by decide +kernel, by decide +kernel⟩
theorem iv_X7_119 {dep' : Nat} {Qy : Option Value → Mem → Prop} {rest : List Value} {a0 : Value} (hct : Ct G l dep' yX0_remember cX0_remember 2 (Option.none : Option Jvm.ClassFile.FieldType) [Value.ref (G.2.2.1 18), a0] μ Qy) (hd : dep' < dep) (hdg : decode cc pc = .ok (.invokevirtual 119, 3)) (hn : pc + 3 = n) (hrest : (rest.map fun v => v.category).sum ≤ 8) (k : ∀ (r : Option Value) (μ' : Mem), Qy r μ' → V G l RX7 cc nL dep lg ret Q n lo (r.toList ++ rest) μ') : V G l RX7 cc nL dep lg ret Q pc lo (a0 :: .ref (G.2.2.1 18) :: rest) μ := R_callV (ci := 0) (id := 18) (As := [a0]) hct hd (by decide) rfl tM_RX7_119 tI_yX0_remember tS_yX0_remember tN_RX0 tC_yX0_remember ok_yX0_remember rfl rfl sh_18 rfl hrest hdg hn k
theorem ok_yX5_copyFrom : okY yX5_copyFrom 1 := ⟨by decide +kernel, by decide +kernel, by decide +kernel⟩
theorem iv_X0_25 {dep' : Nat} {Qy : Option Value → Mem → Prop} {rest : List Value} {a0 : Value} {id : Nat} (hct : Ct G l dep' yX5_copyFrom cX5_copyFrom 2 (Option.none : Option Jvm.ClassFile.FieldType) [Value.ref (G.2.2.1 id), a0] μ Qy) (hs : StB id) (hd : dep' < dep) (hdg : decode cc pc = .ok (.invokevirtual 25, 3)) (hn : pc + 3 = n) (hrest : (rest.map fun v => v.category).sum ≤ 8) (k : ∀ (r : Option Value) (μ' : Mem), Qy r μ' → V G l RX0 cc nL dep lg ret Q n lo (r.toList ++ rest) μ') : V G l RX0 cc nL dep lg ret Q pc lo (a0 :: .ref (G.2.2.1 id) :: rest) μ := R_callV (ci := 5) (id := id) (As := [a0]) hct hd (by decide) rfl tM_RX0_25 tI_yX5_copyFrom tS_yX5_copyFrom tN_RX5 tC_yX5_copyFrom ok_yX5_copyFrom rfl rfl hs.1 rfl hrest hdg hn k
theorem ok_yX1_goThroughNext : okY yX1_goThroughNext 1 := ⟨by decide +kernel, by decide +kernel, by decide +kernel⟩
theorem iv_X7_123 {dep' : Nat} {Qy : Option Value → Mem → Prop} {rest : List Value} {a0 : Value} (hct : Ct G l dep' yX1_goThroughNext cX1_goThroughNext 8 (Option.none : Option Jvm.ClassFile.FieldType) [Value.ref (G.2.2.1 3), a0] μ Qy) (hd : dep' < dep) (hdg : decode cc pc = .ok (.invokevirtual 123, 3)) (hn : pc + 3 = n) (hrest : (rest.map fun v => v.category).sum ≤ 8) (k : ∀ (r : Option Value) (μ' : Mem), Qy r μ' → V G l RX7 cc nL dep lg ret Q n lo (r.toList ++ rest) μ') : V G l RX7 cc nL dep lg ret Q pc lo (a0 :: .ref (G.2.2.1 3) :: rest) μ := R_callV (ci := 1) (id := 3) (As := [a0]) hct hd (by decide) rfl tM_RX7_123 tI_yX1_goThroughNext tS_yX1_goThroughNext tN_RX1 tC_yX1_goThroughNext ok_yX1_goThroughNext rfl rfl sh_3 rfl hrest hdg hn k
theorem iv_X1_80 {dep' : Nat} {Qy : Option Value → Mem → Prop} {rest : List Value} {a0 : Value} (hct : Ct G l dep' yX1_hasLock cX1_hasLock 2 (Option.some Jvm.ClassFile.FieldType.boolean) [Value.ref (G.2.2.1 3), a0] μ Qy) (hd : dep' < dep) (hdg : decode cc pc = .ok (.invokevirtual 80, 3)) (hn : pc + 3 = n) (hrest : (rest.map fun v => v.category).sum ≤ 8) (k : ∀ (r : Option Value) (μ' : Mem), Qy r μ' → V G l RX1 cc nL dep lg ret Q n lo (r.toList ++ rest) μ') : V G l RX1 cc nL dep lg ret Q pc lo (a0 :: .ref (G.2.2.1 3) :: rest) μ := R_callV (ci := 1) (id := 3) (As := [a0]) hct hd (by decide) rfl tM_RX1_80 tI_yX1_hasLock tS_yX1_hasLock tN_RX1 tC_yX1_hasLock ok_yX1_hasLock rfl rfl sh_3 rfl hrest hdg hn k
theorem ok_yX1_holdsTwo : okY yX1_holdsTwo 2 := ⟨by decide +kernel, by decide +kernel, by decide +kernel⟩
theorem iv_X1_84 {dep' : Nat} {Qy : Option Value → Mem → Prop} {rest : List Value} {a0 a1 : Value} (hct : Ct G l dep' yX1_holdsTwo cX1_holdsTwo 3 (Option.some Jvm.ClassFile.FieldType.boolean) [Value.ref (G.2.2.1 3), a0, a1] μ Qy) (hd : dep' < dep) (hdg : decode cc pc = .ok (.invokevirtual 84, 3)) (hn : pc + 3 = n) (hrest : (rest.map fun v => v.category).sum ≤ 8) (k : ∀ (r : Option Value) (μ' : Mem), Qy r μ' → V G l RX1 cc nL dep lg ret Q n lo (r.toList ++ rest) μ') : V G l RX1 cc nL dep lg ret Q pc lo (a1 :: a0 :: .ref (G.2.2.1 3) :: rest) μ := R_callV (ci := 1) (id := 3) (As := [a0, a1]) hct hd (by decide) rfl tM_RX1_84 tI_yX1_holdsTwo tS_yX1_holdsTwo tN_RX1 tC_yX1_holdsTwo ok_yX1_holdsTwo rfl rfl sh_3 rfl hrest hdg hn k
theorem ok_yJ9_max_7cf53 : okY yJ9_max_7cf53 2 := ⟨by decide +kernel, by decide +kernel, by decide +kernel⟩
theorem iv_X1_91 {dep' : Nat} {Qy : Option Value → Mem → Prop} {rest : List Value} {a0 a1 : Value} (hct : Ct G l dep' yJ9_max_7cf53 cJ9_max_7cf53 2 (Option.some Jvm.ClassFile.FieldType.int) [a0, a1] μ Qy) (hd : dep' < dep) (hdg : decode cc pc = .ok (.invokestatic 91, 3)) (hn : pc + 3 = n) (hrest : (rest.map fun v => v.category).sum ≤ 8) (k : ∀ (r : Option Value) (μ' : Mem), Qy r μ' → V G l RX1 cc nL dep lg ret Q n lo (r.toList ++ rest) μ') : V G l RX1 cc nL dep lg ret Q pc lo (a1 :: a0 :: rest) μ := R_callS hct hd (by decide) tM_RX1_91 tT_yJ9_max_7cf53 tN_RJ9 tC_yJ9_max_7cf53 ok_yJ9_max_7cf53 rfl rfl hrest hdg hn k
theorem ok_yX1_isSecondFirst : okY yX1_isSecondFirst 4 := ⟨by decide +kernel, by decide +kernel, by decide +kernel⟩
theorem iv_X1_97 {dep' : Nat} {Qy : Option Value → Mem → Prop} {rest : List Value} {a0 a1 a2 a3 : Value} (hct : Ct G l dep' yX1_isSecondFirst cX1_isSecondFirst 5 (Option.some Jvm.ClassFile.FieldType.boolean) [Value.ref (G.2.2.1 3), a0, a1, a2, a3] μ Qy) (hd : dep' < dep) (hdg : decode cc pc = .ok (.invokevirtual 97, 3)) (hn : pc + 3 = n) (hrest : (rest.map fun v => v.category).sum ≤ 8) (k : ∀ (r : Option Value) (μ' : Mem), Qy r μ' → V G l RX1 cc nL dep lg ret Q n lo (r.toList ++ rest) μ') : V G l RX1 cc nL dep lg ret Q pc lo (a3 :: a2 :: a1 :: a0 :: .ref (G.2.2.1 3) :: rest) μ := R_callV (ci := 1) (id := 3) (As := [a0, a1, a2, a3]) hct hd (by decide) rfl tM_RX1_97 tI_yX1_isSecondFirst tS_yX1_isSecondFirst tN_RX1 tC_yX1_isSecondFirst ok_yX1_isSecondFirst rfl rfl sh_3 rfl hrest hdg hn k
theorem iv_X1_105 {dep' : Nat} {Qy : Option Value → Mem → Prop} {rest : List Value} {a0 a1 : Value} {id : Nat} (hct : Ct G l dep' yX5_loadsOf cX5_loadsOf 3 (Option.some Jvm.ClassFile.FieldType.int) [Value.ref (G.2.2.1 id), a0, a1] μ Qy) (hs : StB id) (hd : dep' < dep) (hdg : decode cc pc = .ok (.invokevirtual 105, 3)) (hn : pc + 3 = n) (hrest : (rest.map fun v => v.category).sum ≤ 8) (k : ∀ (r : Option Value) (μ' : Mem), Qy r μ' → V G l RX1 cc nL dep lg ret Q n lo (r.toList ++ rest) μ') : V G l RX1 cc nL dep lg ret Q pc lo (a1 :: a0 :: .ref (G.2.2.1 id) :: rest) μ := R_callV (ci := 5) (id := id) (As := [a0, a1]) hct hd (by decide) rfl tM_RX1_105 tI_yX5_loadsOf tS_yX5_loadsOf tN_RX5 tC_yX5_loadsOf ok_yX5_loadsOf rfl rfl hs.1 rfl hrest hdg hn k
theorem ok_yX5_turn : okY yX5_turn 1 := ⟨by decide +kernel, by decide +kernel, by decide +kernel⟩
theorem iv_X1_101 {dep' : Nat} {Qy : Option Value → Mem → Prop} {rest : List Value} {a0 : Value} {id : Nat} (hct : Ct G l dep' yX5_turn cX5_turn 3 (Option.none : Option Jvm.ClassFile.FieldType) [Value.ref (G.2.2.1 id), a0] μ Qy) (hs : StB id) (hd : dep' < dep) (hdg : decode cc pc = .ok (.invokevirtual 101, 3)) (hn : pc + 3 = n) (hrest : (rest.map fun v => v.category).sum ≤ 8) (k : ∀ (r : Option Value) (μ' : Mem), Qy r μ' → V G l RX1 cc nL dep lg ret Q n lo (r.toList ++ rest) μ') : V G l RX1 cc nL dep lg ret Q pc lo (a0 :: .ref (G.2.2.1 id) :: rest) μ := R_callV (ci := 5) (id := id) (As := [a0]) hct hd (by decide) rfl tM_RX1_101 tI_yX5_turn tS_yX5_turn tN_RX5 tC_yX5_turn ok_yX5_turn rfl rfl hs.1 rfl hrest hdg hn k
theorem ok_yX5_figures : okY yX5_figures 0 := ⟨by decide +kernel, by decide +kernel, by decide +kernel⟩
theorem iv_X7_126 {dep' : Nat} {Qy : Option Value → Mem → Prop} {rest : List Value} {id : Nat} (hct : Ct G l dep' yX5_figures cX5_figures 3 (Option.some Jvm.ClassFile.FieldType.int) [Value.ref (G.2.2.1 id)] μ Qy) (hs : StB id) (hd : dep' < dep) (hdg : decode cc pc = .ok (.invokevirtual 126, 3)) (hn : pc + 3 = n) (hrest : (rest.map fun v => v.category).sum ≤ 8) (k : ∀ (r : Option Value) (μ' : Mem), Qy r μ' → V G l RX7 cc nL dep lg ret Q n lo (r.toList ++ rest) μ') : V G l RX7 cc nL dep lg ret Q pc lo (.ref (G.2.2.1 id) :: rest) μ := R_callV (ci := 5) (id := id) (As := []) hct hd (by decide) rfl tM_RX7_126 tI_yX5_figures tS_yX5_figures tN_RX5 tC_yX5_figures ok_yX5_figures rfl rfl hs.1 rfl hrest hdg hn k
theorem ok_yX7_give : okY yX7_give 2 := ⟨by decide +kernel, by decide +kernel, by decide +kernel⟩
theorem iv_L_44 {dep' : Nat} {Qy : Option Value → Mem → Prop} {rest : List Value} {a0 a1 : Value} (hct : Ct G l dep' yX7_give cX7_give 3 (Option.some Jvm.ClassFile.FieldType.int) [Value.ref (G.2.2.1 0), a0, a1] μ Qy) (hd : dep' < dep) (hdg : decode cc pc = .ok (.invokevirtual 44, 3)) (hn : pc + 3 = n) (hrest : (rest.map fun v => v.category).sum ≤ 8) (k : ∀ (r : Option Value) (μ' : Mem), Qy r μ' → V G l RL cc nL dep lg ret Q n lo (r.toList ++ rest) μ') : V G l RL cc nL dep lg ret Q pc lo (a1 :: a0 :: .ref (G.2.2.1 0) :: rest) μ := R_callV (ci := 7) (id := 0) (As := [a0, a1]) hct hd (by decide) rfl tM_RL_44 tI_yX7_give tS_yX7_give tN_RX7 tC_yX7_give ok_yX7_give rfl rfl sh_0 rfl hrest hdg hn k
theorem ok_yX5_addLoads : okY yX5_addLoads 3 := ⟨by decide +kernel, by decide +kernel, by decide +kernel⟩
theorem iv_X7_129 {dep' : Nat} {Qy : Option Value → Mem → Prop} {rest : List Value} {a0 a1 a2 : Value} {id : Nat} (hct : Ct G l dep' yX5_addLoads cX5_addLoads 4 (Option.none : Option Jvm.ClassFile.FieldType) [Value.ref (G.2.2.1 id), a0, a1, a2] μ Qy) (hs : StB id) (hd : dep' < dep) (hdg : decode cc pc = .ok (.invokevirtual 129, 3)) (hn : pc + 3 = n) (hrest : (rest.map fun v => v.category).sum ≤ 8) (k : ∀ (r : Option Value) (μ' : Mem), Qy r μ' → V G l RX7 cc nL dep lg ret Q n lo (r.toList ++ rest) μ') : V G l RX7 cc nL dep lg ret Q pc lo (a2 :: a1 :: a0 :: .ref (G.2.2.1 id) :: rest) μ := R_callV (ci := 5) (id := id) (As := [a0, a1, a2]) hct hd (by decide) rfl tM_RX7_129 tI_yX5_addLoads tS_yX5_addLoads tN_RX5 tC_yX5_addLoads ok_yX5_addLoads rfl rfl hs.1 rfl hrest hdg hn k
theorem iv_X7_133 {dep' : Nat} {Qy : Option Value → Mem → Prop} {rest : List Value} {a0 a1 : Value} {id : Nat} (hct : Ct G l dep' yX5_loadsOf cX5_loadsOf 3 (Option.some Jvm.ClassFile.FieldType.int) [Value.ref (G.2.2.1 id), a0, a1] μ Qy) (hs : StB id) (hd : dep' < dep) (hdg : decode cc pc = .ok (.invokevirtual 133, 3)) (hn : pc + 3 = n) (hrest : (rest.map fun v => v.category).sum ≤ 8) (k : ∀ (r : Option Value) (μ' : Mem), Qy r μ' → V G l RX7 cc nL dep lg ret Q n lo (r.toList ++ rest) μ') : V G l RX7 cc nL dep lg ret Q pc lo (a1 :: a0 :: .ref (G.2.2.1 id) :: rest) μ := R_callV (ci := 5) (id := id) (As := [a0, a1]) hct hd (by decide) rfl tM_RX7_133 tI_yX5_loadsOf tS_yX5_loadsOf tN_RX5 tC_yX5_loadsOf ok_yX5_loadsOf rfl rfl hs.1 rfl hrest hdg hn k
theorem ok_yX7_letBy : okY yX7_letBy 1 := ⟨by decide +kernel, by decide +kernel, by decide +kernel⟩
theorem iv_L_48 {dep' : Nat} {Qy : Option Value → Mem → Prop} {rest : List Value} {a0 : Value} (hct : Ct G l dep' yX7_letBy cX7_letBy 3 (Option.some Jvm.ClassFile.FieldType.int) [Value.ref (G.2.2.1 0), a0] μ Qy) (hd : dep' < dep) (hdg : decode cc pc = .ok (.invokevirtual 48, 3)) (hn : pc + 3 = n) (hrest : (rest.map fun v => v.category).sum ≤ 8) (k : ∀ (r : Option Value) (μ' : Mem), Qy r μ' → V G l RL cc nL dep lg ret Q n lo (r.toList ++ rest) μ') : V G l RL cc nL dep lg ret Q pc lo (a0 :: .ref (G.2.2.1 0) :: rest) μ := R_callV (ci := 7) (id := 0) (As := [a0]) hct hd (by decide) rfl tM_RL_48 tI_yX7_letBy tS_yX7_letBy tN_RX7 tC_yX7_letBy ok_yX7_letBy rfl rfl sh_0 rfl hrest hdg hn k
theorem iv_X7_137 {dep' : Nat} {Qy : Option Value → Mem → Prop} {rest : List Value} {a0 : Value} {id : Nat} (hct : Ct G l dep' yX5_turn cX5_turn 3 (Option.none : Option Jvm.ClassFile.FieldType) [Value.ref (G.2.2.1 id), a0] μ Qy) (hs : StB id) (hd : dep' < dep) (hdg : decode cc pc = .ok (.invokevirtual 137, 3)) (hn : pc + 3 = n) (hrest : (rest.map fun v => v.category).sum ≤ 8) (k : ∀ (r : Option Value) (μ' : Mem), Qy r μ' → V G l RX7 cc nL dep lg ret Q n lo (r.toList ++ rest) μ') : V G l RX7 cc nL dep lg ret Q pc lo (a0 :: .ref (G.2.2.1 id) :: rest) μ := R_callV (ci := 5) (id := id) (As := [a0]) hct hd (by decide) rfl tM_RX7_137 tI_yX5_turn tS_yX5_turn tN_RX5 tC_yX5_turn ok_yX5_turn rfl rfl hs.1 rfl hrest hdg hn k
theorem ok_yX7_learn : okY yX7_learn 2 := ⟨by decide +kernel, by decide +kernel, by decide +kernel⟩
theorem iv_L_52 {dep' : Nat} {Qy : Option Value → Mem → Prop} {rest : List Value} {a0 a1 : Value} (hct : Ct G l dep' yX7_learn cX7_learn 4 (Option.some Jvm.ClassFile.FieldType.int) [Value.ref (G.2.2.1 0), a0, a1] μ Qy) (hd : dep' < dep) (hdg : decode cc pc = .ok (.invokevirtual 52, 3)) (hn : pc + 3 = n) (hrest : (rest.map fun v => v.category).sum ≤ 8) (k : ∀ (r : Option Value) (μ' : Mem), Qy r μ' → V G l RL cc nL dep lg ret Q n lo (r.toList ++ rest) μ') : V G l RL cc nL dep lg ret Q pc lo (a1 :: a0 :: .ref (G.2.2.1 0) :: rest) μ := R_callV (ci := 7) (id := 0) (As := [a0, a1]) hct hd (by decide) rfl tM_RL_52 tI_yX7_learn tS_yX7_learn tN_RX7 tC_yX7_learn ok_yX7_learn rfl rfl sh_0 rfl hrest hdg hn k
theorem ok_yX7_undo : okY yX7_undo 0 := ⟨by decide +kernel, by decide +kernel, by decide +kernel⟩
theorem iv_L_56 {dep' : Nat} {Qy : Option Value → Mem → Prop} {rest : List Value} (hct : Ct G l dep' yX7_undo cX7_undo 1 (Option.some Jvm.ClassFile.FieldType.int) [Value.ref (G.2.2.1 0)] μ Qy) (hd : dep' < dep) (hdg : decode cc pc = .ok (.invokevirtual 56, 3)) (hn : pc + 3 = n) (hrest : (rest.map fun v => v.category).sum ≤ 8) (k : ∀ (r : Option Value) (μ' : Mem), Qy r μ' → V G l RL cc nL dep lg ret Q n lo (r.toList ++ rest) μ') : V G l RL cc nL dep lg ret Q pc lo (.ref (G.2.2.1 0) :: rest) μ := R_callV (ci := 7) (id := 0) (As := []) hct hd (by decide) rfl tM_RL_56 tI_yX7_undo tS_yX7_undo tN_RX7 tC_yX7_undo ok_yX7_undo rfl rfl sh_0 rfl hrest hdg hn k
theorem ok_yX0_takeBack : okY yX0_takeBack 1 := ⟨by decide +kernel, by decide +kernel, by decide +kernel⟩
theorem iv_X7_143 {dep' : Nat} {Qy : Option Value → Mem → Prop} {rest : List Value} {a0 : Value} (hct : Ct G l dep' yX0_takeBack cX0_takeBack 2 (Option.none : Option Jvm.ClassFile.FieldType) [Value.ref (G.2.2.1 18), a0] μ Qy) (hd : dep' < dep) (hdg : decode cc pc = .ok (.invokevirtual 143, 3)) (hn : pc + 3 = n) (hrest : (rest.map fun v => v.category).sum ≤ 8) (k : ∀ (r : Option Value) (μ' : Mem), Qy r μ' → V G l RX7 cc nL dep lg ret Q n lo (r.toList ++ rest) μ') : V G l RX7 cc nL dep lg ret Q pc lo (a0 :: .ref (G.2.2.1 18) :: rest) μ := R_callV (ci := 0) (id := 18) (As := [a0]) hct hd (by decide) rfl tM_RX7_143 tI_yX0_takeBack tS_yX0_takeBack tN_RX0 tC_yX0_takeBack ok_yX0_takeBack rfl rfl sh_18 rfl hrest hdg hn k
theorem ok_yX7_basin : okY yX7_basin 0 := ⟨by decide +kernel, by decide +kernel, by decide +kernel⟩
theorem iv_L_60 {dep' : Nat} {Qy : Option Value → Mem → Prop} {rest : List Value} (hct : Ct G l dep' yX7_basin cX7_basin 1 (Option.some Jvm.ClassFile.FieldType.int) [Value.ref (G.2.2.1 0)] μ Qy) (hd : dep' < dep) (hdg : decode cc pc = .ok (.invokevirtual 60, 3)) (hn : pc + 3 = n) (hrest : (rest.map fun v => v.category).sum ≤ 8) (k : ∀ (r : Option Value) (μ' : Mem), Qy r μ' → V G l RL cc nL dep lg ret Q n lo (r.toList ++ rest) μ') : V G l RL cc nL dep lg ret Q pc lo (.ref (G.2.2.1 0) :: rest) μ := R_callV (ci := 7) (id := 0) (As := []) hct hd (by decide) rfl tM_RL_60 tI_yX7_basin tS_yX7_basin tN_RX7 tC_yX7_basin ok_yX7_basin rfl rfl sh_0 rfl hrest hdg hn k
theorem ok_yX1_atBasin : okY yX1_atBasin 0 := ⟨by decide +kernel, by decide +kernel, by decide +kernel⟩
theorem iv_X7_146 {dep' : Nat} {Qy : Option Value → Mem → Prop} {rest : List Value} (hct : Ct G l dep' yX1_atBasin cX1_atBasin 2 (Option.some (Jvm.ClassFile.FieldType.object "EelLocks$State")) [Value.ref (G.2.2.1 3)] μ Qy) (hd : dep' < dep) (hdg : decode cc pc = .ok (.invokevirtual 146, 3)) (hn : pc + 3 = n) (hrest : (rest.map fun v => v.category).sum ≤ 8) (k : ∀ (r : Option Value) (μ' : Mem), Qy r μ' → V G l RX7 cc nL dep lg ret Q n lo (r.toList ++ rest) μ') : V G l RX7 cc nL dep lg ret Q pc lo (.ref (G.2.2.1 3) :: rest) μ := R_callV (ci := 1) (id := 3) (As := []) hct hd (by decide) rfl tM_RX7_146 tI_yX1_atBasin tS_yX1_atBasin tN_RX1 tC_yX1_atBasin ok_yX1_atBasin rfl rfl sh_3 rfl hrest hdg hn k
theorem ok_yX1_newTrial : okY yX1_newTrial 0 := ⟨by decide +kernel, by decide +kernel, by decide +kernel⟩
theorem iv_X1_69 {dep' : Nat} {Qy : Option Value → Mem → Prop} {rest : List Value} (hct : Ct G l dep' yX1_newTrial cX1_newTrial 1 (Option.some (Jvm.ClassFile.FieldType.object "EelLocks$State")) [Value.ref (G.2.2.1 3)] μ Qy) (hd : dep' < dep) (hdg : decode cc pc = .ok (.invokevirtual 69, 3)) (hn : pc + 3 = n) (hrest : (rest.map fun v => v.category).sum ≤ 8) (k : ∀ (r : Option Value) (μ' : Mem), Qy r μ' → V G l RX1 cc nL dep lg ret Q n lo (r.toList ++ rest) μ') : V G l RX1 cc nL dep lg ret Q pc lo (.ref (G.2.2.1 3) :: rest) μ := R_callV (ci := 1) (id := 3) (As := []) hct hd (by decide) rfl tM_RX1_69 tI_yX1_newTrial tS_yX1_newTrial tN_RX1 tC_yX1_newTrial ok_yX1_newTrial rfl rfl sh_3 rfl hrest hdg hn k
theorem iv_X1_65 {dep' : Nat} {Qy : Option Value → Mem → Prop} {rest : List Value} {a0 : Value} {id : Nat} (hct : Ct G l dep' yX5_copyFrom cX5_copyFrom 2 (Option.none : Option Jvm.ClassFile.FieldType) [Value.ref (G.2.2.1 id), a0] μ Qy) (hs : StB id) (hd : dep' < dep) (hdg : decode cc pc = .ok (.invokevirtual 65, 3)) (hn : pc + 3 = n) (hrest : (rest.map fun v => v.category).sum ≤ 8) (k : ∀ (r : Option Value) (μ' : Mem), Qy r μ' → V G l RX1 cc nL dep lg ret Q n lo (r.toList ++ rest) μ') : V G l RX1 cc nL dep lg ret Q pc lo (a0 :: .ref (G.2.2.1 id) :: rest) μ := R_callV (ci := 5) (id := id) (As := [a0]) hct hd (by decide) rfl tM_RX1_65 tI_yX5_copyFrom tS_yX5_copyFrom tN_RX5 tC_yX5_copyFrom ok_yX5_copyFrom rfl rfl hs.1 rfl hrest hdg hn k
theorem ok_yX1_goOnTo : okY yX1_goOnTo 2 := ⟨by decide +kernel, by decide +kernel, by decide +kernel⟩
theorem iv_X1_73 {dep' : Nat} {Qy : Option Value → Mem → Prop} {rest : List Value} {a0 a1 : Value} (hct : Ct G l dep' yX1_goOnTo cX1_goOnTo 4 (Option.none : Option Jvm.ClassFile.FieldType) [Value.ref (G.2.2.1 3), a0, a1] μ Qy) (hd : dep' < dep) (hdg : decode cc pc = .ok (.invokevirtual 73, 3)) (hn : pc + 3 = n) (hrest : (rest.map fun v => v.category).sum ≤ 8) (k : ∀ (r : Option Value) (μ' : Mem), Qy r μ' → V G l RX1 cc nL dep lg ret Q n lo (r.toList ++ rest) μ') : V G l RX1 cc nL dep lg ret Q pc lo (a1 :: a0 :: .ref (G.2.2.1 3) :: rest) μ := R_callV (ci := 1) (id := 3) (As := [a0, a1]) hct hd (by decide) rfl tM_RX1_73 tI_yX1_goOnTo tS_yX1_goOnTo tN_RX1 tC_yX1_goOnTo ok_yX1_goOnTo rfl rfl sh_3 rfl hrest hdg hn k
theorem iv_X1_77 {dep' : Nat} {Qy : Option Value → Mem → Prop} {rest : List Value} {a0 : Value} (hct : Ct G l dep' yX1_goThroughNext cX1_goThroughNext 8 (Option.none : Option Jvm.ClassFile.FieldType) [Value.ref (G.2.2.1 3), a0] μ Qy) (hd : dep' < dep) (hdg : decode cc pc = .ok (.invokevirtual 77, 3)) (hn : pc + 3 = n) (hrest : (rest.map fun v => v.category).sum ≤ 8) (k : ∀ (r : Option Value) (μ' : Mem), Qy r μ' → V G l RX1 cc nL dep lg ret Q n lo (r.toList ++ rest) μ') : V G l RX1 cc nL dep lg ret Q pc lo (a0 :: .ref (G.2.2.1 3) :: rest) μ := R_callV (ci := 1) (id := 3) (As := [a0]) hct hd (by decide) rfl tM_RX1_77 tI_yX1_goThroughNext tS_yX1_goThroughNext tN_RX1 tC_yX1_goThroughNext ok_yX1_goThroughNext rfl rfl sh_3 rfl hrest hdg hn k
theorem ok_yX7_hour : okY yX7_hour 1 := ⟨by decide +kernel, by decide +kernel, by decide +kernel⟩
theorem iv_L_64 {dep' : Nat} {Qy : Option Value → Mem → Prop} {rest : List Value} {a0 : Value} (hct : Ct G l dep' yX7_hour cX7_hour 2 (Option.some Jvm.ClassFile.FieldType.int) [Value.ref (G.2.2.1 0), a0] μ Qy) (hd : dep' < dep) (hdg : decode cc pc = .ok (.invokevirtual 64, 3)) (hn : pc + 3 = n) (hrest : (rest.map fun v => v.category).sum ≤ 8) (k : ∀ (r : Option Value) (μ' : Mem), Qy r μ' → V G l RL cc nL dep lg ret Q n lo (r.toList ++ rest) μ') : V G l RL cc nL dep lg ret Q pc lo (a0 :: .ref (G.2.2.1 0) :: rest) μ := R_callV (ci := 7) (id := 0) (As := [a0]) hct hd (by decide) rfl tM_RL_64 tI_yX7_hour tS_yX7_hour tN_RX7 tC_yX7_hour ok_yX7_hour rfl rfl sh_0 rfl hrest hdg hn k
theorem ok_yX7_gains : okY yX7_gains 1 := ⟨by decide +kernel, by decide +kernel, by decide +kernel⟩
theorem iv_L_68 {dep' : Nat} {Qy : Option Value → Mem → Prop} {rest : List Value} {a0 : Value} (hct : Ct G l dep' yX7_gains cX7_gains 2 (Option.some Jvm.ClassFile.FieldType.int) [Value.ref (G.2.2.1 0), a0] μ Qy) (hd : dep' < dep) (hdg : decode cc pc = .ok (.invokevirtual 68, 3)) (hn : pc + 3 = n) (hrest : (rest.map fun v => v.category).sum ≤ 8) (k : ∀ (r : Option Value) (μ' : Mem), Qy r μ' → V G l RL cc nL dep lg ret Q n lo (r.toList ++ rest) μ') : V G l RL cc nL dep lg ret Q pc lo (a0 :: .ref (G.2.2.1 0) :: rest) μ := R_callV (ci := 7) (id := 0) (As := [a0]) hct hd (by decide) rfl tM_RL_68 tI_yX7_gains tS_yX7_gains tN_RX7 tC_yX7_gains ok_yX7_gains rfl rfl sh_0 rfl hrest hdg hn k
theorem ok_yX3_gainsOf : okY yX3_gainsOf 2 := ⟨by decide +kernel, by decide +kernel, by decide +kernel⟩
theorem iv_X7_150 {dep' : Nat} {Qy : Option Value → Mem → Prop} {rest : List Value} {a0 a1 : Value} (hct : Ct G l dep' yX3_gainsOf cX3_gainsOf 7 (Option.some Jvm.ClassFile.FieldType.int) [Value.ref (G.2.2.1 119), a0, a1] μ Qy) (hd : dep' < dep) (hdg : decode cc pc = .ok (.invokevirtual 150, 3)) (hn : pc + 3 = n) (hrest : (rest.map fun v => v.category).sum ≤ 8) (k : ∀ (r : Option Value) (μ' : Mem), Qy r μ' → V G l RX7 cc nL dep lg ret Q n lo (r.toList ++ rest) μ') : V G l RX7 cc nL dep lg ret Q pc lo (a1 :: a0 :: .ref (G.2.2.1 119) :: rest) μ := R_callV (ci := 3) (id := 119) (As := [a0, a1]) hct hd (by decide) rfl tM_RX7_150 tI_yX3_gainsOf tS_yX3_gainsOf tN_RX3 tC_yX3_gainsOf ok_yX3_gainsOf rfl rfl sh_119 rfl hrest hdg hn k
theorem iv_X3_18 {dep' : Nat} {Qy : Option Value → Mem → Prop} {rest : List Value} (hct : Ct G l dep' yX1_newTrial cX1_newTrial 1 (Option.some (Jvm.ClassFile.FieldType.object "EelLocks$State")) [Value.ref (G.2.2.1 3)] μ Qy) (hd : dep' < dep) (hdg : decode cc pc = .ok (.invokevirtual 18, 3)) (hn : pc + 3 = n) (hrest : (rest.map fun v => v.category).sum ≤ 8) (k : ∀ (r : Option Value) (μ' : Mem), Qy r μ' → V G l RX3 cc nL dep lg ret Q n lo (r.toList ++ rest) μ') : V G l RX3 cc nL dep lg ret Q pc lo (.ref (G.2.2.1 3) :: rest) μ := R_callV (ci := 1) (id := 3) (As := []) hct hd (by decide) rfl tM_RX3_18 tI_yX1_newTrial tS_yX1_newTrial tN_RX1 tC_yX1_newTrial ok_yX1_newTrial rfl rfl sh_3 rfl hrest hdg hn k
theorem iv_X3_33 {dep' : Nat} {Qy : Option Value → Mem → Prop} {rest : List Value} {a0 : Value} {id : Nat} (hct : Ct G l dep' yX5_placeOf cX5_placeOf 3 (Option.some Jvm.ClassFile.FieldType.int) [Value.ref (G.2.2.1 id), a0] μ Qy) (hs : StB id) (hd : dep' < dep) (hdg : decode cc pc = .ok (.invokevirtual 33, 3)) (hn : pc + 3 = n) (hrest : (rest.map fun v => v.category).sum ≤ 8) (k : ∀ (r : Option Value) (μ' : Mem), Qy r μ' → V G l RX3 cc nL dep lg ret Q n lo (r.toList ++ rest) μ') : V G l RX3 cc nL dep lg ret Q pc lo (a0 :: .ref (G.2.2.1 id) :: rest) μ := R_callV (ci := 5) (id := id) (As := [a0]) hct hd (by decide) rfl tM_RX3_33 tI_yX5_placeOf tS_yX5_placeOf tN_RX5 tC_yX5_placeOf ok_yX5_placeOf rfl rfl hs.1 rfl hrest hdg hn k
theorem iv_X3_37 {dep' : Nat} {Qy : Option Value → Mem → Prop} {rest : List Value} {a0 : Value} (hct : Ct G l dep' yX1_goThroughNext cX1_goThroughNext 8 (Option.none : Option Jvm.ClassFile.FieldType) [Value.ref (G.2.2.1 3), a0] μ Qy) (hd : dep' < dep) (hdg : decode cc pc = .ok (.invokevirtual 37, 3)) (hn : pc + 3 = n) (hrest : (rest.map fun v => v.category).sum ≤ 8) (k : ∀ (r : Option Value) (μ' : Mem), Qy r μ' → V G l RX3 cc nL dep lg ret Q n lo (r.toList ++ rest) μ') : V G l RX3 cc nL dep lg ret Q pc lo (a0 :: .ref (G.2.2.1 3) :: rest) μ := R_callV (ci := 1) (id := 3) (As := [a0]) hct hd (by decide) rfl tM_RX3_37 tI_yX1_goThroughNext tS_yX1_goThroughNext tN_RX1 tC_yX1_goThroughNext ok_yX1_goThroughNext rfl rfl sh_3 rfl hrest hdg hn k
theorem ok_yX7_mates : okY yX7_mates 1 := ⟨by decide +kernel, by decide +kernel, by decide +kernel⟩
theorem iv_L_72 {dep' : Nat} {Qy : Option Value → Mem → Prop} {rest : List Value} {a0 : Value} (hct : Ct G l dep' yX7_mates cX7_mates 2 (Option.some Jvm.ClassFile.FieldType.int) [Value.ref (G.2.2.1 0), a0] μ Qy) (hd : dep' < dep) (hdg : decode cc pc = .ok (.invokevirtual 72, 3)) (hn : pc + 3 = n) (hrest : (rest.map fun v => v.category).sum ≤ 8) (k : ∀ (r : Option Value) (μ' : Mem), Qy r μ' → V G l RL cc nL dep lg ret Q n lo (r.toList ++ rest) μ') : V G l RL cc nL dep lg ret Q pc lo (a0 :: .ref (G.2.2.1 0) :: rest) μ := R_callV (ci := 7) (id := 0) (As := [a0]) hct hd (by decide) rfl tM_RL_72 tI_yX7_mates tS_yX7_mates tN_RX7 tC_yX7_mates ok_yX7_mates rfl rfl sh_0 rfl hrest hdg hn k
theorem ok_yX3_matesOf : okY yX3_matesOf 2 := ⟨by decide +kernel, by decide +kernel, by decide +kernel⟩
theorem iv_X7_154 {dep' : Nat} {Qy : Option Value → Mem → Prop} {rest : List Value} {a0 a1 : Value} (hct : Ct G l dep' yX3_matesOf cX3_matesOf 7 (Option.some Jvm.ClassFile.FieldType.int) [Value.ref (G.2.2.1 119), a0, a1] μ Qy) (hd : dep' < dep) (hdg : decode cc pc = .ok (.invokevirtual 154, 3)) (hn : pc + 3 = n) (hrest : (rest.map fun v => v.category).sum ≤ 8) (k : ∀ (r : Option Value) (μ' : Mem), Qy r μ' → V G l RX7 cc nL dep lg ret Q n lo (r.toList ++ rest) μ') : V G l RX7 cc nL dep lg ret Q pc lo (a1 :: a0 :: .ref (G.2.2.1 119) :: rest) μ := R_callV (ci := 3) (id := 119) (As := [a0, a1]) hct hd (by decide) rfl tM_RX7_154 tI_yX3_matesOf tS_yX3_matesOf tN_RX3 tC_yX3_matesOf ok_yX3_matesOf rfl rfl sh_119 rfl hrest hdg hn k
theorem ok_yX1_mateAtNext : okY yX1_mateAtNext 2 := ⟨by decide +kernel, by decide +kernel, by decide +kernel⟩
theorem iv_X3_41 {dep' : Nat} {Qy : Option Value → Mem → Prop} {rest : List Value} {a0 a1 : Value} (hct : Ct G l dep' yX1_mateAtNext cX1_mateAtNext 4 (Option.some Jvm.ClassFile.FieldType.int) [Value.ref (G.2.2.1 3), a0, a1] μ Qy) (hd : dep' < dep) (hdg : decode cc pc = .ok (.invokevirtual 41, 3)) (hn : pc + 3 = n) (hrest : (rest.map fun v => v.category).sum ≤ 8) (k : ∀ (r : Option Value) (μ' : Mem), Qy r μ' → V G l RX3 cc nL dep lg ret Q n lo (r.toList ++ rest) μ') : V G l RX3 cc nL dep lg ret Q pc lo (a1 :: a0 :: .ref (G.2.2.1 3) :: rest) μ := R_callV (ci := 1) (id := 3) (As := [a0, a1]) hct hd (by decide) rfl tM_RX3_41 tI_yX1_mateAtNext tS_yX1_mateAtNext tN_RX1 tC_yX1_mateAtNext ok_yX1_mateAtNext rfl rfl sh_3 rfl hrest hdg hn k
theorem ok_yX7_first : okY yX7_first 2 := ⟨by decide +kernel, by decide +kernel, by decide +kernel⟩
theorem iv_L_76 {dep' : Nat} {Qy : Option Value → Mem → Prop} {rest : List Value} {a0 a1 : Value} (hct : Ct G l dep' yX7_first cX7_first 4 (Option.some Jvm.ClassFile.FieldType.int) [Value.ref (G.2.2.1 0), a0, a1] μ Qy) (hd : dep' < dep) (hdg : decode cc pc = .ok (.invokevirtual 76, 3)) (hn : pc + 3 = n) (hrest : (rest.map fun v => v.category).sum ≤ 8) (k : ∀ (r : Option Value) (μ' : Mem), Qy r μ' → V G l RL cc nL dep lg ret Q n lo (r.toList ++ rest) μ') : V G l RL cc nL dep lg ret Q pc lo (a1 :: a0 :: .ref (G.2.2.1 0) :: rest) μ := R_callV (ci := 7) (id := 0) (As := [a0, a1]) hct hd (by decide) rfl tM_RL_76 tI_yX7_first tS_yX7_first tN_RX7 tC_yX7_first ok_yX7_first rfl rfl sh_0 rfl hrest hdg hn k
theorem ok_yX7_refusalOfTwo : okY yX7_refusalOfTwo 2 := ⟨by decide +kernel, by decide +kernel, by decide +kernel⟩
theorem iv_X7_157 {dep' : Nat} {Qy : Option Value → Mem → Prop} {rest : List Value} {a0 a1 : Value} (hct : Ct G l dep' yX7_refusalOfTwo cX7_refusalOfTwo 3 (Option.some Jvm.ClassFile.FieldType.int) [Value.ref (G.2.2.1 0), a0, a1] μ Qy) (hd : dep' < dep) (hdg : decode cc pc = .ok (.invokevirtual 157, 3)) (hn : pc + 3 = n) (hrest : (rest.map fun v => v.category).sum ≤ 8) (k : ∀ (r : Option Value) (μ' : Mem), Qy r μ' → V G l RX7 cc nL dep lg ret Q n lo (r.toList ++ rest) μ') : V G l RX7 cc nL dep lg ret Q pc lo (a1 :: a0 :: .ref (G.2.2.1 0) :: rest) μ := R_callV (ci := 7) (id := 0) (As := [a0, a1]) hct hd (by decide) rfl tM_RX7_157 tI_yX7_refusalOfTwo tS_yX7_refusalOfTwo tN_RX7 tC_yX7_refusalOfTwo ok_yX7_refusalOfTwo rfl rfl sh_0 rfl hrest hdg hn k
theorem ok_yX3_firstOrder : okY yX3_firstOrder 3 := ⟨by decide +kernel, by decide +kernel, by decide +kernel⟩
theorem iv_X7_160 {dep' : Nat} {Qy : Option Value → Mem → Prop} {rest : List Value} {a0 a1 a2 : Value} (hct : Ct G l dep' yX3_firstOrder cX3_firstOrder 7 (Option.some Jvm.ClassFile.FieldType.int) [Value.ref (G.2.2.1 119), a0, a1, a2] μ Qy) (hd : dep' < dep) (hdg : decode cc pc = .ok (.invokevirtual 160, 3)) (hn : pc + 3 = n) (hrest : (rest.map fun v => v.category).sum ≤ 8) (k : ∀ (r : Option Value) (μ' : Mem), Qy r μ' → V G l RX7 cc nL dep lg ret Q n lo (r.toList ++ rest) μ') : V G l RX7 cc nL dep lg ret Q pc lo (a2 :: a1 :: a0 :: .ref (G.2.2.1 119) :: rest) μ := R_callV (ci := 3) (id := 119) (As := [a0, a1, a2]) hct hd (by decide) rfl tM_RX7_160 tI_yX3_firstOrder tS_yX3_firstOrder tN_RX3 tC_yX3_firstOrder ok_yX3_firstOrder rfl rfl sh_119 rfl hrest hdg hn k
theorem iv_X3_60 {dep' : Nat} {Qy : Option Value → Mem → Prop} {rest : List Value} {id : Nat} (hct : Ct G l dep' yX5_figures cX5_figures 3 (Option.some Jvm.ClassFile.FieldType.int) [Value.ref (G.2.2.1 id)] μ Qy) (hs : StB id) (hd : dep' < dep) (hdg : decode cc pc = .ok (.invokevirtual 60, 3)) (hn : pc + 3 = n) (hrest : (rest.map fun v => v.category).sum ≤ 8) (k : ∀ (r : Option Value) (μ' : Mem), Qy r μ' → V G l RX3 cc nL dep lg ret Q n lo (r.toList ++ rest) μ') : V G l RX3 cc nL dep lg ret Q pc lo (.ref (G.2.2.1 id) :: rest) μ := R_callV (ci := 5) (id := id) (As := []) hct hd (by decide) rfl tM_RX3_60 tI_yX5_figures tS_yX5_figures tN_RX5 tC_yX5_figures ok_yX5_figures rfl rfl hs.1 rfl hrest hdg hn k
theorem ok_yX3_suits : okY yX3_suits 4 := ⟨by decide +kernel, by decide +kernel, by decide +kernel⟩
theorem iv_X3_63 {dep' : Nat} {Qy : Option Value → Mem → Prop} {rest : List Value} {a0 a1 a2 a3 : Value} (hct : Ct G l dep' yX3_suits cX3_suits 5 (Option.some Jvm.ClassFile.FieldType.boolean) [Value.ref (G.2.2.1 119), a0, a1, a2, a3] μ Qy) (hd : dep' < dep) (hdg : decode cc pc = .ok (.invokevirtual 63, 3)) (hn : pc + 3 = n) (hrest : (rest.map fun v => v.category).sum ≤ 8) (k : ∀ (r : Option Value) (μ' : Mem), Qy r μ' → V G l RX3 cc nL dep lg ret Q n lo (r.toList ++ rest) μ') : V G l RX3 cc nL dep lg ret Q pc lo (a3 :: a2 :: a1 :: a0 :: .ref (G.2.2.1 119) :: rest) μ := R_callV (ci := 3) (id := 119) (As := [a0, a1, a2, a3]) hct hd (by decide) rfl tM_RX3_63 tI_yX3_suits tS_yX3_suits tN_RX3 tC_yX3_suits ok_yX3_suits rfl rfl sh_119 rfl hrest hdg hn k
theorem iv_X3_75 {dep' : Nat} {Qy : Option Value → Mem → Prop} {rest : List Value} {a0 a1 : Value} (hct : Ct G l dep' yX1_goOnTo cX1_goOnTo 4 (Option.none : Option Jvm.ClassFile.FieldType) [Value.ref (G.2.2.1 3), a0, a1] μ Qy) (hd : dep' < dep) (hdg : decode cc pc = .ok (.invokevirtual 75, 3)) (hn : pc + 3 = n) (hrest : (rest.map fun v => v.category).sum ≤ 8) (k : ∀ (r : Option Value) (μ' : Mem), Qy r μ' → V G l RX3 cc nL dep lg ret Q n lo (r.toList ++ rest) μ') : V G l RX3 cc nL dep lg ret Q pc lo (a1 :: a0 :: .ref (G.2.2.1 3) :: rest) μ := R_callV (ci := 1) (id := 3) (As := [a0, a1]) hct hd (by decide) rfl tM_RX3_75 tI_yX1_goOnTo tS_yX1_goOnTo tN_RX1 tC_yX1_goOnTo ok_yX1_goOnTo rfl rfl sh_3 rfl hrest hdg hn k
theorem ok_yX5_isAt : okY yX5_isAt 2 := ⟨by decide +kernel, by decide +kernel, by decide +kernel⟩
theorem iv_X3_79 {dep' : Nat} {Qy : Option Value → Mem → Prop} {rest : List Value} {a0 a1 : Value} {id : Nat} (hct : Ct G l dep' yX5_isAt cX5_isAt 3 (Option.some Jvm.ClassFile.FieldType.boolean) [Value.ref (G.2.2.1 id), a0, a1] μ Qy) (hs : StB id) (hd : dep' < dep) (hdg : decode cc pc = .ok (.invokevirtual 79, 3)) (hn : pc + 3 = n) (hrest : (rest.map fun v => v.category).sum ≤ 8) (k : ∀ (r : Option Value) (μ' : Mem), Qy r μ' → V G l RX3 cc nL dep lg ret Q n lo (r.toList ++ rest) μ') : V G l RX3 cc nL dep lg ret Q pc lo (a1 :: a0 :: .ref (G.2.2.1 id) :: rest) μ := R_callV (ci := 5) (id := id) (As := [a0, a1]) hct hd (by decide) rfl tM_RX3_79 tI_yX5_isAt tS_yX5_isAt tN_RX5 tC_yX5_isAt ok_yX5_isAt rfl rfl hs.1 rfl hrest hdg hn k
theorem ok_yX3_makeNextOrder : okY yX3_makeNextOrder 1 := ⟨by decide +kernel, by decide +kernel, by decide +kernel⟩
theorem iv_X3_67 {dep' : Nat} {Qy : Option Value → Mem → Prop} {rest : List Value} {a0 : Value} (hct : Ct G l dep' yX3_makeNextOrder cX3_makeNextOrder 6 (Option.none : Option Jvm.ClassFile.FieldType) [Value.ref (G.2.2.1 119), a0] μ Qy) (hd : dep' < dep) (hdg : decode cc pc = .ok (.invokevirtual 67, 3)) (hn : pc + 3 = n) (hrest : (rest.map fun v => v.category).sum ≤ 8) (k : ∀ (r : Option Value) (μ' : Mem), Qy r μ' → V G l RX3 cc nL dep lg ret Q n lo (r.toList ++ rest) μ') : V G l RX3 cc nL dep lg ret Q pc lo (a0 :: .ref (G.2.2.1 119) :: rest) μ := R_callV (ci := 3) (id := 119) (As := [a0]) hct hd (by decide) rfl tM_RX3_67 tI_yX3_makeNextOrder tS_yX3_makeNextOrder tN_RX3 tC_yX3_makeNextOrder ok_yX3_makeNextOrder rfl rfl sh_119 rfl hrest hdg hn k
theorem ok_yX3_exchange : okY yX3_exchange 2 := ⟨by decide +kernel, by decide +kernel, by decide +kernel⟩
theorem iv_X3_71 {dep' : Nat} {Qy : Option Value → Mem → Prop} {rest : List Value} {a0 a1 : Value} (hct : Ct G l dep' yX3_exchange cX3_exchange 4 (Option.none : Option Jvm.ClassFile.FieldType) [Value.ref (G.2.2.1 119), a0, a1] μ Qy) (hd : dep' < dep) (hdg : decode cc pc = .ok (.invokevirtual 71, 3)) (hn : pc + 3 = n) (hrest : (rest.map fun v => v.category).sum ≤ 8) (k : ∀ (r : Option Value) (μ' : Mem), Qy r μ' → V G l RX3 cc nL dep lg ret Q n lo (r.toList ++ rest) μ') : V G l RX3 cc nL dep lg ret Q pc lo (a1 :: a0 :: .ref (G.2.2.1 119) :: rest) μ := R_callV (ci := 3) (id := 119) (As := [a0, a1]) hct hd (by decide) rfl tM_RX3_71 tI_yX3_exchange tS_yX3_exchange tN_RX3 tC_yX3_exchange ok_yX3_exchange rfl rfl sh_119 rfl hrest hdg hn k
theorem ok_yX7_tea : okY yX7_tea 3 := ⟨by decide +kernel, by decide +kernel, by decide +kernel⟩
theorem iv_L_80 {dep' : Nat} {Qy : Option Value → Mem → Prop} {rest : List Value} {a0 a1 a2 : Value} (hct : Ct G l dep' yX7_tea cX7_tea 6 (Option.some Jvm.ClassFile.FieldType.int) [Value.ref (G.2.2.1 0), a0, a1, a2] μ Qy) (hd : dep' < dep) (hdg : decode cc pc = .ok (.invokevirtual 80, 3)) (hn : pc + 3 = n) (hrest : (rest.map fun v => v.category).sum ≤ 8) (k : ∀ (r : Option Value) (μ' : Mem), Qy r μ' → V G l RL cc nL dep lg ret Q n lo (r.toList ++ rest) μ') : V G l RL cc nL dep lg ret Q pc lo (a2 :: a1 :: a0 :: .ref (G.2.2.1 0) :: rest) μ := R_callV (ci := 7) (id := 0) (As := [a0, a1, a2]) hct hd (by decide) rfl tM_RL_80 tI_yX7_tea tS_yX7_tea tN_RX7 tC_yX7_tea ok_yX7_tea rfl rfl sh_0 rfl hrest hdg hn k
theorem ok_yX3_leastLoads : okY yX3_leastLoads 3 := ⟨by decide +kernel, by decide +kernel, by decide +kernel⟩
theorem iv_X7_164 {dep' : Nat} {Qy : Option Value → Mem → Prop} {rest : List Value} {a0 a1 a2 : Value} (hct : Ct G l dep' yX3_leastLoads cX3_leastLoads 6 (Option.some Jvm.ClassFile.FieldType.int) [Value.ref (G.2.2.1 119), a0, a1, a2] μ Qy) (hd : dep' < dep) (hdg : decode cc pc = .ok (.invokevirtual 164, 3)) (hn : pc + 3 = n) (hrest : (rest.map fun v => v.category).sum ≤ 8) (k : ∀ (r : Option Value) (μ' : Mem), Qy r μ' → V G l RX7 cc nL dep lg ret Q n lo (r.toList ++ rest) μ') : V G l RX7 cc nL dep lg ret Q pc lo (a2 :: a1 :: a0 :: .ref (G.2.2.1 119) :: rest) μ := R_callV (ci := 3) (id := 119) (As := [a0, a1, a2]) hct hd (by decide) rfl tM_RX7_164 tI_yX3_leastLoads tS_yX3_leastLoads tN_RX3 tC_yX3_leastLoads ok_yX3_leastLoads rfl rfl sh_119 rfl hrest hdg hn k
theorem ok_yX3_suitsWith : okY yX3_suitsWith 5 := ⟨by decide +kernel, by decide +kernel, by decide +kernel⟩
theorem iv_X3_83 {dep' : Nat} {Qy : Option Value → Mem → Prop} {rest : List Value} {a0 a1 a2 a3 a4 : Value} (hct : Ct G l dep' yX3_suitsWith cX3_suitsWith 7 (Option.some Jvm.ClassFile.FieldType.boolean) [Value.ref (G.2.2.1 119), a0, a1, a2, a3, a4] μ Qy) (hd : dep' < dep) (hdg : decode cc pc = .ok (.invokevirtual 83, 3)) (hn : pc + 3 = n) (hrest : (rest.map fun v => v.category).sum ≤ 8) (k : ∀ (r : Option Value) (μ' : Mem), Qy r μ' → V G l RX3 cc nL dep lg ret Q n lo (r.toList ++ rest) μ') : V G l RX3 cc nL dep lg ret Q pc lo (a4 :: a3 :: a2 :: a1 :: a0 :: .ref (G.2.2.1 119) :: rest) μ := R_callV (ci := 3) (id := 119) (As := [a0, a1, a2, a3, a4]) hct hd (by decide) rfl tM_RX3_83 tI_yX3_suitsWith tS_yX3_suitsWith tN_RX3 tC_yX3_suitsWith ok_yX3_suitsWith rfl rfl sh_119 rfl hrest hdg hn k
theorem iv_X3_112 {dep' : Nat} {Qy : Option Value → Mem → Prop} {rest : List Value} {a0 a1 a2 : Value} {id : Nat} (hct : Ct G l dep' yX5_addLoads cX5_addLoads 4 (Option.none : Option Jvm.ClassFile.FieldType) [Value.ref (G.2.2.1 id), a0, a1, a2] μ Qy) (hs : StB id) (hd : dep' < dep) (hdg : decode cc pc = .ok (.invokevirtual 112, 3)) (hn : pc + 3 = n) (hrest : (rest.map fun v => v.category).sum ≤ 8) (k : ∀ (r : Option Value) (μ' : Mem), Qy r μ' → V G l RX3 cc nL dep lg ret Q n lo (r.toList ++ rest) μ') : V G l RX3 cc nL dep lg ret Q pc lo (a2 :: a1 :: a0 :: .ref (G.2.2.1 id) :: rest) μ := R_callV (ci := 5) (id := id) (As := [a0, a1, a2]) hct hd (by decide) rfl tM_RX3_112 tI_yX5_addLoads tS_yX5_addLoads tN_RX5 tC_yX5_addLoads ok_yX5_addLoads rfl rfl hs.1 rfl hrest hdg hn k
theorem ok_yX3_canGive : okY yX3_canGive 2 := ⟨by decide +kernel, by decide +kernel, by decide +kernel⟩
theorem iv_X3_87 {dep' : Nat} {Qy : Option Value → Mem → Prop} {rest : List Value} {a0 a1 : Value} (hct : Ct G l dep' yX3_canGive cX3_canGive 5 (Option.some Jvm.ClassFile.FieldType.boolean) [Value.ref (G.2.2.1 119), a0, a1] μ Qy) (hd : dep' < dep) (hdg : decode cc pc = .ok (.invokevirtual 87, 3)) (hn : pc + 3 = n) (hrest : (rest.map fun v => v.category).sum ≤ 8) (k : ∀ (r : Option Value) (μ' : Mem), Qy r μ' → V G l RX3 cc nL dep lg ret Q n lo (r.toList ++ rest) μ') : V G l RX3 cc nL dep lg ret Q pc lo (a1 :: a0 :: .ref (G.2.2.1 119) :: rest) μ := R_callV (ci := 3) (id := 119) (As := [a0, a1]) hct hd (by decide) rfl tM_RX3_87 tI_yX3_canGive tS_yX3_canGive tN_RX3 tC_yX3_canGive ok_yX3_canGive rfl rfl sh_119 rfl hrest hdg hn k
theorem iv_X3_95 {dep' : Nat} {Qy : Option Value → Mem → Prop} {rest : List Value} {a0 : Value} (hct : Ct G l dep' yX1_hasBarge cX1_hasBarge 2 (Option.some Jvm.ClassFile.FieldType.boolean) [Value.ref (G.2.2.1 3), a0] μ Qy) (hd : dep' < dep) (hdg : decode cc pc = .ok (.invokevirtual 95, 3)) (hn : pc + 3 = n) (hrest : (rest.map fun v => v.category).sum ≤ 8) (k : ∀ (r : Option Value) (μ' : Mem), Qy r μ' → V G l RX3 cc nL dep lg ret Q n lo (r.toList ++ rest) μ') : V G l RX3 cc nL dep lg ret Q pc lo (a0 :: .ref (G.2.2.1 3) :: rest) μ := R_callV (ci := 1) (id := 3) (As := [a0]) hct hd (by decide) rfl tM_RX3_95 tI_yX1_hasBarge tS_yX1_hasBarge tN_RX1 tC_yX1_hasBarge ok_yX1_hasBarge rfl rfl sh_3 rfl hrest hdg hn k
theorem iv_X3_99 {dep' : Nat} {Qy : Option Value → Mem → Prop} {rest : List Value} {a0 : Value} (hct : Ct G l dep' yX1_hasLock cX1_hasLock 2 (Option.some Jvm.ClassFile.FieldType.boolean) [Value.ref (G.2.2.1 3), a0] μ Qy) (hd : dep' < dep) (hdg : decode cc pc = .ok (.invokevirtual 99, 3)) (hn : pc + 3 = n) (hrest : (rest.map fun v => v.category).sum ≤ 8) (k : ∀ (r : Option Value) (μ' : Mem), Qy r μ' → V G l RX3 cc nL dep lg ret Q n lo (r.toList ++ rest) μ') : V G l RX3 cc nL dep lg ret Q pc lo (a0 :: .ref (G.2.2.1 3) :: rest) μ := R_callV (ci := 1) (id := 3) (As := [a0]) hct hd (by decide) rfl tM_RX3_99 tI_yX1_hasLock tS_yX1_hasLock tN_RX1 tC_yX1_hasLock ok_yX1_hasLock rfl rfl sh_3 rfl hrest hdg hn k
theorem iv_X3_102 {dep' : Nat} {Qy : Option Value → Mem → Prop} {rest : List Value} {a0 : Value} (hct : Ct G l dep' yX1_isPassed cX1_isPassed 2 (Option.some Jvm.ClassFile.FieldType.boolean) [Value.ref (G.2.2.1 3), a0] μ Qy) (hd : dep' < dep) (hdg : decode cc pc = .ok (.invokevirtual 102, 3)) (hn : pc + 3 = n) (hrest : (rest.map fun v => v.category).sum ≤ 8) (k : ∀ (r : Option Value) (μ' : Mem), Qy r μ' → V G l RX3 cc nL dep lg ret Q n lo (r.toList ++ rest) μ') : V G l RX3 cc nL dep lg ret Q pc lo (a0 :: .ref (G.2.2.1 3) :: rest) μ := R_callV (ci := 1) (id := 3) (As := [a0]) hct hd (by decide) rfl tM_RX3_102 tI_yX1_isPassed tS_yX1_isPassed tN_RX1 tC_yX1_isPassed ok_yX1_isPassed rfl rfl sh_3 rfl hrest hdg hn k
theorem ok_yX3_canGiveBoth : okY yX3_canGiveBoth 3 := ⟨by decide +kernel, by decide +kernel, by decide +kernel⟩
theorem iv_X3_91 {dep' : Nat} {Qy : Option Value → Mem → Prop} {rest : List Value} {a0 a1 a2 : Value} (hct : Ct G l dep' yX3_canGiveBoth cX3_canGiveBoth 4 (Option.some Jvm.ClassFile.FieldType.boolean) [Value.ref (G.2.2.1 119), a0, a1, a2] μ Qy) (hd : dep' < dep) (hdg : decode cc pc = .ok (.invokevirtual 91, 3)) (hn : pc + 3 = n) (hrest : (rest.map fun v => v.category).sum ≤ 8) (k : ∀ (r : Option Value) (μ' : Mem), Qy r μ' → V G l RX3 cc nL dep lg ret Q n lo (r.toList ++ rest) μ') : V G l RX3 cc nL dep lg ret Q pc lo (a2 :: a1 :: a0 :: .ref (G.2.2.1 119) :: rest) μ := R_callV (ci := 3) (id := 119) (As := [a0, a1, a2]) hct hd (by decide) rfl tM_RX3_91 tI_yX3_canGiveBoth tS_yX3_canGiveBoth tN_RX3 tC_yX3_canGiveBoth ok_yX3_canGiveBoth rfl rfl sh_119 rfl hrest hdg hn k
theorem ok_yX3_howManyLoads : okY yX3_howManyLoads 1 := ⟨by decide +kernel, by decide +kernel, by decide +kernel⟩
theorem iv_X7_167 {dep' : Nat} {Qy : Option Value → Mem → Prop} {rest : List Value} {a0 : Value} (hct : Ct G l dep' yX3_howManyLoads cX3_howManyLoads 2 (Option.some Jvm.ClassFile.FieldType.int) [Value.ref (G.2.2.1 119), a0] μ Qy) (hd : dep' < dep) (hdg : decode cc pc = .ok (.invokevirtual 167, 3)) (hn : pc + 3 = n) (hrest : (rest.map fun v => v.category).sum ≤ 8) (k : ∀ (r : Option Value) (μ' : Mem), Qy r μ' → V G l RX7 cc nL dep lg ret Q n lo (r.toList ++ rest) μ') : V G l RX7 cc nL dep lg ret Q pc lo (a0 :: .ref (G.2.2.1 119) :: rest) μ := R_callV (ci := 3) (id := 119) (As := [a0]) hct hd (by decide) rfl tM_RX7_167 tI_yX3_howManyLoads tS_yX3_howManyLoads tN_RX3 tC_yX3_howManyLoads ok_yX3_howManyLoads rfl rfl sh_119 rfl hrest hdg hn k
theorem ok_yX7_judge : okY yX7_judge 2 := ⟨by decide +kernel, by decide +kernel, by decide +kernel⟩
theorem iv_L_85 {dep' : Nat} {Qy : Option Value → Mem → Prop} {rest : List Value} {a0 a1 : Value} (hct : Ct G l dep' yX7_judge cX7_judge 3 (Option.some Jvm.ClassFile.FieldType.int) [Value.ref (G.2.2.1 0), a0, a1] μ Qy) (hd : dep' < dep) (hdg : decode cc pc = .ok (.invokevirtual 85, 3)) (hn : pc + 3 = n) (hrest : (rest.map fun v => v.category).sum ≤ 8) (k : ∀ (r : Option Value) (μ' : Mem), Qy r μ' → V G l RL cc nL dep lg ret Q n lo (r.toList ++ rest) μ') : V G l RL cc nL dep lg ret Q pc lo (a1 :: a0 :: .ref (G.2.2.1 0) :: rest) μ := R_callV (ci := 7) (id := 0) (As := [a0, a1]) hct hd (by decide) rfl tM_RL_85 tI_yX7_judge tS_yX7_judge tN_RX7 tC_yX7_judge ok_yX7_judge rfl rfl sh_0 rfl hrest hdg hn k
theorem ok_yX3_spread : okY yX3_spread 2 := ⟨by decide +kernel, by decide +kernel, by decide +kernel⟩
theorem iv_X7_170 {dep' : Nat} {Qy : Option Value → Mem → Prop} {rest : List Value} {a0 a1 : Value} (hct : Ct G l dep' yX3_spread cX3_spread 5 (Option.some Jvm.ClassFile.FieldType.boolean) [Value.ref (G.2.2.1 119), a0, a1] μ Qy) (hd : dep' < dep) (hdg : decode cc pc = .ok (.invokevirtual 170, 3)) (hn : pc + 3 = n) (hrest : (rest.map fun v => v.category).sum ≤ 8) (k : ∀ (r : Option Value) (μ' : Mem), Qy r μ' → V G l RX7 cc nL dep lg ret Q n lo (r.toList ++ rest) μ') : V G l RX7 cc nL dep lg ret Q pc lo (a1 :: a0 :: .ref (G.2.2.1 119) :: rest) μ := R_callV (ci := 3) (id := 119) (As := [a0, a1]) hct hd (by decide) rfl tM_RX7_170 tI_yX3_spread tS_yX3_spread tN_RX3 tC_yX3_spread ok_yX3_spread rfl rfl sh_119 rfl hrest hdg hn k
theorem ok_yX3_firstMisplaced : okY yX3_firstMisplaced 2 := ⟨by decide +kernel, by decide +kernel, by decide +kernel⟩
theorem iv_X7_174 {dep' : Nat} {Qy : Option Value → Mem → Prop} {rest : List Value} {a0 a1 : Value} (hct : Ct G l dep' yX3_firstMisplaced cX3_firstMisplaced 5 (Option.some Jvm.ClassFile.FieldType.int) [Value.ref (G.2.2.1 119), a0, a1] μ Qy) (hd : dep' < dep) (hdg : decode cc pc = .ok (.invokevirtual 174, 3)) (hn : pc + 3 = n) (hrest : (rest.map fun v => v.category).sum ≤ 8) (k : ∀ (r : Option Value) (μ' : Mem), Qy r μ' → V G l RX7 cc nL dep lg ret Q n lo (r.toList ++ rest) μ') : V G l RX7 cc nL dep lg ret Q pc lo (a1 :: a0 :: .ref (G.2.2.1 119) :: rest) μ := R_callV (ci := 3) (id := 119) (As := [a0, a1]) hct hd (by decide) rfl tM_RX7_174 tI_yX3_firstMisplaced tS_yX3_firstMisplaced tN_RX3 tC_yX3_firstMisplaced ok_yX3_firstMisplaced rfl rfl sh_119 rfl hrest hdg hn k
theorem iv_X3_119 {dep' : Nat} {Qy : Option Value → Mem → Prop} {rest : List Value} (hct : Ct G l dep' yX1_atBasin cX1_atBasin 2 (Option.some (Jvm.ClassFile.FieldType.object "EelLocks$State")) [Value.ref (G.2.2.1 3)] μ Qy) (hd : dep' < dep) (hdg : decode cc pc = .ok (.invokevirtual 119, 3)) (hn : pc + 3 = n) (hrest : (rest.map fun v => v.category).sum ≤ 8) (k : ∀ (r : Option Value) (μ' : Mem), Qy r μ' → V G l RX3 cc nL dep lg ret Q n lo (r.toList ++ rest) μ') : V G l RX3 cc nL dep lg ret Q pc lo (.ref (G.2.2.1 3) :: rest) μ := R_callV (ci := 1) (id := 3) (As := []) hct hd (by decide) rfl tM_RX3_119 tI_yX1_atBasin tS_yX1_atBasin tN_RX1 tC_yX1_atBasin ok_yX1_atBasin rfl rfl sh_3 rfl hrest hdg hn k
theorem ok_yX7_share : okY yX7_share 2 := ⟨by decide +kernel, by decide +kernel, by decide +kernel⟩
theorem iv_L_89 {dep' : Nat} {Qy : Option Value → Mem → Prop} {rest : List Value} {a0 a1 : Value} (hct : Ct G l dep' yX7_share cX7_share 3 (Option.some Jvm.ClassFile.FieldType.int) [Value.ref (G.2.2.1 0), a0, a1] μ Qy) (hd : dep' < dep) (hdg : decode cc pc = .ok (.invokevirtual 89, 3)) (hn : pc + 3 = n) (hrest : (rest.map fun v => v.category).sum ≤ 8) (k : ∀ (r : Option Value) (μ' : Mem), Qy r μ' → V G l RL cc nL dep lg ret Q n lo (r.toList ++ rest) μ') : V G l RL cc nL dep lg ret Q pc lo (a1 :: a0 :: .ref (G.2.2.1 0) :: rest) μ := R_callV (ci := 7) (id := 0) (As := [a0, a1]) hct hd (by decide) rfl tM_RL_89 tI_yX7_share tS_yX7_share tN_RX7 tC_yX7_share ok_yX7_share rfl rfl sh_0 rfl hrest hdg hn k
theorem ok_yX3_shareAbove : okY yX3_shareAbove 2 := ⟨by decide +kernel, by decide +kernel, by decide +kernel⟩
theorem iv_X7_177 {dep' : Nat} {Qy : Option Value → Mem → Prop} {rest : List Value} {a0 a1 : Value} (hct : Ct G l dep' yX3_shareAbove cX3_shareAbove 8 (Option.some Jvm.ClassFile.FieldType.int) [Value.ref (G.2.2.1 119), a0, a1] μ Qy) (hd : dep' < dep) (hdg : decode cc pc = .ok (.invokevirtual 177, 3)) (hn : pc + 3 = n) (hrest : (rest.map fun v => v.category).sum ≤ 8) (k : ∀ (r : Option Value) (μ' : Mem), Qy r μ' → V G l RX7 cc nL dep lg ret Q n lo (r.toList ++ rest) μ') : V G l RX7 cc nL dep lg ret Q pc lo (a1 :: a0 :: .ref (G.2.2.1 119) :: rest) μ := R_callV (ci := 3) (id := 119) (As := [a0, a1]) hct hd (by decide) rfl tM_RX7_177 tI_yX3_shareAbove tS_yX3_shareAbove tN_RX3 tC_yX3_shareAbove ok_yX3_shareAbove rfl rfl sh_119 rfl hrest hdg hn k
theorem ok_yJ6_bitCount_0f7a4 : okY yJ6_bitCount_0f7a4 1 := ⟨by decide +kernel, by decide +kernel, by decide +kernel⟩
theorem iv_X3_122 {dep' : Nat} {Qy : Option Value → Mem → Prop} {rest : List Value} {a0 : Value} (hct : Ct G l dep' yJ6_bitCount_0f7a4 cJ6_bitCount_0f7a4 1 (Option.some Jvm.ClassFile.FieldType.int) [a0] μ Qy) (hd : dep' < dep) (hdg : decode cc pc = .ok (.invokestatic 122, 3)) (hn : pc + 3 = n) (hrest : (rest.map fun v => v.category).sum ≤ 8) (k : ∀ (r : Option Value) (μ' : Mem), Qy r μ' → V G l RX3 cc nL dep lg ret Q n lo (r.toList ++ rest) μ') : V G l RX3 cc nL dep lg ret Q pc lo (a0 :: rest) μ := R_callS hct hd (by decide) tM_RX3_122 tT_yJ6_bitCount_0f7a4 tN_RJ6 tC_yJ6_bitCount_0f7a4 ok_yJ6_bitCount_0f7a4 rfl rfl hrest hdg hn k
theorem ok_yX3_lastHourOf : okY yX3_lastHourOf 2 := ⟨by decide +kernel, by decide +kernel, by decide +kernel⟩
theorem iv_X3_127 {dep' : Nat} {Qy : Option Value → Mem → Prop} {rest : List Value} {a0 a1 : Value} (hct : Ct G l dep' yX3_lastHourOf cX3_lastHourOf 6 (Option.some Jvm.ClassFile.FieldType.int) [Value.ref (G.2.2.1 119), a0, a1] μ Qy) (hd : dep' < dep) (hdg : decode cc pc = .ok (.invokevirtual 127, 3)) (hn : pc + 3 = n) (hrest : (rest.map fun v => v.category).sum ≤ 8) (k : ∀ (r : Option Value) (μ' : Mem), Qy r μ' → V G l RX3 cc nL dep lg ret Q n lo (r.toList ++ rest) μ') : V G l RX3 cc nL dep lg ret Q pc lo (a1 :: a0 :: .ref (G.2.2.1 119) :: rest) μ := R_callV (ci := 3) (id := 119) (As := [a0, a1]) hct hd (by decide) rfl tM_RX3_127 tI_yX3_lastHourOf tS_yX3_lastHourOf tN_RX3 tC_yX3_lastHourOf ok_yX3_lastHourOf rfl rfl sh_119 rfl hrest hdg hn k
theorem iv_X3_131 {dep' : Nat} {Qy : Option Value → Mem → Prop} {rest : List Value} {id : Nat} (hct : Ct G l dep' yX5_clearHours cX5_clearHours 2 (Option.none : Option Jvm.ClassFile.FieldType) [Value.ref (G.2.2.1 id)] μ Qy) (hs : StB id) (hd : dep' < dep) (hdg : decode cc pc = .ok (.invokevirtual 131, 3)) (hn : pc + 3 = n) (hrest : (rest.map fun v => v.category).sum ≤ 8) (k : ∀ (r : Option Value) (μ' : Mem), Qy r μ' → V G l RX3 cc nL dep lg ret Q n lo (r.toList ++ rest) μ') : V G l RX3 cc nL dep lg ret Q pc lo (.ref (G.2.2.1 id) :: rest) μ := R_callV (ci := 5) (id := id) (As := []) hct hd (by decide) rfl tM_RX3_131 tI_yX5_clearHours tS_yX5_clearHours tN_RX5 tC_yX5_clearHours ok_yX5_clearHours rfl rfl hs.1 rfl hrest hdg hn k
theorem ok_yX5_greatestHour : okY yX5_greatestHour 0 := ⟨by decide +kernel, by decide +kernel, by decide +kernel⟩
theorem iv_X3_137 {dep' : Nat} {Qy : Option Value → Mem → Prop} {rest : List Value} {id : Nat} (hct : Ct G l dep' yX5_greatestHour cX5_greatestHour 3 (Option.some Jvm.ClassFile.FieldType.int) [Value.ref (G.2.2.1 id)] μ Qy) (hs : StB id) (hd : dep' < dep) (hdg : decode cc pc = .ok (.invokevirtual 137, 3)) (hn : pc + 3 = n) (hrest : (rest.map fun v => v.category).sum ≤ 8) (k : ∀ (r : Option Value) (μ' : Mem), Qy r μ' → V G l RX3 cc nL dep lg ret Q n lo (r.toList ++ rest) μ') : V G l RX3 cc nL dep lg ret Q pc lo (.ref (G.2.2.1 id) :: rest) μ := R_callV (ci := 5) (id := id) (As := []) hct hd (by decide) rfl tM_RX3_137 tI_yX5_greatestHour tS_yX5_greatestHour tN_RX5 tC_yX5_greatestHour ok_yX5_greatestHour rfl rfl hs.1 rfl hrest hdg hn k
theorem iv_X5_43 {dep' : Nat} {Qy : Option Value → Mem → Prop} {rest : List Value} {a0 a1 : Value} (hct : Ct G l dep' yJ9_max_7cf53 cJ9_max_7cf53 2 (Option.some Jvm.ClassFile.FieldType.int) [a0, a1] μ Qy) (hd : dep' < dep) (hdg : decode cc pc = .ok (.invokestatic 43, 3)) (hn : pc + 3 = n) (hrest : (rest.map fun v => v.category).sum ≤ 8) (k : ∀ (r : Option Value) (μ' : Mem), Qy r μ' → V G l RX5 cc nL dep lg ret Q n lo (r.toList ++ rest) μ') : V G l RX5 cc nL dep lg ret Q pc lo (a1 :: a0 :: rest) μ := R_callS hct hd (by decide) tM_RX5_43 tT_yJ9_max_7cf53 tN_RJ9 tC_yJ9_max_7cf53 ok_yJ9_max_7cf53 rfl rfl hrest hdg hn k
theorem ok_yX7_tellFraction : okY yX7_tellFraction 3 := ⟨by decide +kernel, by decide +kernel, by decide +kernel⟩
theorem iv_X7_183 {dep' : Nat} {Qy : Option Value → Mem → Prop} {rest : List Value} {a0 a1 a2 : Value} (hct : Ct G l dep' yX7_tellFraction cX7_tellFraction 5 (Option.some Jvm.ClassFile.FieldType.int) [a0, a1, a2] μ Qy) (hd : dep' < dep) (hdg : decode cc pc = .ok (.invokestatic 183, 3)) (hn : pc + 3 = n) (hrest : (rest.map fun v => v.category).sum ≤ 8) (k : ∀ (r : Option Value) (μ' : Mem), Qy r μ' → V G l RX7 cc nL dep lg ret Q n lo (r.toList ++ rest) μ') : V G l RX7 cc nL dep lg ret Q pc lo (a2 :: a1 :: a0 :: rest) μ := R_callS hct hd (by decide) tM_RX7_183 tT_yX7_tellFraction tN_RX7 tC_yX7_tellFraction ok_yX7_tellFraction rfl rfl hrest hdg hn k
theorem ok_yJ9_abs_0f7a4 : okY yJ9_abs_0f7a4 1 := ⟨by decide +kernel, by decide +kernel, by decide +kernel⟩
theorem iv_X7_260 {dep' : Nat} {Qy : Option Value → Mem → Prop} {rest : List Value} {a0 : Value} (hct : Ct G l dep' yJ9_abs_0f7a4 cJ9_abs_0f7a4 1 (Option.some Jvm.ClassFile.FieldType.int) [a0] μ Qy) (hd : dep' < dep) (hdg : decode cc pc = .ok (.invokestatic 260, 3)) (hn : pc + 3 = n) (hrest : (rest.map fun v => v.category).sum ≤ 8) (k : ∀ (r : Option Value) (μ' : Mem), Qy r μ' → V G l RX7 cc nL dep lg ret Q n lo (r.toList ++ rest) μ') : V G l RX7 cc nL dep lg ret Q pc lo (a0 :: rest) μ := R_callS hct hd (by decide) tM_RX7_260 tT_yJ9_abs_0f7a4 tN_RJ9 tC_yJ9_abs_0f7a4 ok_yJ9_abs_0f7a4 rfl rfl hrest hdg hn k
theorem ok_yX7_greatestDivisor : okY yX7_greatestDivisor 2 := ⟨by decide +kernel, by decide +kernel, by decide +kernel⟩
theorem iv_X7_265 {dep' : Nat} {Qy : Option Value → Mem → Prop} {rest : List Value} {a0 a1 : Value} (hct : Ct G l dep' yX7_greatestDivisor cX7_greatestDivisor 6 (Option.some Jvm.ClassFile.FieldType.int) [a0, a1] μ Qy) (hd : dep' < dep) (hdg : decode cc pc = .ok (.invokestatic 265, 3)) (hn : pc + 3 = n) (hrest : (rest.map fun v => v.category).sum ≤ 8) (k : ∀ (r : Option Value) (μ' : Mem), Qy r μ' → V G l RX7 cc nL dep lg ret Q n lo (r.toList ++ rest) μ') : V G l RX7 cc nL dep lg ret Q pc lo (a1 :: a0 :: rest) μ := R_callS hct hd (by decide) tM_RX7_265 tT_yX7_greatestDivisor tN_RX7 tC_yX7_greatestDivisor ok_yX7_greatestDivisor rfl rfl hrest hdg hn k
theorem ok_yX7_gave : okY yX7_gave 3 := ⟨by decide +kernel, by decide +kernel, by decide +kernel⟩
theorem iv_L_94 {dep' : Nat} {Qy : Option Value → Mem → Prop} {rest : List Value} {a0 a1 a2 : Value} (hct : Ct G l dep' yX7_gave cX7_gave 4 (Option.some Jvm.ClassFile.FieldType.int) [Value.ref (G.2.2.1 0), a0, a1, a2] μ Qy) (hd : dep' < dep) (hdg : decode cc pc = .ok (.invokevirtual 94, 3)) (hn : pc + 3 = n) (hrest : (rest.map fun v => v.category).sum ≤ 8) (k : ∀ (r : Option Value) (μ' : Mem), Qy r μ' → V G l RL cc nL dep lg ret Q n lo (r.toList ++ rest) μ') : V G l RL cc nL dep lg ret Q pc lo (a2 :: a1 :: a0 :: .ref (G.2.2.1 0) :: rest) μ := R_callV (ci := 7) (id := 0) (As := [a0, a1, a2]) hct hd (by decide) rfl tM_RL_94 tI_yX7_gave tS_yX7_gave tN_RX7 tC_yX7_gave ok_yX7_gave rfl rfl sh_0 rfl hrest hdg hn k
theorem ok_yX3_areAllBarges : okY yX3_areAllBarges 2 := ⟨by decide +kernel, by decide +kernel, by decide +kernel⟩
theorem iv_X7_187 {dep' : Nat} {Qy : Option Value → Mem → Prop} {rest : List Value} {a0 a1 : Value} (hct : Ct G l dep' yX3_areAllBarges cX3_areAllBarges 5 (Option.some Jvm.ClassFile.FieldType.boolean) [Value.ref (G.2.2.1 119), a0, a1] μ Qy) (hd : dep' < dep) (hdg : decode cc pc = .ok (.invokevirtual 187, 3)) (hn : pc + 3 = n) (hrest : (rest.map fun v => v.category).sum ≤ 8) (k : ∀ (r : Option Value) (μ' : Mem), Qy r μ' → V G l RX7 cc nL dep lg ret Q n lo (r.toList ++ rest) μ') : V G l RX7 cc nL dep lg ret Q pc lo (a1 :: a0 :: .ref (G.2.2.1 119) :: rest) μ := R_callV (ci := 3) (id := 119) (As := [a0, a1]) hct hd (by decide) rfl tM_RX7_187 tI_yX3_areAllBarges tS_yX3_areAllBarges tN_RX3 tC_yX3_areAllBarges ok_yX3_areAllBarges rfl rfl sh_119 rfl hrest hdg hn k
theorem iv_X3_116 {dep' : Nat} {Qy : Option Value → Mem → Prop} {rest : List Value} {a0 a1 : Value} (hct : Ct G l dep' yX3_spread cX3_spread 5 (Option.some Jvm.ClassFile.FieldType.boolean) [Value.ref (G.2.2.1 119), a0, a1] μ Qy) (hd : dep' < dep) (hdg : decode cc pc = .ok (.invokevirtual 116, 3)) (hn : pc + 3 = n) (hrest : (rest.map fun v => v.category).sum ≤ 8) (k : ∀ (r : Option Value) (μ' : Mem), Qy r μ' → V G l RX3 cc nL dep lg ret Q n lo (r.toList ++ rest) μ') : V G l RX3 cc nL dep lg ret Q pc lo (a1 :: a0 :: .ref (G.2.2.1 119) :: rest) μ := R_callV (ci := 3) (id := 119) (As := [a0, a1]) hct hd (by decide) rfl tM_RX3_116 tI_yX3_spread tS_yX3_spread tN_RX3 tC_yX3_spread ok_yX3_spread rfl rfl sh_119 rfl hrest hdg hn k
theorem ok_yX2_findGivers : okY yX2_findGivers 3 := ⟨by decide +kernel, by decide +kernel, by decide +kernel⟩
theorem iv_X7_191 {dep' : Nat} {Qy : Option Value → Mem → Prop} {rest : List Value} {a0 a1 a2 : Value} (hct : Ct G l dep' yX2_findGivers cX2_findGivers 7 (Option.none : Option Jvm.ClassFile.FieldType) [Value.ref (G.2.2.1 122), a0, a1, a2] μ Qy) (hd : dep' < dep) (hdg : decode cc pc = .ok (.invokevirtual 191, 3)) (hn : pc + 3 = n) (hrest : (rest.map fun v => v.category).sum ≤ 8) (k : ∀ (r : Option Value) (μ' : Mem), Qy r μ' → V G l RX7 cc nL dep lg ret Q n lo (r.toList ++ rest) μ') : V G l RX7 cc nL dep lg ret Q pc lo (a2 :: a1 :: a0 :: .ref (G.2.2.1 122) :: rest) μ := R_callV (ci := 2) (id := 122) (As := [a0, a1, a2]) hct hd (by decide) rfl tM_RX7_191 tI_yX2_findGivers tS_yX2_findGivers tN_RX2 tC_yX2_findGivers ok_yX2_findGivers rfl rfl sh_122 rfl hrest hdg hn k
theorem ok_yX2_comesOutSo : okY yX2_comesOutSo 4 := ⟨by decide +kernel, by decide +kernel, by decide +kernel⟩
theorem iv_X2_30 {dep' : Nat} {Qy : Option Value → Mem → Prop} {rest : List Value} {a0 a1 a2 a3 : Value} (hct : Ct G l dep' yX2_comesOutSo cX2_comesOutSo 6 (Option.some Jvm.ClassFile.FieldType.boolean) [Value.ref (G.2.2.1 122), a0, a1, a2, a3] μ Qy) (hd : dep' < dep) (hdg : decode cc pc = .ok (.invokevirtual 30, 3)) (hn : pc + 3 = n) (hrest : (rest.map fun v => v.category).sum ≤ 8) (k : ∀ (r : Option Value) (μ' : Mem), Qy r μ' → V G l RX2 cc nL dep lg ret Q n lo (r.toList ++ rest) μ') : V G l RX2 cc nL dep lg ret Q pc lo (a3 :: a2 :: a1 :: a0 :: .ref (G.2.2.1 122) :: rest) μ := R_callV (ci := 2) (id := 122) (As := [a0, a1, a2, a3]) hct hd (by decide) rfl tM_RX2_30 tI_yX2_comesOutSo tS_yX2_comesOutSo tN_RX2 tC_yX2_comesOutSo ok_yX2_comesOutSo rfl rfl sh_122 rfl hrest hdg hn k
theorem iv_X2_37 {dep' : Nat} {Qy : Option Value → Mem → Prop} {rest : List Value} (hct : Ct G l dep' yX1_newTrial cX1_newTrial 1 (Option.some (Jvm.ClassFile.FieldType.object "EelLocks$State")) [Value.ref (G.2.2.1 3)] μ Qy) (hd : dep' < dep) (hdg : decode cc pc = .ok (.invokevirtual 37, 3)) (hn : pc + 3 = n) (hrest : (rest.map fun v => v.category).sum ≤ 8) (k : ∀ (r : Option Value) (μ' : Mem), Qy r μ' → V G l RX2 cc nL dep lg ret Q n lo (r.toList ++ rest) μ') : V G l RX2 cc nL dep lg ret Q pc lo (.ref (G.2.2.1 3) :: rest) μ := R_callV (ci := 1) (id := 3) (As := []) hct hd (by decide) rfl tM_RX2_37 tI_yX1_newTrial tS_yX1_newTrial tN_RX1 tC_yX1_newTrial ok_yX1_newTrial rfl rfl sh_3 rfl hrest hdg hn k
theorem ok_yX2_addGivers : okY yX2_addGivers 4 := ⟨by decide +kernel, by decide +kernel, by decide +kernel⟩
theorem iv_X2_46 {dep' : Nat} {Qy : Option Value → Mem → Prop} {rest : List Value} {a0 a1 a2 a3 : Value} (hct : Ct G l dep' yX2_addGivers cX2_addGivers 6 (Option.none : Option Jvm.ClassFile.FieldType) [Value.ref (G.2.2.1 122), a0, a1, a2, a3] μ Qy) (hd : dep' < dep) (hdg : decode cc pc = .ok (.invokevirtual 46, 3)) (hn : pc + 3 = n) (hrest : (rest.map fun v => v.category).sum ≤ 8) (k : ∀ (r : Option Value) (μ' : Mem), Qy r μ' → V G l RX2 cc nL dep lg ret Q n lo (r.toList ++ rest) μ') : V G l RX2 cc nL dep lg ret Q pc lo (a3 :: a2 :: a1 :: a0 :: .ref (G.2.2.1 122) :: rest) μ := R_callV (ci := 2) (id := 122) (As := [a0, a1, a2, a3]) hct hd (by decide) rfl tM_RX2_46 tI_yX2_addGivers tS_yX2_addGivers tN_RX2 tC_yX2_addGivers ok_yX2_addGivers rfl rfl sh_122 rfl hrest hdg hn k
theorem iv_X2_58 {dep' : Nat} {Qy : Option Value → Mem → Prop} {rest : List Value} {a0 a1 a2 : Value} {id : Nat} (hct : Ct G l dep' yX5_addLoads cX5_addLoads 4 (Option.none : Option Jvm.ClassFile.FieldType) [Value.ref (G.2.2.1 id), a0, a1, a2] μ Qy) (hs : StB id) (hd : dep' < dep) (hdg : decode cc pc = .ok (.invokevirtual 58, 3)) (hn : pc + 3 = n) (hrest : (rest.map fun v => v.category).sum ≤ 8) (k : ∀ (r : Option Value) (μ' : Mem), Qy r μ' → V G l RX2 cc nL dep lg ret Q n lo (r.toList ++ rest) μ') : V G l RX2 cc nL dep lg ret Q pc lo (a2 :: a1 :: a0 :: .ref (G.2.2.1 id) :: rest) μ := R_callV (ci := 5) (id := id) (As := [a0, a1, a2]) hct hd (by decide) rfl tM_RX2_58 tI_yX5_addLoads tS_yX5_addLoads tN_RX5 tC_yX5_addLoads ok_yX5_addLoads rfl rfl hs.1 rfl hrest hdg hn k
theorem iv_X2_50 {dep' : Nat} {Qy : Option Value → Mem → Prop} {rest : List Value} {a0 a1 : Value} (hct : Ct G l dep' yX1_goOnTo cX1_goOnTo 4 (Option.none : Option Jvm.ClassFile.FieldType) [Value.ref (G.2.2.1 3), a0, a1] μ Qy) (hd : dep' < dep) (hdg : decode cc pc = .ok (.invokevirtual 50, 3)) (hn : pc + 3 = n) (hrest : (rest.map fun v => v.category).sum ≤ 8) (k : ∀ (r : Option Value) (μ' : Mem), Qy r μ' → V G l RX2 cc nL dep lg ret Q n lo (r.toList ++ rest) μ') : V G l RX2 cc nL dep lg ret Q pc lo (a1 :: a0 :: .ref (G.2.2.1 3) :: rest) μ := R_callV (ci := 1) (id := 3) (As := [a0, a1]) hct hd (by decide) rfl tM_RX2_50 tI_yX1_goOnTo tS_yX1_goOnTo tN_RX1 tC_yX1_goOnTo ok_yX1_goOnTo rfl rfl sh_3 rfl hrest hdg hn k
theorem iv_X2_54 {dep' : Nat} {Qy : Option Value → Mem → Prop} {rest : List Value} {id : Nat} (hct : Ct G l dep' yX5_figures cX5_figures 3 (Option.some Jvm.ClassFile.FieldType.int) [Value.ref (G.2.2.1 id)] μ Qy) (hs : StB id) (hd : dep' < dep) (hdg : decode cc pc = .ok (.invokevirtual 54, 3)) (hn : pc + 3 = n) (hrest : (rest.map fun v => v.category).sum ≤ 8) (k : ∀ (r : Option Value) (μ' : Mem), Qy r μ' → V G l RX2 cc nL dep lg ret Q n lo (r.toList ++ rest) μ') : V G l RX2 cc nL dep lg ret Q pc lo (.ref (G.2.2.1 id) :: rest) μ := R_callV (ci := 5) (id := id) (As := []) hct hd (by decide) rfl tM_RX2_54 tI_yX5_figures tS_yX5_figures tN_RX5 tC_yX5_figures ok_yX5_figures rfl rfl hs.1 rfl hrest hdg hn k
theorem ok_yX7_rests : okY yX7_rests 4 := ⟨by decide +kernel, by decide +kernel, by decide +kernel⟩
theorem iv_L_99 {dep' : Nat} {Qy : Option Value → Mem → Prop} {rest : List Value} {a0 a1 a2 a3 : Value} (hct : Ct G l dep' yX7_rests cX7_rests 5 (Option.some Jvm.ClassFile.FieldType.int) [Value.ref (G.2.2.1 0), a0, a1, a2, a3] μ Qy) (hd : dep' < dep) (hdg : decode cc pc = .ok (.invokevirtual 99, 3)) (hn : pc + 3 = n) (hrest : (rest.map fun v => v.category).sum ≤ 8) (k : ∀ (r : Option Value) (μ' : Mem), Qy r μ' → V G l RL cc nL dep lg ret Q n lo (r.toList ++ rest) μ') : V G l RL cc nL dep lg ret Q pc lo (a3 :: a2 :: a1 :: a0 :: .ref (G.2.2.1 0) :: rest) μ := R_callV (ci := 7) (id := 0) (As := [a0, a1, a2, a3]) hct hd (by decide) rfl tM_RL_99 tI_yX7_rests tS_yX7_rests tN_RX7 tC_yX7_rests ok_yX7_rests rfl rfl sh_0 rfl hrest hdg hn k
theorem ok_yX2_findRests : okY yX2_findRests 4 := ⟨by decide +kernel, by decide +kernel, by decide +kernel⟩
theorem iv_X7_204 {dep' : Nat} {Qy : Option Value → Mem → Prop} {rest : List Value} {a0 a1 a2 a3 : Value} (hct : Ct G l dep' yX2_findRests cX2_findRests 7 (Option.none : Option Jvm.ClassFile.FieldType) [Value.ref (G.2.2.1 122), a0, a1, a2, a3] μ Qy) (hd : dep' < dep) (hdg : decode cc pc = .ok (.invokevirtual 204, 3)) (hn : pc + 3 = n) (hrest : (rest.map fun v => v.category).sum ≤ 8) (k : ∀ (r : Option Value) (μ' : Mem), Qy r μ' → V G l RX7 cc nL dep lg ret Q n lo (r.toList ++ rest) μ') : V G l RX7 cc nL dep lg ret Q pc lo (a3 :: a2 :: a1 :: a0 :: .ref (G.2.2.1 122) :: rest) μ := R_callV (ci := 2) (id := 122) (As := [a0, a1, a2, a3]) hct hd (by decide) rfl tM_RX7_204 tI_yX2_findRests tS_yX2_findRests tN_RX2 tC_yX2_findRests ok_yX2_findRests rfl rfl sh_122 rfl hrest hdg hn k
theorem ok_yX2_findLosses : okY yX2_findLosses 4 := ⟨by decide +kernel, by decide +kernel, by decide +kernel⟩
theorem iv_X2_62 {dep' : Nat} {Qy : Option Value → Mem → Prop} {rest : List Value} {a0 a1 a2 a3 : Value} (hct : Ct G l dep' yX2_findLosses cX2_findLosses 8 (Option.none : Option Jvm.ClassFile.FieldType) [Value.ref (G.2.2.1 122), a0, a1, a2, a3] μ Qy) (hd : dep' < dep) (hdg : decode cc pc = .ok (.invokevirtual 62, 3)) (hn : pc + 3 = n) (hrest : (rest.map fun v => v.category).sum ≤ 8) (k : ∀ (r : Option Value) (μ' : Mem), Qy r μ' → V G l RX2 cc nL dep lg ret Q n lo (r.toList ++ rest) μ') : V G l RX2 cc nL dep lg ret Q pc lo (a3 :: a2 :: a1 :: a0 :: .ref (G.2.2.1 122) :: rest) μ := R_callV (ci := 2) (id := 122) (As := [a0, a1, a2, a3]) hct hd (by decide) rfl tM_RX2_62 tI_yX2_findLosses tS_yX2_findLosses tN_RX2 tC_yX2_findLosses ok_yX2_findLosses rfl rfl sh_122 rfl hrest hdg hn k
theorem iv_X2_76 {dep' : Nat} {Qy : Option Value → Mem → Prop} {rest : List Value} {a0 : Value} {id : Nat} (hct : Ct G l dep' yX5_placeOf cX5_placeOf 3 (Option.some Jvm.ClassFile.FieldType.int) [Value.ref (G.2.2.1 id), a0] μ Qy) (hs : StB id) (hd : dep' < dep) (hdg : decode cc pc = .ok (.invokevirtual 76, 3)) (hn : pc + 3 = n) (hrest : (rest.map fun v => v.category).sum ≤ 8) (k : ∀ (r : Option Value) (μ' : Mem), Qy r μ' → V G l RX2 cc nL dep lg ret Q n lo (r.toList ++ rest) μ') : V G l RX2 cc nL dep lg ret Q pc lo (a0 :: .ref (G.2.2.1 id) :: rest) μ := R_callV (ci := 5) (id := id) (As := [a0]) hct hd (by decide) rfl tM_RX2_76 tI_yX5_placeOf tS_yX5_placeOf tN_RX5 tC_yX5_placeOf ok_yX5_placeOf rfl rfl hs.1 rfl hrest hdg hn k
theorem ok_yX2_isAtRest : okY yX2_isAtRest 2 := ⟨by decide +kernel, by decide +kernel, by decide +kernel⟩
theorem iv_X2_69 {dep' : Nat} {Qy : Option Value → Mem → Prop} {rest : List Value} {a0 a1 : Value} (hct : Ct G l dep' yX2_isAtRest cX2_isAtRest 4 (Option.some Jvm.ClassFile.FieldType.boolean) [Value.ref (G.2.2.1 122), a0, a1] μ Qy) (hd : dep' < dep) (hdg : decode cc pc = .ok (.invokevirtual 69, 3)) (hn : pc + 3 = n) (hrest : (rest.map fun v => v.category).sum ≤ 8) (k : ∀ (r : Option Value) (μ' : Mem), Qy r μ' → V G l RX2 cc nL dep lg ret Q n lo (r.toList ++ rest) μ') : V G l RX2 cc nL dep lg ret Q pc lo (a1 :: a0 :: .ref (G.2.2.1 122) :: rest) μ := R_callV (ci := 2) (id := 122) (As := [a0, a1]) hct hd (by decide) rfl tM_RX2_69 tI_yX2_isAtRest tS_yX2_isAtRest tN_RX2 tC_yX2_isAtRest ok_yX2_isAtRest rfl rfl sh_122 rfl hrest hdg hn k
theorem ok_yX7_asleep : okY yX7_asleep 4 := ⟨by decide +kernel, by decide +kernel, by decide +kernel⟩
theorem iv_L_104 {dep' : Nat} {Qy : Option Value → Mem → Prop} {rest : List Value} {a0 a1 a2 a3 : Value} (hct : Ct G l dep' yX7_asleep cX7_asleep 6 (Option.some Jvm.ClassFile.FieldType.int) [Value.ref (G.2.2.1 0), a0, a1, a2, a3] μ Qy) (hd : dep' < dep) (hdg : decode cc pc = .ok (.invokevirtual 104, 3)) (hn : pc + 3 = n) (hrest : (rest.map fun v => v.category).sum ≤ 8) (k : ∀ (r : Option Value) (μ' : Mem), Qy r μ' → V G l RL cc nL dep lg ret Q n lo (r.toList ++ rest) μ') : V G l RL cc nL dep lg ret Q pc lo (a3 :: a2 :: a1 :: a0 :: .ref (G.2.2.1 0) :: rest) μ := R_callV (ci := 7) (id := 0) (As := [a0, a1, a2, a3]) hct hd (by decide) rfl tM_RL_104 tI_yX7_asleep tS_yX7_asleep tN_RX7 tC_yX7_asleep ok_yX7_asleep rfl rfl sh_0 rfl hrest hdg hn k
theorem ok_yX7_power : okY yX7_power 2 := ⟨by decide +kernel, by decide +kernel, by decide +kernel⟩
theorem iv_X7_211 {dep' : Nat} {Qy : Option Value → Mem → Prop} {rest : List Value} {a0 a1 : Value} (hct : Ct G l dep' yX7_power cX7_power 4 (Option.some Jvm.ClassFile.FieldType.int) [a0, a1] μ Qy) (hd : dep' < dep) (hdg : decode cc pc = .ok (.invokestatic 211, 3)) (hn : pc + 3 = n) (hrest : (rest.map fun v => v.category).sum ≤ 8) (k : ∀ (r : Option Value) (μ' : Mem), Qy r μ' → V G l RX7 cc nL dep lg ret Q n lo (r.toList ++ rest) μ') : V G l RX7 cc nL dep lg ret Q pc lo (a1 :: a0 :: rest) μ := R_callS hct hd (by decide) tM_RX7_211 tT_yX7_power tN_RX7 tC_yX7_power ok_yX7_power rfl rfl hrest hdg hn k
theorem ok_yX2_asleepAbove : okY yX2_asleepAbove 4 := ⟨by decide +kernel, by decide +kernel, by decide +kernel⟩
theorem iv_X7_214 {dep' : Nat} {Qy : Option Value → Mem → Prop} {rest : List Value} {a0 a1 a2 a3 : Value} (hct : Ct G l dep' yX2_asleepAbove cX2_asleepAbove 9 (Option.some Jvm.ClassFile.FieldType.int) [Value.ref (G.2.2.1 122), a0, a1, a2, a3] μ Qy) (hd : dep' < dep) (hdg : decode cc pc = .ok (.invokevirtual 214, 3)) (hn : pc + 3 = n) (hrest : (rest.map fun v => v.category).sum ≤ 8) (k : ∀ (r : Option Value) (μ' : Mem), Qy r μ' → V G l RX7 cc nL dep lg ret Q n lo (r.toList ++ rest) μ') : V G l RX7 cc nL dep lg ret Q pc lo (a3 :: a2 :: a1 :: a0 :: .ref (G.2.2.1 122) :: rest) μ := R_callV (ci := 2) (id := 122) (As := [a0, a1, a2, a3]) hct hd (by decide) rfl tM_RX7_214 tI_yX2_asleepAbove tS_yX2_asleepAbove tN_RX2 tC_yX2_asleepAbove ok_yX2_asleepAbove rfl rfl sh_122 rfl hrest hdg hn k
theorem iv_X2_80 {dep' : Nat} {Qy : Option Value → Mem → Prop} {rest : List Value} (hct : Ct G l dep' yX1_locksLeft cX1_locksLeft 1 (Option.some Jvm.ClassFile.FieldType.int) [Value.ref (G.2.2.1 3)] μ Qy) (hd : dep' < dep) (hdg : decode cc pc = .ok (.invokevirtual 80, 3)) (hn : pc + 3 = n) (hrest : (rest.map fun v => v.category).sum ≤ 8) (k : ∀ (r : Option Value) (μ' : Mem), Qy r μ' → V G l RX2 cc nL dep lg ret Q n lo (r.toList ++ rest) μ') : V G l RX2 cc nL dep lg ret Q pc lo (.ref (G.2.2.1 3) :: rest) μ := R_callV (ci := 1) (id := 3) (As := []) hct hd (by decide) rfl tM_RX2_80 tI_yX1_locksLeft tS_yX1_locksLeft tN_RX1 tC_yX1_locksLeft ok_yX1_locksLeft rfl rfl sh_3 rfl hrest hdg hn k
theorem ok_yX2_isAtWith : okY yX2_isAtWith 4 := ⟨by decide +kernel, by decide +kernel, by decide +kernel⟩
theorem iv_X2_83 {dep' : Nat} {Qy : Option Value → Mem → Prop} {rest : List Value} {a0 a1 a2 a3 : Value} (hct : Ct G l dep' yX2_isAtWith cX2_isAtWith 7 (Option.some Jvm.ClassFile.FieldType.boolean) [Value.ref (G.2.2.1 122), a0, a1, a2, a3] μ Qy) (hd : dep' < dep) (hdg : decode cc pc = .ok (.invokevirtual 83, 3)) (hn : pc + 3 = n) (hrest : (rest.map fun v => v.category).sum ≤ 8) (k : ∀ (r : Option Value) (μ' : Mem), Qy r μ' → V G l RX2 cc nL dep lg ret Q n lo (r.toList ++ rest) μ') : V G l RX2 cc nL dep lg ret Q pc lo (a3 :: a2 :: a1 :: a0 :: .ref (G.2.2.1 122) :: rest) μ := R_callV (ci := 2) (id := 122) (As := [a0, a1, a2, a3]) hct hd (by decide) rfl tM_RX2_83 tI_yX2_isAtWith tS_yX2_isAtWith tN_RX2 tC_yX2_isAtWith ok_yX2_isAtWith rfl rfl sh_122 rfl hrest hdg hn k
theorem iv_X2_98 {dep' : Nat} {Qy : Option Value → Mem → Prop} {rest : List Value} {a0 a1 : Value} {id : Nat} (hct : Ct G l dep' yX5_isAt cX5_isAt 3 (Option.some Jvm.ClassFile.FieldType.boolean) [Value.ref (G.2.2.1 id), a0, a1] μ Qy) (hs : StB id) (hd : dep' < dep) (hdg : decode cc pc = .ok (.invokevirtual 98, 3)) (hn : pc + 3 = n) (hrest : (rest.map fun v => v.category).sum ≤ 8) (k : ∀ (r : Option Value) (μ' : Mem), Qy r μ' → V G l RX2 cc nL dep lg ret Q n lo (r.toList ++ rest) μ') : V G l RX2 cc nL dep lg ret Q pc lo (a1 :: a0 :: .ref (G.2.2.1 id) :: rest) μ := R_callV (ci := 5) (id := id) (As := [a0, a1]) hct hd (by decide) rfl tM_RX2_98 tI_yX5_isAt tS_yX5_isAt tN_RX5 tC_yX5_isAt ok_yX5_isAt rfl rfl hs.1 rfl hrest hdg hn k
theorem iv_X2_86 {dep' : Nat} {Qy : Option Value → Mem → Prop} {rest : List Value} {a0 : Value} (hct : Ct G l dep' yJ6_bitCount_0f7a4 cJ6_bitCount_0f7a4 1 (Option.some Jvm.ClassFile.FieldType.int) [a0] μ Qy) (hd : dep' < dep) (hdg : decode cc pc = .ok (.invokestatic 86, 3)) (hn : pc + 3 = n) (hrest : (rest.map fun v => v.category).sum ≤ 8) (k : ∀ (r : Option Value) (μ' : Mem), Qy r μ' → V G l RX2 cc nL dep lg ret Q n lo (r.toList ++ rest) μ') : V G l RX2 cc nL dep lg ret Q pc lo (a0 :: rest) μ := R_callS hct hd (by decide) tM_RX2_86 tT_yJ6_bitCount_0f7a4 tN_RJ6 tC_yJ6_bitCount_0f7a4 ok_yJ6_bitCount_0f7a4 rfl rfl hrest hdg hn k
theorem ok_yX7_seed : okY yX7_seed 1 := ⟨by decide +kernel, by decide +kernel, by decide +kernel⟩
theorem iv_L_111 {dep' : Nat} {Qy : Option Value → Mem → Prop} {rest : List Value} {a0 : Value} (hct : Ct G l dep' yX7_seed cX7_seed 5 (Option.some Jvm.ClassFile.FieldType.long) [Value.ref (G.2.2.1 0), a0] μ Qy) (hd : dep' < dep) (hdg : decode cc pc = .ok (.invokevirtual 111, 3)) (hn : pc + 3 = n) (hrest : (rest.map fun v => v.category).sum ≤ 8) (k : ∀ (r : Option Value) (μ' : Mem), Qy r μ' → V G l RL cc nL dep lg ret Q n lo (r.toList ++ rest) μ') : V G l RL cc nL dep lg ret Q pc lo (a0 :: .ref (G.2.2.1 0) :: rest) μ := R_callV (ci := 7) (id := 0) (As := [a0]) hct hd (by decide) rfl tM_RL_111 tI_yX7_seed tS_yX7_seed tN_RX7 tC_yX7_seed ok_yX7_seed rfl rfl sh_0 rfl hrest hdg hn k
theorem ok_yX7_days : okY yX7_days 2 := ⟨by decide +kernel, by decide +kernel, by decide +kernel⟩
theorem iv_L_116 {dep' : Nat} {Qy : Option Value → Mem → Prop} {rest : List Value} {a0 a1 : Value} (hct : Ct G l dep' yX7_days cX7_days 6 (Option.some Jvm.ClassFile.FieldType.int) [Value.ref (G.2.2.1 0), a0, a1] μ Qy) (hd : dep' < dep) (hdg : decode cc pc = .ok (.invokevirtual 116, 3)) (hn : pc + 3 = n) (hrest : (rest.map fun v => v.category).sum ≤ 8) (k : ∀ (r : Option Value) (μ' : Mem), Qy r μ' → V G l RL cc nL dep lg ret Q n lo (r.toList ++ rest) μ') : V G l RL cc nL dep lg ret Q pc lo (a1 :: a0 :: .ref (G.2.2.1 0) :: rest) μ := R_callV (ci := 7) (id := 0) (As := [a0, a1]) hct hd (by decide) rfl tM_RL_116 tI_yX7_days tS_yX7_days tN_RX7 tC_yX7_days ok_yX7_days rfl rfl sh_0 rfl hrest hdg hn k
theorem ok_yX2_isFirstIfAllGive : okY yX2_isFirstIfAllGive 3 := ⟨by decide +kernel, by decide +kernel, by decide +kernel⟩
theorem iv_X7_228 {dep' : Nat} {Qy : Option Value → Mem → Prop} {rest : List Value} {a0 a1 a2 : Value} (hct : Ct G l dep' yX2_isFirstIfAllGive cX2_isFirstIfAllGive 6 (Option.some Jvm.ClassFile.FieldType.boolean) [Value.ref (G.2.2.1 122), a0, a1, a2] μ Qy) (hd : dep' < dep) (hdg : decode cc pc = .ok (.invokevirtual 228, 3)) (hn : pc + 3 = n) (hrest : (rest.map fun v => v.category).sum ≤ 8) (k : ∀ (r : Option Value) (μ' : Mem), Qy r μ' → V G l RX7 cc nL dep lg ret Q n lo (r.toList ++ rest) μ') : V G l RX7 cc nL dep lg ret Q pc lo (a2 :: a1 :: a0 :: .ref (G.2.2.1 122) :: rest) μ := R_callV (ci := 2) (id := 122) (As := [a0, a1, a2]) hct hd (by decide) rfl tM_RX7_228 tI_yX2_isFirstIfAllGive tS_yX2_isFirstIfAllGive tN_RX2 tC_yX2_isFirstIfAllGive ok_yX2_isFirstIfAllGive rfl rfl sh_122 rfl hrest hdg hn k
theorem ok_yX7_keep : okY yX7_keep 1 := ⟨by decide +kernel, by decide +kernel, by decide +kernel⟩
theorem iv_L_120 {dep' : Nat} {Qy : Option Value → Mem → Prop} {rest : List Value} {a0 : Value} (hct : Ct G l dep' yX7_keep cX7_keep 2 (Option.some Jvm.ClassFile.FieldType.int) [Value.ref (G.2.2.1 0), a0] μ Qy) (hd : dep' < dep) (hdg : decode cc pc = .ok (.invokevirtual 120, 3)) (hn : pc + 3 = n) (hrest : (rest.map fun v => v.category).sum ≤ 8) (k : ∀ (r : Option Value) (μ' : Mem), Qy r μ' → V G l RL cc nL dep lg ret Q n lo (r.toList ++ rest) μ') : V G l RL cc nL dep lg ret Q pc lo (a0 :: .ref (G.2.2.1 0) :: rest) μ := R_callV (ci := 7) (id := 0) (As := [a0]) hct hd (by decide) rfl tM_RL_120 tI_yX7_keep tS_yX7_keep tN_RX7 tC_yX7_keep ok_yX7_keep rfl rfl sh_0 rfl hrest hdg hn k
theorem ok_yX4_put : okY yX4_put 2 := ⟨by decide +kernel, by decide +kernel, by decide +kernel⟩
theorem iv_X7_232 {dep' : Nat} {Qy : Option Value → Mem → Prop} {rest : List Value} {a0 a1 : Value} (hct : Ct G l dep' yX4_put cX4_put 3 (Option.none : Option Jvm.ClassFile.FieldType) [Value.ref (G.2.2.1 104), a0, a1] μ Qy) (hd : dep' < dep) (hdg : decode cc pc = .ok (.invokevirtual 232, 3)) (hn : pc + 3 = n) (hrest : (rest.map fun v => v.category).sum ≤ 8) (k : ∀ (r : Option Value) (μ' : Mem), Qy r μ' → V G l RX7 cc nL dep lg ret Q n lo (r.toList ++ rest) μ') : V G l RX7 cc nL dep lg ret Q pc lo (a1 :: a0 :: .ref (G.2.2.1 104) :: rest) μ := R_callV (ci := 4) (id := 104) (As := [a0, a1]) hct hd (by decide) rfl tM_RX7_232 tI_yX4_put tS_yX4_put tN_RX4 tC_yX4_put ok_yX4_put rfl rfl sh_104 rfl hrest hdg hn k
theorem iv_X4_22 {dep' : Nat} {Qy : Option Value → Mem → Prop} {rest : List Value} {a0 : Value} {id : Nat} (hct : Ct G l dep' yX5_copyFrom cX5_copyFrom 2 (Option.none : Option Jvm.ClassFile.FieldType) [Value.ref (G.2.2.1 id), a0] μ Qy) (hs : StB id) (hd : dep' < dep) (hdg : decode cc pc = .ok (.invokevirtual 22, 3)) (hn : pc + 3 = n) (hrest : (rest.map fun v => v.category).sum ≤ 8) (k : ∀ (r : Option Value) (μ' : Mem), Qy r μ' → V G l RX4 cc nL dep lg ret Q n lo (r.toList ++ rest) μ') : V G l RX4 cc nL dep lg ret Q pc lo (a0 :: .ref (G.2.2.1 id) :: rest) μ := R_callV (ci := 5) (id := id) (As := [a0]) hct hd (by decide) rfl tM_RX4_22 tI_yX5_copyFrom tS_yX5_copyFrom tN_RX5 tC_yX5_copyFrom ok_yX5_copyFrom rfl rfl hs.1 rfl hrest hdg hn k
theorem ok_yX7_again : okY yX7_again 1 := ⟨by decide +kernel, by decide +kernel, by decide +kernel⟩
theorem iv_L_124 {dep' : Nat} {Qy : Option Value → Mem → Prop} {rest : List Value} {a0 : Value} (hct : Ct G l dep' yX7_again cX7_again 2 (Option.some Jvm.ClassFile.FieldType.int) [Value.ref (G.2.2.1 0), a0] μ Qy) (hd : dep' < dep) (hdg : decode cc pc = .ok (.invokevirtual 124, 3)) (hn : pc + 3 = n) (hrest : (rest.map fun v => v.category).sum ≤ 8) (k : ∀ (r : Option Value) (μ' : Mem), Qy r μ' → V G l RL cc nL dep lg ret Q n lo (r.toList ++ rest) μ') : V G l RL cc nL dep lg ret Q pc lo (a0 :: .ref (G.2.2.1 0) :: rest) μ := R_callV (ci := 7) (id := 0) (As := [a0]) hct hd (by decide) rfl tM_RL_124 tI_yX7_again tS_yX7_again tN_RX7 tC_yX7_again ok_yX7_again rfl rfl sh_0 rfl hrest hdg hn k
theorem iv_X7_247 {dep' : Nat} {Qy : Option Value → Mem → Prop} {rest : List Value} {a0 : Value} {id : Nat} (hct : Ct G l dep' yX5_copyFrom cX5_copyFrom 2 (Option.none : Option Jvm.ClassFile.FieldType) [Value.ref (G.2.2.1 id), a0] μ Qy) (hs : StB id) (hd : dep' < dep) (hdg : decode cc pc = .ok (.invokevirtual 247, 3)) (hn : pc + 3 = n) (hrest : (rest.map fun v => v.category).sum ≤ 8) (k : ∀ (r : Option Value) (μ' : Mem), Qy r μ' → V G l RX7 cc nL dep lg ret Q n lo (r.toList ++ rest) μ') : V G l RX7 cc nL dep lg ret Q pc lo (a0 :: .ref (G.2.2.1 id) :: rest) μ := R_callV (ci := 5) (id := id) (As := [a0]) hct hd (by decide) rfl tM_RX7_247 tI_yX5_copyFrom tS_yX5_copyFrom tN_RX5 tC_yX5_copyFrom ok_yX5_copyFrom rfl rfl hs.1 rfl hrest hdg hn k
theorem ok_yX7_count : okY yX7_count 1 := ⟨by decide +kernel, by decide +kernel, by decide +kernel⟩
theorem iv_L_128 {dep' : Nat} {Qy : Option Value → Mem → Prop} {rest : List Value} {a0 : Value} (hct : Ct G l dep' yX7_count cX7_count 2 (Option.some Jvm.ClassFile.FieldType.int) [Value.ref (G.2.2.1 0), a0] μ Qy) (hd : dep' < dep) (hdg : decode cc pc = .ok (.invokevirtual 128, 3)) (hn : pc + 3 = n) (hrest : (rest.map fun v => v.category).sum ≤ 8) (k : ∀ (r : Option Value) (μ' : Mem), Qy r μ' → V G l RL cc nL dep lg ret Q n lo (r.toList ++ rest) μ') : V G l RL cc nL dep lg ret Q pc lo (a0 :: .ref (G.2.2.1 0) :: rest) μ := R_callV (ci := 7) (id := 0) (As := [a0]) hct hd (by decide) rfl tM_RL_128 tI_yX7_count tS_yX7_count tN_RX7 tC_yX7_count ok_yX7_count rfl rfl sh_0 rfl hrest hdg hn k
theorem ok_yX7_sum : okY yX7_sum 2 := ⟨by decide +kernel, by decide +kernel, by decide +kernel⟩
theorem iv_X7_250 {dep' : Nat} {Qy : Option Value → Mem → Prop} {rest : List Value} {a0 a1 : Value} (hct : Ct G l dep' yX7_sum cX7_sum 4 (Option.some Jvm.ClassFile.FieldType.int) [a0, a1] μ Qy) (hd : dep' < dep) (hdg : decode cc pc = .ok (.invokestatic 250, 3)) (hn : pc + 3 = n) (hrest : (rest.map fun v => v.category).sum ≤ 8) (k : ∀ (r : Option Value) (μ' : Mem), Qy r μ' → V G l RX7 cc nL dep lg ret Q n lo (r.toList ++ rest) μ') : V G l RX7 cc nL dep lg ret Q pc lo (a1 :: a0 :: rest) μ := R_callS hct hd (by decide) tM_RX7_250 tT_yX7_sum tN_RX7 tC_yX7_sum ok_yX7_sum rfl rfl hrest hdg hn k
theorem iv_X7_257 {dep' : Nat} {Qy : Option Value → Mem → Prop} {rest : List Value} {id : Nat} (hct : Ct G l dep' yX5_greatestHour cX5_greatestHour 3 (Option.some Jvm.ClassFile.FieldType.int) [Value.ref (G.2.2.1 id)] μ Qy) (hs : StB id) (hd : dep' < dep) (hdg : decode cc pc = .ok (.invokevirtual 257, 3)) (hn : pc + 3 = n) (hrest : (rest.map fun v => v.category).sum ≤ 8) (k : ∀ (r : Option Value) (μ' : Mem), Qy r μ' → V G l RX7 cc nL dep lg ret Q n lo (r.toList ++ rest) μ') : V G l RX7 cc nL dep lg ret Q pc lo (.ref (G.2.2.1 id) :: rest) μ := R_callV (ci := 5) (id := id) (As := []) hct hd (by decide) rfl tM_RX7_257 tI_yX5_greatestHour tS_yX5_greatestHour tN_RX5 tC_yX5_greatestHour ok_yX5_greatestHour rfl rfl hs.1 rfl hrest hdg hn k
theorem ok_yX8_write : okY yX8_write 1 := ⟨by decide +kernel, by decide +kernel, by decide +kernel⟩
theorem iv_L_17 {dep' : Nat} {Qy : Option Value → Mem → Prop} {rest : List Value} {a0 : Value} (hct : Ct G l dep' yX8_write cX8_write 2 (Option.some Jvm.ClassFile.FieldType.int) [Value.ref (G.2.2.1 125), a0] μ Qy) (hd : dep' < dep) (hdg : decode cc pc = .ok (.invokevirtual 17, 3)) (hn : pc + 3 = n) (hrest : (rest.map fun v => v.category).sum ≤ 8) (k : ∀ (r : Option Value) (μ' : Mem), Qy r μ' → V G l RL cc nL dep lg ret Q n lo (r.toList ++ rest) μ') : V G l RL cc nL dep lg ret Q pc lo (a0 :: .ref (G.2.2.1 125) :: rest) μ := R_callV (ci := 8) (id := 125) (As := [a0]) hct hd (by decide) rfl tM_RL_17 tI_yX8_write tS_yX8_write tN_RX8 tC_yX8_write ok_yX8_write rfl rfl sh_125 rfl hrest hdg hn k
theorem ok_yX8_in : okY yX8_in 3 := ⟨by decide +kernel, by decide +kernel, by decide +kernel⟩
theorem iv_X8_56 {dep' : Nat} {Qy : Option Value → Mem → Prop} {rest : List Value} {a0 a1 a2 : Value} (hct : Ct G l dep' yX8_in cX8_in 6 (Option.some Jvm.ClassFile.FieldType.boolean) [a0, a1, a2] μ Qy) (hd : dep' < dep) (hdg : decode cc pc = .ok (.invokestatic 56, 3)) (hn : pc + 3 = n) (hrest : (rest.map fun v => v.category).sum ≤ 8) (k : ∀ (r : Option Value) (μ' : Mem), Qy r μ' → V G l RX8 cc nL dep lg ret Q n lo (r.toList ++ rest) μ') : V G l RX8 cc nL dep lg ret Q pc lo (a2 :: a1 :: a0 :: rest) μ := R_callS hct hd (by decide) tM_RX8_56 tT_yX8_in tN_RX8 tC_yX8_in ok_yX8_in rfl rfl hrest hdg hn k
theorem ok_yX8_wipe : okY yX8_wipe 0 := ⟨by decide +kernel, by decide +kernel, by decide +kernel⟩
theorem iv_L_22 {dep' : Nat} {Qy : Option Value → Mem → Prop} {rest : List Value} (hct : Ct G l dep' yX8_wipe cX8_wipe 2 (Option.some Jvm.ClassFile.FieldType.int) [Value.ref (G.2.2.1 125)] μ Qy) (hd : dep' < dep) (hdg : decode cc pc = .ok (.invokevirtual 22, 3)) (hn : pc + 3 = n) (hrest : (rest.map fun v => v.category).sum ≤ 8) (k : ∀ (r : Option Value) (μ' : Mem), Qy r μ' → V G l RL cc nL dep lg ret Q n lo (r.toList ++ rest) μ') : V G l RL cc nL dep lg ret Q pc lo (.ref (G.2.2.1 125) :: rest) μ := R_callV (ci := 8) (id := 125) (As := []) hct hd (by decide) rfl tM_RL_22 tI_yX8_wipe tS_yX8_wipe tN_RX8 tC_yX8_wipe ok_yX8_wipe rfl rfl sh_125 rfl hrest hdg hn k
theorem ok_yX8_fault : okY yX8_fault 0 := ⟨by decide +kernel, by decide +kernel, by decide +kernel⟩
theorem iv_L_26 {dep' : Nat} {Qy : Option Value → Mem → Prop} {rest : List Value} (hct : Ct G l dep' yX8_fault cX8_fault 1 (Option.some Jvm.ClassFile.FieldType.int) [Value.ref (G.2.2.1 125)] μ Qy) (hd : dep' < dep) (hdg : decode cc pc = .ok (.invokevirtual 26, 3)) (hn : pc + 3 = n) (hrest : (rest.map fun v => v.category).sum ≤ 8) (k : ∀ (r : Option Value) (μ' : Mem), Qy r μ' → V G l RL cc nL dep lg ret Q n lo (r.toList ++ rest) μ') : V G l RL cc nL dep lg ret Q pc lo (.ref (G.2.2.1 125) :: rest) μ := R_callV (ci := 8) (id := 125) (As := []) hct hd (by decide) rfl tM_RL_26 tI_yX8_fault tS_yX8_fault tN_RX8 tC_yX8_fault ok_yX8_fault rfl rfl sh_125 rfl hrest hdg hn k
theorem ok_yX8_readText : okY yX8_readText 0 := ⟨by decide +kernel, by decide +kernel, by decide +kernel⟩
theorem iv_X8_79 {dep' : Nat} {Qy : Option Value → Mem → Prop} {rest : List Value} (hct : Ct G l dep' yX8_readText cX8_readText 1 (Option.some Jvm.ClassFile.FieldType.int) [Value.ref (G.2.2.1 125)] μ Qy) (hd : dep' < dep) (hdg : decode cc pc = .ok (.invokevirtual 79, 3)) (hn : pc + 3 = n) (hrest : (rest.map fun v => v.category).sum ≤ 8) (k : ∀ (r : Option Value) (μ' : Mem), Qy r μ' → V G l RX8 cc nL dep lg ret Q n lo (r.toList ++ rest) μ') : V G l RX8 cc nL dep lg ret Q pc lo (.ref (G.2.2.1 125) :: rest) μ := R_callV (ci := 8) (id := 125) (As := []) hct hd (by decide) rfl tM_RX8_79 tI_yX8_readText tS_yX8_readText tN_RX8 tC_yX8_readText ok_yX8_readText rfl rfl sh_125 rfl hrest hdg hn k
theorem ok_yX8_figure : okY yX8_figure 2 := ⟨by decide +kernel, by decide +kernel, by decide +kernel⟩
theorem iv_X8_75 {dep' : Nat} {Qy : Option Value → Mem → Prop} {rest : List Value} {a0 a1 : Value} (hct : Ct G l dep' yX8_figure cX8_figure 4 (Option.some Jvm.ClassFile.FieldType.int) [Value.ref (G.2.2.1 125), a0, a1] μ Qy) (hd : dep' < dep) (hdg : decode cc pc = .ok (.invokevirtual 75, 3)) (hn : pc + 3 = n) (hrest : (rest.map fun v => v.category).sum ≤ 8) (k : ∀ (r : Option Value) (μ' : Mem), Qy r μ' → V G l RX8 cc nL dep lg ret Q n lo (r.toList ++ rest) μ') : V G l RX8 cc nL dep lg ret Q pc lo (a1 :: a0 :: .ref (G.2.2.1 125) :: rest) μ := R_callV (ci := 8) (id := 125) (As := [a0, a1]) hct hd (by decide) rfl tM_RX8_75 tI_yX8_figure tS_yX8_figure tN_RX8 tC_yX8_figure ok_yX8_figure rfl rfl sh_125 rfl hrest hdg hn k
theorem ok_yX8_canal : okY yX8_canal 0 := ⟨by decide +kernel, by decide +kernel, by decide +kernel⟩
theorem iv_L_30 {dep' : Nat} {Qy : Option Value → Mem → Prop} {rest : List Value} (hct : Ct G l dep' yX8_canal cX8_canal 2 (Option.some Jvm.ClassFile.FieldType.int) [Value.ref (G.2.2.1 125)] μ Qy) (hd : dep' < dep) (hdg : decode cc pc = .ok (.invokevirtual 30, 3)) (hn : pc + 3 = n) (hrest : (rest.map fun v => v.category).sum ≤ 8) (k : ∀ (r : Option Value) (μ' : Mem), Qy r μ' → V G l RL cc nL dep lg ret Q n lo (r.toList ++ rest) μ') : V G l RL cc nL dep lg ret Q pc lo (.ref (G.2.2.1 125) :: rest) μ := R_callV (ci := 8) (id := 125) (As := []) hct hd (by decide) rfl tM_RL_30 tI_yX8_canal tS_yX8_canal tN_RX8 tC_yX8_canal ok_yX8_canal rfl rfl sh_125 rfl hrest hdg hn k
theorem ok_yX8_barge : okY yX8_barge 2 := ⟨by decide +kernel, by decide +kernel, by decide +kernel⟩
theorem iv_L_35 {dep' : Nat} {Qy : Option Value → Mem → Prop} {rest : List Value} {a0 a1 : Value} (hct : Ct G l dep' yX8_barge cX8_barge 3 (Option.some Jvm.ClassFile.FieldType.int) [Value.ref (G.2.2.1 125), a0, a1] μ Qy) (hd : dep' < dep) (hdg : decode cc pc = .ok (.invokevirtual 35, 3)) (hn : pc + 3 = n) (hrest : (rest.map fun v => v.category).sum ≤ 8) (k : ∀ (r : Option Value) (μ' : Mem), Qy r μ' → V G l RL cc nL dep lg ret Q n lo (r.toList ++ rest) μ') : V G l RL cc nL dep lg ret Q pc lo (a1 :: a0 :: .ref (G.2.2.1 125) :: rest) μ := R_callV (ci := 8) (id := 125) (As := [a0, a1]) hct hd (by decide) rfl tM_RL_35 tI_yX8_barge tS_yX8_barge tN_RX8 tC_yX8_barge ok_yX8_barge rfl rfl sh_125 rfl hrest hdg hn k
theorem ok_yX8_isBarge : okY yX8_isBarge 1 := ⟨by decide +kernel, by decide +kernel, by decide +kernel⟩
theorem iv_X8_89 {dep' : Nat} {Qy : Option Value → Mem → Prop} {rest : List Value} {a0 : Value} (hct : Ct G l dep' yX8_isBarge cX8_isBarge 2 (Option.some Jvm.ClassFile.FieldType.boolean) [Value.ref (G.2.2.1 125), a0] μ Qy) (hd : dep' < dep) (hdg : decode cc pc = .ok (.invokevirtual 89, 3)) (hn : pc + 3 = n) (hrest : (rest.map fun v => v.category).sum ≤ 8) (k : ∀ (r : Option Value) (μ' : Mem), Qy r μ' → V G l RX8 cc nL dep lg ret Q n lo (r.toList ++ rest) μ') : V G l RX8 cc nL dep lg ret Q pc lo (a0 :: .ref (G.2.2.1 125) :: rest) μ := R_callV (ci := 8) (id := 125) (As := [a0]) hct hd (by decide) rfl tM_RX8_89 tI_yX8_isBarge tS_yX8_isBarge tN_RX8 tC_yX8_isBarge ok_yX8_isBarge rfl rfl sh_125 rfl hrest hdg hn k
theorem ok_yX8_placeOf : okY yX8_placeOf 3 := ⟨by decide +kernel, by decide +kernel, by decide +kernel⟩
theorem iv_X8_93 {dep' : Nat} {Qy : Option Value → Mem → Prop} {rest : List Value} {a0 a1 a2 : Value} (hct : Ct G l dep' yX8_placeOf cX8_placeOf 6 (Option.some Jvm.ClassFile.FieldType.int) [Value.ref (G.2.2.1 125), a0, a1, a2] μ Qy) (hd : dep' < dep) (hdg : decode cc pc = .ok (.invokevirtual 93, 3)) (hn : pc + 3 = n) (hrest : (rest.map fun v => v.category).sum ≤ 8) (k : ∀ (r : Option Value) (μ' : Mem), Qy r μ' → V G l RX8 cc nL dep lg ret Q n lo (r.toList ++ rest) μ') : V G l RX8 cc nL dep lg ret Q pc lo (a2 :: a1 :: a0 :: .ref (G.2.2.1 125) :: rest) μ := R_callV (ci := 8) (id := 125) (As := [a0, a1, a2]) hct hd (by decide) rfl tM_RX8_93 tI_yX8_placeOf tS_yX8_placeOf tN_RX8 tC_yX8_placeOf ok_yX8_placeOf rfl rfl sh_125 rfl hrest hdg hn k
theorem ok_yX8_lock : okY yX8_lock 2 := ⟨by decide +kernel, by decide +kernel, by decide +kernel⟩
theorem iv_L_39 {dep' : Nat} {Qy : Option Value → Mem → Prop} {rest : List Value} {a0 a1 : Value} (hct : Ct G l dep' yX8_lock cX8_lock 3 (Option.some Jvm.ClassFile.FieldType.int) [Value.ref (G.2.2.1 125), a0, a1] μ Qy) (hd : dep' < dep) (hdg : decode cc pc = .ok (.invokevirtual 39, 3)) (hn : pc + 3 = n) (hrest : (rest.map fun v => v.category).sum ≤ 8) (k : ∀ (r : Option Value) (μ' : Mem), Qy r μ' → V G l RL cc nL dep lg ret Q n lo (r.toList ++ rest) μ') : V G l RL cc nL dep lg ret Q pc lo (a1 :: a0 :: .ref (G.2.2.1 125) :: rest) μ := R_callV (ci := 8) (id := 125) (As := [a0, a1]) hct hd (by decide) rfl tM_RL_39 tI_yX8_lock tS_yX8_lock tN_RX8 tC_yX8_lock ok_yX8_lock rfl rfl sh_125 rfl hrest hdg hn k
theorem ok_yX8_isLock : okY yX8_isLock 1 := ⟨by decide +kernel, by decide +kernel, by decide +kernel⟩
theorem iv_X8_97 {dep' : Nat} {Qy : Option Value → Mem → Prop} {rest : List Value} {a0 : Value} (hct : Ct G l dep' yX8_isLock cX8_isLock 2 (Option.some Jvm.ClassFile.FieldType.boolean) [Value.ref (G.2.2.1 125), a0] μ Qy) (hd : dep' < dep) (hdg : decode cc pc = .ok (.invokevirtual 97, 3)) (hn : pc + 3 = n) (hrest : (rest.map fun v => v.category).sum ≤ 8) (k : ∀ (r : Option Value) (μ' : Mem), Qy r μ' → V G l RX8 cc nL dep lg ret Q n lo (r.toList ++ rest) μ') : V G l RX8 cc nL dep lg ret Q pc lo (a0 :: .ref (G.2.2.1 125) :: rest) μ := R_callV (ci := 8) (id := 125) (As := [a0]) hct hd (by decide) rfl tM_RX8_97 tI_yX8_isLock tS_yX8_isLock tN_RX8 tC_yX8_isLock ok_yX8_isLock rfl rfl sh_125 rfl hrest hdg hn k
theorem ok_yX8_givenAt : okY yX8_givenAt 1 := ⟨by decide +kernel, by decide +kernel, by decide +kernel⟩
theorem iv_X8_100 {dep' : Nat} {Qy : Option Value → Mem → Prop} {rest : List Value} {a0 : Value} (hct : Ct G l dep' yX8_givenAt cX8_givenAt 4 (Option.some Jvm.ClassFile.FieldType.int) [Value.ref (G.2.2.1 125), a0] μ Qy) (hd : dep' < dep) (hdg : decode cc pc = .ok (.invokevirtual 100, 3)) (hn : pc + 3 = n) (hrest : (rest.map fun v => v.category).sum ≤ 8) (k : ∀ (r : Option Value) (μ' : Mem), Qy r μ' → V G l RX8 cc nL dep lg ret Q n lo (r.toList ++ rest) μ') : V G l RX8 cc nL dep lg ret Q pc lo (a0 :: .ref (G.2.2.1 125) :: rest) μ := R_callV (ci := 8) (id := 125) (As := [a0]) hct hd (by decide) rfl tM_RX8_100 tI_yX8_givenAt tS_yX8_givenAt tN_RX8 tC_yX8_givenAt ok_yX8_givenAt rfl rfl sh_125 rfl hrest hdg hn k
theorem ok_yX8_pass : okY yX8_pass 0 := ⟨by decide +kernel, by decide +kernel, by decide +kernel⟩
theorem iv_L_43 {dep' : Nat} {Qy : Option Value → Mem → Prop} {rest : List Value} (hct : Ct G l dep' yX8_pass cX8_pass 1 (Option.some Jvm.ClassFile.FieldType.int) [Value.ref (G.2.2.1 125)] μ Qy) (hd : dep' < dep) (hdg : decode cc pc = .ok (.invokevirtual 43, 3)) (hn : pc + 3 = n) (hrest : (rest.map fun v => v.category).sum ≤ 8) (k : ∀ (r : Option Value) (μ' : Mem), Qy r μ' → V G l RL cc nL dep lg ret Q n lo (r.toList ++ rest) μ') : V G l RL cc nL dep lg ret Q pc lo (.ref (G.2.2.1 125) :: rest) μ := R_callV (ci := 8) (id := 125) (As := []) hct hd (by decide) rfl tM_RL_43 tI_yX8_pass tS_yX8_pass tN_RX8 tC_yX8_pass ok_yX8_pass rfl rfl sh_125 rfl hrest hdg hn k
theorem ok_yX8_keepAct : okY yX8_keepAct 0 := ⟨by decide +kernel, by decide +kernel, by decide +kernel⟩
theorem iv_X8_114 {dep' : Nat} {Qy : Option Value → Mem → Prop} {rest : List Value} (hct : Ct G l dep' yX8_keepAct cX8_keepAct 2 (Option.none : Option Jvm.ClassFile.FieldType) [Value.ref (G.2.2.1 125)] μ Qy) (hd : dep' < dep) (hdg : decode cc pc = .ok (.invokevirtual 114, 3)) (hn : pc + 3 = n) (hrest : (rest.map fun v => v.category).sum ≤ 8) (k : ∀ (r : Option Value) (μ' : Mem), Qy r μ' → V G l RX8 cc nL dep lg ret Q n lo (r.toList ++ rest) μ') : V G l RX8 cc nL dep lg ret Q pc lo (.ref (G.2.2.1 125) :: rest) μ := R_callV (ci := 8) (id := 125) (As := []) hct hd (by decide) rfl tM_RX8_114 tI_yX8_keepAct tS_yX8_keepAct tN_RX8 tC_yX8_keepAct ok_yX8_keepAct rfl rfl sh_125 rfl hrest hdg hn k
theorem ok_yX8_passOn : okY yX8_passOn 2 := ⟨by decide +kernel, by decide +kernel, by decide +kernel⟩
theorem iv_X8_117 {dep' : Nat} {Qy : Option Value → Mem → Prop} {rest : List Value} {a0 a1 : Value} (hct : Ct G l dep' yX8_passOn cX8_passOn 11 (Option.none : Option Jvm.ClassFile.FieldType) [Value.ref (G.2.2.1 125), a0, a1] μ Qy) (hd : dep' < dep) (hdg : decode cc pc = .ok (.invokevirtual 117, 3)) (hn : pc + 3 = n) (hrest : (rest.map fun v => v.category).sum ≤ 8) (k : ∀ (r : Option Value) (μ' : Mem), Qy r μ' → V G l RX8 cc nL dep lg ret Q n lo (r.toList ++ rest) μ') : V G l RX8 cc nL dep lg ret Q pc lo (a1 :: a0 :: .ref (G.2.2.1 125) :: rest) μ := R_callV (ci := 8) (id := 125) (As := [a0, a1]) hct hd (by decide) rfl tM_RX8_117 tI_yX8_passOn tS_yX8_passOn tN_RX8 tC_yX8_passOn ok_yX8_passOn rfl rfl sh_125 rfl hrest hdg hn k
theorem ok_yX8_more : okY yX8_more 2 := ⟨by decide +kernel, by decide +kernel, by decide +kernel⟩
theorem iv_X8_104 {dep' : Nat} {Qy : Option Value → Mem → Prop} {rest : List Value} {a0 a1 : Value} (hct : Ct G l dep' yX8_more cX8_more 2 (Option.some Jvm.ClassFile.FieldType.int) [a0, a1] μ Qy) (hd : dep' < dep) (hdg : decode cc pc = .ok (.invokestatic 104, 3)) (hn : pc + 3 = n) (hrest : (rest.map fun v => v.category).sum ≤ 8) (k : ∀ (r : Option Value) (μ' : Mem), Qy r μ' → V G l RX8 cc nL dep lg ret Q n lo (r.toList ++ rest) μ') : V G l RX8 cc nL dep lg ret Q pc lo (a1 :: a0 :: rest) μ := R_callS hct hd (by decide) tM_RX8_104 tT_yX8_more tN_RX8 tC_yX8_more ok_yX8_more rfl rfl hrest hdg hn k
theorem ok_yX8_isChanged : okY yX8_isChanged 4 := ⟨by decide +kernel, by decide +kernel, by decide +kernel⟩
theorem iv_X8_107 {dep' : Nat} {Qy : Option Value → Mem → Prop} {rest : List Value} {a0 a1 a2 a3 : Value} (hct : Ct G l dep' yX8_isChanged cX8_isChanged 6 (Option.some Jvm.ClassFile.FieldType.boolean) [Value.ref (G.2.2.1 125), a0, a1, a2, a3] μ Qy) (hd : dep' < dep) (hdg : decode cc pc = .ok (.invokevirtual 107, 3)) (hn : pc + 3 = n) (hrest : (rest.map fun v => v.category).sum ≤ 8) (k : ∀ (r : Option Value) (μ' : Mem), Qy r μ' → V G l RX8 cc nL dep lg ret Q n lo (r.toList ++ rest) μ') : V G l RX8 cc nL dep lg ret Q pc lo (a3 :: a2 :: a1 :: a0 :: .ref (G.2.2.1 125) :: rest) μ := R_callV (ci := 8) (id := 125) (As := [a0, a1, a2, a3]) hct hd (by decide) rfl tM_RX8_107 tI_yX8_isChanged tS_yX8_isChanged tN_RX8 tC_yX8_isChanged ok_yX8_isChanged rfl rfl sh_125 rfl hrest hdg hn k
theorem ok_yX8_figuresOf : okY yX8_figuresOf 2 := ⟨by decide +kernel, by decide +kernel, by decide +kernel⟩
theorem iv_X8_121 {dep' : Nat} {Qy : Option Value → Mem → Prop} {rest : List Value} {a0 a1 : Value} (hct : Ct G l dep' yX8_figuresOf cX8_figuresOf 5 (Option.some Jvm.ClassFile.FieldType.int) [Value.ref (G.2.2.1 125), a0, a1] μ Qy) (hd : dep' < dep) (hdg : decode cc pc = .ok (.invokevirtual 121, 3)) (hn : pc + 3 = n) (hrest : (rest.map fun v => v.category).sum ≤ 8) (k : ∀ (r : Option Value) (μ' : Mem), Qy r μ' → V G l RX8 cc nL dep lg ret Q n lo (r.toList ++ rest) μ') : V G l RX8 cc nL dep lg ret Q pc lo (a1 :: a0 :: .ref (G.2.2.1 125) :: rest) μ := R_callV (ci := 8) (id := 125) (As := [a0, a1]) hct hd (by decide) rfl tM_RX8_121 tI_yX8_figuresOf tS_yX8_figuresOf tN_RX8 tC_yX8_figuresOf ok_yX8_figuresOf rfl rfl sh_125 rfl hrest hdg hn k
theorem ok_yX8_give : okY yX8_give 2 := ⟨by decide +kernel, by decide +kernel, by decide +kernel⟩
theorem iv_L_47 {dep' : Nat} {Qy : Option Value → Mem → Prop} {rest : List Value} {a0 a1 : Value} (hct : Ct G l dep' yX8_give cX8_give 3 (Option.some Jvm.ClassFile.FieldType.int) [Value.ref (G.2.2.1 125), a0, a1] μ Qy) (hd : dep' < dep) (hdg : decode cc pc = .ok (.invokevirtual 47, 3)) (hn : pc + 3 = n) (hrest : (rest.map fun v => v.category).sum ≤ 8) (k : ∀ (r : Option Value) (μ' : Mem), Qy r μ' → V G l RL cc nL dep lg ret Q n lo (r.toList ++ rest) μ') : V G l RL cc nL dep lg ret Q pc lo (a1 :: a0 :: .ref (G.2.2.1 125) :: rest) μ := R_callV (ci := 8) (id := 125) (As := [a0, a1]) hct hd (by decide) rfl tM_RL_47 tI_yX8_give tS_yX8_give tN_RX8 tC_yX8_give ok_yX8_give rfl rfl sh_125 rfl hrest hdg hn k
theorem ok_yX8_letBy : okY yX8_letBy 1 := ⟨by decide +kernel, by decide +kernel, by decide +kernel⟩
theorem iv_L_51 {dep' : Nat} {Qy : Option Value → Mem → Prop} {rest : List Value} {a0 : Value} (hct : Ct G l dep' yX8_letBy cX8_letBy 3 (Option.some Jvm.ClassFile.FieldType.int) [Value.ref (G.2.2.1 125), a0] μ Qy) (hd : dep' < dep) (hdg : decode cc pc = .ok (.invokevirtual 51, 3)) (hn : pc + 3 = n) (hrest : (rest.map fun v => v.category).sum ≤ 8) (k : ∀ (r : Option Value) (μ' : Mem), Qy r μ' → V G l RL cc nL dep lg ret Q n lo (r.toList ++ rest) μ') : V G l RL cc nL dep lg ret Q pc lo (a0 :: .ref (G.2.2.1 125) :: rest) μ := R_callV (ci := 8) (id := 125) (As := [a0]) hct hd (by decide) rfl tM_RL_51 tI_yX8_letBy tS_yX8_letBy tN_RX8 tC_yX8_letBy ok_yX8_letBy rfl rfl sh_125 rfl hrest hdg hn k
theorem ok_yX8_learn : okY yX8_learn 2 := ⟨by decide +kernel, by decide +kernel, by decide +kernel⟩
theorem iv_L_55 {dep' : Nat} {Qy : Option Value → Mem → Prop} {rest : List Value} {a0 a1 : Value} (hct : Ct G l dep' yX8_learn cX8_learn 4 (Option.some Jvm.ClassFile.FieldType.int) [Value.ref (G.2.2.1 125), a0, a1] μ Qy) (hd : dep' < dep) (hdg : decode cc pc = .ok (.invokevirtual 55, 3)) (hn : pc + 3 = n) (hrest : (rest.map fun v => v.category).sum ≤ 8) (k : ∀ (r : Option Value) (μ' : Mem), Qy r μ' → V G l RL cc nL dep lg ret Q n lo (r.toList ++ rest) μ') : V G l RL cc nL dep lg ret Q pc lo (a1 :: a0 :: .ref (G.2.2.1 125) :: rest) μ := R_callV (ci := 8) (id := 125) (As := [a0, a1]) hct hd (by decide) rfl tM_RL_55 tI_yX8_learn tS_yX8_learn tN_RX8 tC_yX8_learn ok_yX8_learn rfl rfl sh_125 rfl hrest hdg hn k
theorem ok_yX8_undo : okY yX8_undo 0 := ⟨by decide +kernel, by decide +kernel, by decide +kernel⟩
theorem iv_L_59 {dep' : Nat} {Qy : Option Value → Mem → Prop} {rest : List Value} (hct : Ct G l dep' yX8_undo cX8_undo 2 (Option.some Jvm.ClassFile.FieldType.int) [Value.ref (G.2.2.1 125)] μ Qy) (hd : dep' < dep) (hdg : decode cc pc = .ok (.invokevirtual 59, 3)) (hn : pc + 3 = n) (hrest : (rest.map fun v => v.category).sum ≤ 8) (k : ∀ (r : Option Value) (μ' : Mem), Qy r μ' → V G l RL cc nL dep lg ret Q n lo (r.toList ++ rest) μ') : V G l RL cc nL dep lg ret Q pc lo (.ref (G.2.2.1 125) :: rest) μ := R_callV (ci := 8) (id := 125) (As := []) hct hd (by decide) rfl tM_RL_59 tI_yX8_undo tS_yX8_undo tN_RX8 tC_yX8_undo ok_yX8_undo rfl rfl sh_125 rfl hrest hdg hn k
theorem ok_yX8_basin : okY yX8_basin 0 := ⟨by decide +kernel, by decide +kernel, by decide +kernel⟩
theorem iv_L_63 {dep' : Nat} {Qy : Option Value → Mem → Prop} {rest : List Value} (hct : Ct G l dep' yX8_basin cX8_basin 1 (Option.some Jvm.ClassFile.FieldType.int) [Value.ref (G.2.2.1 125)] μ Qy) (hd : dep' < dep) (hdg : decode cc pc = .ok (.invokevirtual 63, 3)) (hn : pc + 3 = n) (hrest : (rest.map fun v => v.category).sum ≤ 8) (k : ∀ (r : Option Value) (μ' : Mem), Qy r μ' → V G l RL cc nL dep lg ret Q n lo (r.toList ++ rest) μ') : V G l RL cc nL dep lg ret Q pc lo (.ref (G.2.2.1 125) :: rest) μ := R_callV (ci := 8) (id := 125) (As := []) hct hd (by decide) rfl tM_RL_63 tI_yX8_basin tS_yX8_basin tN_RX8 tC_yX8_basin ok_yX8_basin rfl rfl sh_125 rfl hrest hdg hn k
theorem ok_yX8_layBasin : okY yX8_layBasin 0 := ⟨by decide +kernel, by decide +kernel, by decide +kernel⟩
theorem iv_X8_133 {dep' : Nat} {Qy : Option Value → Mem → Prop} {rest : List Value} (hct : Ct G l dep' yX8_layBasin cX8_layBasin 1 (Option.none : Option Jvm.ClassFile.FieldType) [Value.ref (G.2.2.1 125)] μ Qy) (hd : dep' < dep) (hdg : decode cc pc = .ok (.invokevirtual 133, 3)) (hn : pc + 3 = n) (hrest : (rest.map fun v => v.category).sum ≤ 8) (k : ∀ (r : Option Value) (μ' : Mem), Qy r μ' → V G l RX8 cc nL dep lg ret Q n lo (r.toList ++ rest) μ') : V G l RX8 cc nL dep lg ret Q pc lo (.ref (G.2.2.1 125) :: rest) μ := R_callV (ci := 8) (id := 125) (As := []) hct hd (by decide) rfl tM_RX8_133 tI_yX8_layBasin tS_yX8_layBasin tN_RX8 tC_yX8_layBasin ok_yX8_layBasin rfl rfl sh_125 rfl hrest hdg hn k
theorem ok_yX8_layTrial : okY yX8_layTrial 0 := ⟨by decide +kernel, by decide +kernel, by decide +kernel⟩
theorem iv_X8_126 {dep' : Nat} {Qy : Option Value → Mem → Prop} {rest : List Value} (hct : Ct G l dep' yX8_layTrial cX8_layTrial 2 (Option.none : Option Jvm.ClassFile.FieldType) [Value.ref (G.2.2.1 125)] μ Qy) (hd : dep' < dep) (hdg : decode cc pc = .ok (.invokevirtual 126, 3)) (hn : pc + 3 = n) (hrest : (rest.map fun v => v.category).sum ≤ 8) (k : ∀ (r : Option Value) (μ' : Mem), Qy r μ' → V G l RX8 cc nL dep lg ret Q n lo (r.toList ++ rest) μ') : V G l RX8 cc nL dep lg ret Q pc lo (.ref (G.2.2.1 125) :: rest) μ := R_callV (ci := 8) (id := 125) (As := []) hct hd (by decide) rfl tM_RX8_126 tI_yX8_layTrial tS_yX8_layTrial tN_RX8 tC_yX8_layTrial ok_yX8_layTrial rfl rfl sh_125 rfl hrest hdg hn k
theorem ok_yX8_passAll : okY yX8_passAll 1 := ⟨by decide +kernel, by decide +kernel, by decide +kernel⟩
theorem iv_X8_129 {dep' : Nat} {Qy : Option Value → Mem → Prop} {rest : List Value} {a0 : Value} (hct : Ct G l dep' yX8_passAll cX8_passAll 2 (Option.none : Option Jvm.ClassFile.FieldType) [Value.ref (G.2.2.1 125), a0] μ Qy) (hd : dep' < dep) (hdg : decode cc pc = .ok (.invokevirtual 129, 3)) (hn : pc + 3 = n) (hrest : (rest.map fun v => v.category).sum ≤ 8) (k : ∀ (r : Option Value) (μ' : Mem), Qy r μ' → V G l RX8 cc nL dep lg ret Q n lo (r.toList ++ rest) μ') : V G l RX8 cc nL dep lg ret Q pc lo (a0 :: .ref (G.2.2.1 125) :: rest) μ := R_callV (ci := 8) (id := 125) (As := [a0]) hct hd (by decide) rfl tM_RX8_129 tI_yX8_passAll tS_yX8_passAll tN_RX8 tC_yX8_passAll ok_yX8_passAll rfl rfl sh_125 rfl hrest hdg hn k
theorem ok_yX8_hour : okY yX8_hour 1 := ⟨by decide +kernel, by decide +kernel, by decide +kernel⟩
theorem iv_L_67 {dep' : Nat} {Qy : Option Value → Mem → Prop} {rest : List Value} {a0 : Value} (hct : Ct G l dep' yX8_hour cX8_hour 2 (Option.some Jvm.ClassFile.FieldType.int) [Value.ref (G.2.2.1 125), a0] μ Qy) (hd : dep' < dep) (hdg : decode cc pc = .ok (.invokevirtual 67, 3)) (hn : pc + 3 = n) (hrest : (rest.map fun v => v.category).sum ≤ 8) (k : ∀ (r : Option Value) (μ' : Mem), Qy r μ' → V G l RL cc nL dep lg ret Q n lo (r.toList ++ rest) μ') : V G l RL cc nL dep lg ret Q pc lo (a0 :: .ref (G.2.2.1 125) :: rest) μ := R_callV (ci := 8) (id := 125) (As := [a0]) hct hd (by decide) rfl tM_RL_67 tI_yX8_hour tS_yX8_hour tN_RX8 tC_yX8_hour ok_yX8_hour rfl rfl sh_125 rfl hrest hdg hn k
theorem ok_yX8_gains : okY yX8_gains 1 := ⟨by decide +kernel, by decide +kernel, by decide +kernel⟩
theorem iv_L_71 {dep' : Nat} {Qy : Option Value → Mem → Prop} {rest : List Value} {a0 : Value} (hct : Ct G l dep' yX8_gains cX8_gains 5 (Option.some Jvm.ClassFile.FieldType.int) [Value.ref (G.2.2.1 125), a0] μ Qy) (hd : dep' < dep) (hdg : decode cc pc = .ok (.invokevirtual 71, 3)) (hn : pc + 3 = n) (hrest : (rest.map fun v => v.category).sum ≤ 8) (k : ∀ (r : Option Value) (μ' : Mem), Qy r μ' → V G l RL cc nL dep lg ret Q n lo (r.toList ++ rest) μ') : V G l RL cc nL dep lg ret Q pc lo (a0 :: .ref (G.2.2.1 125) :: rest) μ := R_callV (ci := 8) (id := 125) (As := [a0]) hct hd (by decide) rfl tM_RL_71 tI_yX8_gains tS_yX8_gains tN_RX8 tC_yX8_gains ok_yX8_gains rfl rfl sh_125 rfl hrest hdg hn k
theorem ok_yX8_mates : okY yX8_mates 1 := ⟨by decide +kernel, by decide +kernel, by decide +kernel⟩
theorem iv_L_75 {dep' : Nat} {Qy : Option Value → Mem → Prop} {rest : List Value} {a0 : Value} (hct : Ct G l dep' yX8_mates cX8_mates 2 (Option.some Jvm.ClassFile.FieldType.int) [Value.ref (G.2.2.1 125), a0] μ Qy) (hd : dep' < dep) (hdg : decode cc pc = .ok (.invokevirtual 75, 3)) (hn : pc + 3 = n) (hrest : (rest.map fun v => v.category).sum ≤ 8) (k : ∀ (r : Option Value) (μ' : Mem), Qy r μ' → V G l RL cc nL dep lg ret Q n lo (r.toList ++ rest) μ') : V G l RL cc nL dep lg ret Q pc lo (a0 :: .ref (G.2.2.1 125) :: rest) μ := R_callV (ci := 8) (id := 125) (As := [a0]) hct hd (by decide) rfl tM_RL_75 tI_yX8_mates tS_yX8_mates tN_RX8 tC_yX8_mates ok_yX8_mates rfl rfl sh_125 rfl hrest hdg hn k
theorem ok_yX8_first : okY yX8_first 2 := ⟨by decide +kernel, by decide +kernel, by decide +kernel⟩
theorem iv_L_79 {dep' : Nat} {Qy : Option Value → Mem → Prop} {rest : List Value} {a0 a1 : Value} (hct : Ct G l dep' yX8_first cX8_first 5 (Option.some Jvm.ClassFile.FieldType.int) [Value.ref (G.2.2.1 125), a0, a1] μ Qy) (hd : dep' < dep) (hdg : decode cc pc = .ok (.invokevirtual 79, 3)) (hn : pc + 3 = n) (hrest : (rest.map fun v => v.category).sum ≤ 8) (k : ∀ (r : Option Value) (μ' : Mem), Qy r μ' → V G l RL cc nL dep lg ret Q n lo (r.toList ++ rest) μ') : V G l RL cc nL dep lg ret Q pc lo (a1 :: a0 :: .ref (G.2.2.1 125) :: rest) μ := R_callV (ci := 8) (id := 125) (As := [a0, a1]) hct hd (by decide) rfl tM_RL_79 tI_yX8_first tS_yX8_first tN_RX8 tC_yX8_first ok_yX8_first rfl rfl sh_125 rfl hrest hdg hn k
theorem ok_yX8_factorial : okY yX8_factorial 1 := ⟨by decide +kernel, by decide +kernel, by decide +kernel⟩
theorem iv_X8_136 {dep' : Nat} {Qy : Option Value → Mem → Prop} {rest : List Value} {a0 : Value} (hct : Ct G l dep' yX8_factorial cX8_factorial 3 (Option.some Jvm.ClassFile.FieldType.int) [a0] μ Qy) (hd : dep' < dep) (hdg : decode cc pc = .ok (.invokestatic 136, 3)) (hn : pc + 3 = n) (hrest : (rest.map fun v => v.category).sum ≤ 8) (k : ∀ (r : Option Value) (μ' : Mem), Qy r μ' → V G l RX8 cc nL dep lg ret Q n lo (r.toList ++ rest) μ') : V G l RX8 cc nL dep lg ret Q pc lo (a0 :: rest) μ := R_callS hct hd (by decide) tM_RX8_136 tT_yX8_factorial tN_RX8 tC_yX8_factorial ok_yX8_factorial rfl rfl hrest hdg hn k
theorem ok_yX8_layOrder : okY yX8_layOrder 1 := ⟨by decide +kernel, by decide +kernel, by decide +kernel⟩
theorem iv_X8_143 {dep' : Nat} {Qy : Option Value → Mem → Prop} {rest : List Value} {a0 : Value} (hct : Ct G l dep' yX8_layOrder cX8_layOrder 9 (Option.none : Option Jvm.ClassFile.FieldType) [Value.ref (G.2.2.1 125), a0] μ Qy) (hd : dep' < dep) (hdg : decode cc pc = .ok (.invokevirtual 143, 3)) (hn : pc + 3 = n) (hrest : (rest.map fun v => v.category).sum ≤ 8) (k : ∀ (r : Option Value) (μ' : Mem), Qy r μ' → V G l RX8 cc nL dep lg ret Q n lo (r.toList ++ rest) μ') : V G l RX8 cc nL dep lg ret Q pc lo (a0 :: .ref (G.2.2.1 125) :: rest) μ := R_callV (ci := 8) (id := 125) (As := [a0]) hct hd (by decide) rfl tM_RX8_143 tI_yX8_layOrder tS_yX8_layOrder tN_RX8 tC_yX8_layOrder ok_yX8_layOrder rfl rfl sh_125 rfl hrest hdg hn k
theorem ok_yX8_has : okY yX8_has 2 := ⟨by decide +kernel, by decide +kernel, by decide +kernel⟩
theorem iv_X8_139 {dep' : Nat} {Qy : Option Value → Mem → Prop} {rest : List Value} {a0 a1 : Value} (hct : Ct G l dep' yX8_has cX8_has 2 (Option.some Jvm.ClassFile.FieldType.boolean) [a0, a1] μ Qy) (hd : dep' < dep) (hdg : decode cc pc = .ok (.invokestatic 139, 3)) (hn : pc + 3 = n) (hrest : (rest.map fun v => v.category).sum ≤ 8) (k : ∀ (r : Option Value) (μ' : Mem), Qy r μ' → V G l RX8 cc nL dep lg ret Q n lo (r.toList ++ rest) μ') : V G l RX8 cc nL dep lg ret Q pc lo (a1 :: a0 :: rest) μ := R_callS hct hd (by decide) tM_RX8_139 tT_yX8_has tN_RX8 tC_yX8_has ok_yX8_has rfl rfl hrest hdg hn k
theorem ok_yX8_isSo : okY yX8_isSo 2 := ⟨by decide +kernel, by decide +kernel, by decide +kernel⟩
theorem iv_X8_146 {dep' : Nat} {Qy : Option Value → Mem → Prop} {rest : List Value} {a0 a1 : Value} (hct : Ct G l dep' yX8_isSo cX8_isSo 3 (Option.some Jvm.ClassFile.FieldType.boolean) [Value.ref (G.2.2.1 125), a0, a1] μ Qy) (hd : dep' < dep) (hdg : decode cc pc = .ok (.invokevirtual 146, 3)) (hn : pc + 3 = n) (hrest : (rest.map fun v => v.category).sum ≤ 8) (k : ∀ (r : Option Value) (μ' : Mem), Qy r μ' → V G l RX8 cc nL dep lg ret Q n lo (r.toList ++ rest) μ') : V G l RX8 cc nL dep lg ret Q pc lo (a1 :: a0 :: .ref (G.2.2.1 125) :: rest) μ := R_callV (ci := 8) (id := 125) (As := [a0, a1]) hct hd (by decide) rfl tM_RX8_146 tI_yX8_isSo tS_yX8_isSo tN_RX8 tC_yX8_isSo ok_yX8_isSo rfl rfl sh_125 rfl hrest hdg hn k
theorem ok_yX8_tea : okY yX8_tea 3 := ⟨by decide +kernel, by decide +kernel, by decide +kernel⟩
theorem iv_L_84 {dep' : Nat} {Qy : Option Value → Mem → Prop} {rest : List Value} {a0 a1 a2 : Value} (hct : Ct G l dep' yX8_tea cX8_tea 5 (Option.some Jvm.ClassFile.FieldType.int) [Value.ref (G.2.2.1 125), a0, a1, a2] μ Qy) (hd : dep' < dep) (hdg : decode cc pc = .ok (.invokevirtual 84, 3)) (hn : pc + 3 = n) (hrest : (rest.map fun v => v.category).sum ≤ 8) (k : ∀ (r : Option Value) (μ' : Mem), Qy r μ' → V G l RL cc nL dep lg ret Q n lo (r.toList ++ rest) μ') : V G l RL cc nL dep lg ret Q pc lo (a2 :: a1 :: a0 :: .ref (G.2.2.1 125) :: rest) μ := R_callV (ci := 8) (id := 125) (As := [a0, a1, a2]) hct hd (by decide) rfl tM_RL_84 tI_yX8_tea tS_yX8_tea tN_RX8 tC_yX8_tea ok_yX8_tea rfl rfl sh_125 rfl hrest hdg hn k
theorem ok_yX8_giveTrial : okY yX8_giveTrial 2 := ⟨by decide +kernel, by decide +kernel, by decide +kernel⟩
theorem iv_X8_149 {dep' : Nat} {Qy : Option Value → Mem → Prop} {rest : List Value} {a0 a1 : Value} (hct : Ct G l dep' yX8_giveTrial cX8_giveTrial 4 (Option.some Jvm.ClassFile.FieldType.boolean) [Value.ref (G.2.2.1 125), a0, a1] μ Qy) (hd : dep' < dep) (hdg : decode cc pc = .ok (.invokevirtual 149, 3)) (hn : pc + 3 = n) (hrest : (rest.map fun v => v.category).sum ≤ 8) (k : ∀ (r : Option Value) (μ' : Mem), Qy r μ' → V G l RX8 cc nL dep lg ret Q n lo (r.toList ++ rest) μ') : V G l RX8 cc nL dep lg ret Q pc lo (a1 :: a0 :: .ref (G.2.2.1 125) :: rest) μ := R_callV (ci := 8) (id := 125) (As := [a0, a1]) hct hd (by decide) rfl tM_RX8_149 tI_yX8_giveTrial tS_yX8_giveTrial tN_RX8 tC_yX8_giveTrial ok_yX8_giveTrial rfl rfl sh_125 rfl hrest hdg hn k
theorem ok_yX8_judge : okY yX8_judge 2 := ⟨by decide +kernel, by decide +kernel, by decide +kernel⟩
theorem iv_L_88 {dep' : Nat} {Qy : Option Value → Mem → Prop} {rest : List Value} {a0 a1 : Value} (hct : Ct G l dep' yX8_judge cX8_judge 5 (Option.some Jvm.ClassFile.FieldType.int) [Value.ref (G.2.2.1 125), a0, a1] μ Qy) (hd : dep' < dep) (hdg : decode cc pc = .ok (.invokevirtual 88, 3)) (hn : pc + 3 = n) (hrest : (rest.map fun v => v.category).sum ≤ 8) (k : ∀ (r : Option Value) (μ' : Mem), Qy r μ' → V G l RL cc nL dep lg ret Q n lo (r.toList ++ rest) μ') : V G l RL cc nL dep lg ret Q pc lo (a1 :: a0 :: .ref (G.2.2.1 125) :: rest) μ := R_callV (ci := 8) (id := 125) (As := [a0, a1]) hct hd (by decide) rfl tM_RL_88 tI_yX8_judge tS_yX8_judge tN_RX8 tC_yX8_judge ok_yX8_judge rfl rfl sh_125 rfl hrest hdg hn k
theorem ok_yX8_tenTo : okY yX8_tenTo 1 := ⟨by decide +kernel, by decide +kernel, by decide +kernel⟩
theorem iv_X8_154 {dep' : Nat} {Qy : Option Value → Mem → Prop} {rest : List Value} {a0 : Value} (hct : Ct G l dep' yX8_tenTo cX8_tenTo 3 (Option.some Jvm.ClassFile.FieldType.int) [a0] μ Qy) (hd : dep' < dep) (hdg : decode cc pc = .ok (.invokestatic 154, 3)) (hn : pc + 3 = n) (hrest : (rest.map fun v => v.category).sum ≤ 8) (k : ∀ (r : Option Value) (μ' : Mem), Qy r μ' → V G l RX8 cc nL dep lg ret Q n lo (r.toList ++ rest) μ') : V G l RX8 cc nL dep lg ret Q pc lo (a0 :: rest) μ := R_callS hct hd (by decide) tM_RX8_154 tT_yX8_tenTo tN_RX8 tC_yX8_tenTo ok_yX8_tenTo rfl rfl hrest hdg hn k
theorem ok_yX8_share : okY yX8_share 2 := ⟨by decide +kernel, by decide +kernel, by decide +kernel⟩
theorem iv_L_93 {dep' : Nat} {Qy : Option Value → Mem → Prop} {rest : List Value} {a0 a1 : Value} (hct : Ct G l dep' yX8_share cX8_share 6 (Option.some Jvm.ClassFile.FieldType.int) [Value.ref (G.2.2.1 125), a0, a1] μ Qy) (hd : dep' < dep) (hdg : decode cc pc = .ok (.invokevirtual 93, 3)) (hn : pc + 3 = n) (hrest : (rest.map fun v => v.category).sum ≤ 8) (k : ∀ (r : Option Value) (μ' : Mem), Qy r μ' → V G l RL cc nL dep lg ret Q n lo (r.toList ++ rest) μ') : V G l RL cc nL dep lg ret Q pc lo (a1 :: a0 :: .ref (G.2.2.1 125) :: rest) μ := R_callV (ci := 8) (id := 125) (As := [a0, a1]) hct hd (by decide) rfl tM_RL_93 tI_yX8_share tS_yX8_share tN_RX8 tC_yX8_share ok_yX8_share rfl rfl sh_125 rfl hrest hdg hn k
theorem ok_yX8_hoursBy : okY yX8_hoursBy 1 := ⟨by decide +kernel, by decide +kernel, by decide +kernel⟩
theorem iv_X8_160 {dep' : Nat} {Qy : Option Value → Mem → Prop} {rest : List Value} {a0 : Value} (hct : Ct G l dep' yX8_hoursBy cX8_hoursBy 4 (Option.some Jvm.ClassFile.FieldType.int) [Value.ref (G.2.2.1 125), a0] μ Qy) (hd : dep' < dep) (hdg : decode cc pc = .ok (.invokevirtual 160, 3)) (hn : pc + 3 = n) (hrest : (rest.map fun v => v.category).sum ≤ 8) (k : ∀ (r : Option Value) (μ' : Mem), Qy r μ' → V G l RX8 cc nL dep lg ret Q n lo (r.toList ++ rest) μ') : V G l RX8 cc nL dep lg ret Q pc lo (a0 :: .ref (G.2.2.1 125) :: rest) μ := R_callV (ci := 8) (id := 125) (As := [a0]) hct hd (by decide) rfl tM_RX8_160 tI_yX8_hoursBy tS_yX8_hoursBy tN_RX8 tC_yX8_hoursBy ok_yX8_hoursBy rfl rfl sh_125 rfl hrest hdg hn k
theorem ok_yX8_greatest : okY yX8_greatest 2 := ⟨by decide +kernel, by decide +kernel, by decide +kernel⟩
theorem iv_X8_157 {dep' : Nat} {Qy : Option Value → Mem → Prop} {rest : List Value} {a0 a1 : Value} (hct : Ct G l dep' yX8_greatest cX8_greatest 5 (Option.some Jvm.ClassFile.FieldType.int) [Value.ref (G.2.2.1 125), a0, a1] μ Qy) (hd : dep' < dep) (hdg : decode cc pc = .ok (.invokevirtual 157, 3)) (hn : pc + 3 = n) (hrest : (rest.map fun v => v.category).sum ≤ 8) (k : ∀ (r : Option Value) (μ' : Mem), Qy r μ' → V G l RX8 cc nL dep lg ret Q n lo (r.toList ++ rest) μ') : V G l RX8 cc nL dep lg ret Q pc lo (a1 :: a0 :: .ref (G.2.2.1 125) :: rest) μ := R_callV (ci := 8) (id := 125) (As := [a0, a1]) hct hd (by decide) rfl tM_RX8_157 tI_yX8_greatest tS_yX8_greatest tN_RX8 tC_yX8_greatest ok_yX8_greatest rfl rfl sh_125 rfl hrest hdg hn k
theorem ok_yX8_ones : okY yX8_ones 1 := ⟨by decide +kernel, by decide +kernel, by decide +kernel⟩
theorem iv_X8_163 {dep' : Nat} {Qy : Option Value → Mem → Prop} {rest : List Value} {a0 : Value} (hct : Ct G l dep' yX8_ones cX8_ones 3 (Option.some Jvm.ClassFile.FieldType.int) [a0] μ Qy) (hd : dep' < dep) (hdg : decode cc pc = .ok (.invokestatic 163, 3)) (hn : pc + 3 = n) (hrest : (rest.map fun v => v.category).sum ≤ 8) (k : ∀ (r : Option Value) (μ' : Mem), Qy r μ' → V G l RX8 cc nL dep lg ret Q n lo (r.toList ++ rest) μ') : V G l RX8 cc nL dep lg ret Q pc lo (a0 :: rest) μ := R_callS hct hd (by decide) tM_RX8_163 tT_yX8_ones tN_RX8 tC_yX8_ones ok_yX8_ones rfl rfl hrest hdg hn k
theorem ok_yX8_common : okY yX8_common 2 := ⟨by decide +kernel, by decide +kernel, by decide +kernel⟩
theorem iv_X8_166 {dep' : Nat} {Qy : Option Value → Mem → Prop} {rest : List Value} {a0 a1 : Value} (hct : Ct G l dep' yX8_common cX8_common 5 (Option.some Jvm.ClassFile.FieldType.int) [a0, a1] μ Qy) (hd : dep' < dep) (hdg : decode cc pc = .ok (.invokestatic 166, 3)) (hn : pc + 3 = n) (hrest : (rest.map fun v => v.category).sum ≤ 8) (k : ∀ (r : Option Value) (μ' : Mem), Qy r μ' → V G l RX8 cc nL dep lg ret Q n lo (r.toList ++ rest) μ') : V G l RX8 cc nL dep lg ret Q pc lo (a1 :: a0 :: rest) μ := R_callS hct hd (by decide) tM_RX8_166 tT_yX8_common tN_RX8 tC_yX8_common ok_yX8_common rfl rfl hrest hdg hn k
theorem ok_yX8_gave : okY yX8_gave 3 := ⟨by decide +kernel, by decide +kernel, by decide +kernel⟩
theorem iv_L_98 {dep' : Nat} {Qy : Option Value → Mem → Prop} {rest : List Value} {a0 a1 a2 : Value} (hct : Ct G l dep' yX8_gave cX8_gave 8 (Option.some Jvm.ClassFile.FieldType.int) [Value.ref (G.2.2.1 125), a0, a1, a2] μ Qy) (hd : dep' < dep) (hdg : decode cc pc = .ok (.invokevirtual 98, 3)) (hn : pc + 3 = n) (hrest : (rest.map fun v => v.category).sum ≤ 8) (k : ∀ (r : Option Value) (μ' : Mem), Qy r μ' → V G l RL cc nL dep lg ret Q n lo (r.toList ++ rest) μ') : V G l RL cc nL dep lg ret Q pc lo (a2 :: a1 :: a0 :: .ref (G.2.2.1 125) :: rest) μ := R_callV (ci := 8) (id := 125) (As := [a0, a1, a2]) hct hd (by decide) rfl tM_RL_98 tI_yX8_gave tS_yX8_gave tN_RX8 tC_yX8_gave ok_yX8_gave rfl rfl sh_125 rfl hrest hdg hn k
theorem ok_yX8_isOrder : okY yX8_isOrder 1 := ⟨by decide +kernel, by decide +kernel, by decide +kernel⟩
theorem iv_X8_169 {dep' : Nat} {Qy : Option Value → Mem → Prop} {rest : List Value} {a0 : Value} (hct : Ct G l dep' yX8_isOrder cX8_isOrder 6 (Option.some Jvm.ClassFile.FieldType.boolean) [Value.ref (G.2.2.1 125), a0] μ Qy) (hd : dep' < dep) (hdg : decode cc pc = .ok (.invokevirtual 169, 3)) (hn : pc + 3 = n) (hrest : (rest.map fun v => v.category).sum ≤ 8) (k : ∀ (r : Option Value) (μ' : Mem), Qy r μ' → V G l RX8 cc nL dep lg ret Q n lo (r.toList ++ rest) μ') : V G l RX8 cc nL dep lg ret Q pc lo (a0 :: .ref (G.2.2.1 125) :: rest) μ := R_callV (ci := 8) (id := 125) (As := [a0]) hct hd (by decide) rfl tM_RX8_169 tI_yX8_isOrder tS_yX8_isOrder tN_RX8 tC_yX8_isOrder ok_yX8_isOrder rfl rfl sh_125 rfl hrest hdg hn k
theorem ok_yX8_comesSo : okY yX8_comesSo 3 := ⟨by decide +kernel, by decide +kernel, by decide +kernel⟩
theorem iv_X8_174 {dep' : Nat} {Qy : Option Value → Mem → Prop} {rest : List Value} {a0 a1 a2 : Value} (hct : Ct G l dep' yX8_comesSo cX8_comesSo 5 (Option.some Jvm.ClassFile.FieldType.boolean) [Value.ref (G.2.2.1 125), a0, a1, a2] μ Qy) (hd : dep' < dep) (hdg : decode cc pc = .ok (.invokevirtual 174, 3)) (hn : pc + 3 = n) (hrest : (rest.map fun v => v.category).sum ≤ 8) (k : ∀ (r : Option Value) (μ' : Mem), Qy r μ' → V G l RX8 cc nL dep lg ret Q n lo (r.toList ++ rest) μ') : V G l RX8 cc nL dep lg ret Q pc lo (a2 :: a1 :: a0 :: .ref (G.2.2.1 125) :: rest) μ := R_callV (ci := 8) (id := 125) (As := [a0, a1, a2]) hct hd (by decide) rfl tM_RX8_174 tI_yX8_comesSo tS_yX8_comesSo tN_RX8 tC_yX8_comesSo ok_yX8_comesSo rfl rfl sh_125 rfl hrest hdg hn k
theorem ok_yX8_rests : okY yX8_rests 4 := ⟨by decide +kernel, by decide +kernel, by decide +kernel⟩
theorem iv_L_103 {dep' : Nat} {Qy : Option Value → Mem → Prop} {rest : List Value} {a0 a1 a2 a3 : Value} (hct : Ct G l dep' yX8_rests cX8_rests 8 (Option.some Jvm.ClassFile.FieldType.int) [Value.ref (G.2.2.1 125), a0, a1, a2, a3] μ Qy) (hd : dep' < dep) (hdg : decode cc pc = .ok (.invokevirtual 103, 3)) (hn : pc + 3 = n) (hrest : (rest.map fun v => v.category).sum ≤ 8) (k : ∀ (r : Option Value) (μ' : Mem), Qy r μ' → V G l RL cc nL dep lg ret Q n lo (r.toList ++ rest) μ') : V G l RL cc nL dep lg ret Q pc lo (a3 :: a2 :: a1 :: a0 :: .ref (G.2.2.1 125) :: rest) μ := R_callV (ci := 8) (id := 125) (As := [a0, a1, a2, a3]) hct hd (by decide) rfl tM_RL_103 tI_yX8_rests tS_yX8_rests tN_RX8 tC_yX8_rests ok_yX8_rests rfl rfl sh_125 rfl hrest hdg hn k
theorem ok_yX8_layLosses : okY yX8_layLosses 3 := ⟨by decide +kernel, by decide +kernel, by decide +kernel⟩
theorem iv_X8_178 {dep' : Nat} {Qy : Option Value → Mem → Prop} {rest : List Value} {a0 a1 a2 : Value} (hct : Ct G l dep' yX8_layLosses cX8_layLosses 5 (Option.none : Option Jvm.ClassFile.FieldType) [Value.ref (G.2.2.1 125), a0, a1, a2] μ Qy) (hd : dep' < dep) (hdg : decode cc pc = .ok (.invokevirtual 178, 3)) (hn : pc + 3 = n) (hrest : (rest.map fun v => v.category).sum ≤ 8) (k : ∀ (r : Option Value) (μ' : Mem), Qy r μ' → V G l RX8 cc nL dep lg ret Q n lo (r.toList ++ rest) μ') : V G l RX8 cc nL dep lg ret Q pc lo (a2 :: a1 :: a0 :: .ref (G.2.2.1 125) :: rest) μ := R_callV (ci := 8) (id := 125) (As := [a0, a1, a2]) hct hd (by decide) rfl tM_RX8_178 tI_yX8_layLosses tS_yX8_layLosses tN_RX8 tC_yX8_layLosses ok_yX8_layLosses rfl rfl sh_125 rfl hrest hdg hn k
theorem ok_yX8_isRest : okY yX8_isRest 1 := ⟨by decide +kernel, by decide +kernel, by decide +kernel⟩
theorem iv_X8_182 {dep' : Nat} {Qy : Option Value → Mem → Prop} {rest : List Value} {a0 : Value} (hct : Ct G l dep' yX8_isRest cX8_isRest 4 (Option.some Jvm.ClassFile.FieldType.boolean) [Value.ref (G.2.2.1 125), a0] μ Qy) (hd : dep' < dep) (hdg : decode cc pc = .ok (.invokevirtual 182, 3)) (hn : pc + 3 = n) (hrest : (rest.map fun v => v.category).sum ≤ 8) (k : ∀ (r : Option Value) (μ' : Mem), Qy r μ' → V G l RX8 cc nL dep lg ret Q n lo (r.toList ++ rest) μ') : V G l RX8 cc nL dep lg ret Q pc lo (a0 :: .ref (G.2.2.1 125) :: rest) μ := R_callV (ci := 8) (id := 125) (As := [a0]) hct hd (by decide) rfl tM_RX8_182 tI_yX8_isRest tS_yX8_isRest tN_RX8 tC_yX8_isRest ok_yX8_isRest rfl rfl sh_125 rfl hrest hdg hn k
theorem ok_yX8_asleep : okY yX8_asleep 4 := ⟨by decide +kernel, by decide +kernel, by decide +kernel⟩
theorem iv_L_108 {dep' : Nat} {Qy : Option Value → Mem → Prop} {rest : List Value} {a0 a1 a2 a3 : Value} (hct : Ct G l dep' yX8_asleep cX8_asleep 12 (Option.some Jvm.ClassFile.FieldType.int) [Value.ref (G.2.2.1 125), a0, a1, a2, a3] μ Qy) (hd : dep' < dep) (hdg : decode cc pc = .ok (.invokevirtual 108, 3)) (hn : pc + 3 = n) (hrest : (rest.map fun v => v.category).sum ≤ 8) (k : ∀ (r : Option Value) (μ' : Mem), Qy r μ' → V G l RL cc nL dep lg ret Q n lo (r.toList ++ rest) μ') : V G l RL cc nL dep lg ret Q pc lo (a3 :: a2 :: a1 :: a0 :: .ref (G.2.2.1 125) :: rest) μ := R_callV (ci := 8) (id := 125) (As := [a0, a1, a2, a3]) hct hd (by decide) rfl tM_RL_108 tI_yX8_asleep tS_yX8_asleep tN_RX8 tC_yX8_asleep ok_yX8_asleep rfl rfl sh_125 rfl hrest hdg hn k
theorem ok_yX8_seed : okY yX8_seed 1 := ⟨by decide +kernel, by decide +kernel, by decide +kernel⟩
theorem iv_L_115 {dep' : Nat} {Qy : Option Value → Mem → Prop} {rest : List Value} {a0 : Value} (hct : Ct G l dep' yX8_seed cX8_seed 5 (Option.some Jvm.ClassFile.FieldType.long) [Value.ref (G.2.2.1 125), a0] μ Qy) (hd : dep' < dep) (hdg : decode cc pc = .ok (.invokevirtual 115, 3)) (hn : pc + 3 = n) (hrest : (rest.map fun v => v.category).sum ≤ 8) (k : ∀ (r : Option Value) (μ' : Mem), Qy r μ' → V G l RL cc nL dep lg ret Q n lo (r.toList ++ rest) μ') : V G l RL cc nL dep lg ret Q pc lo (a0 :: .ref (G.2.2.1 125) :: rest) μ := R_callV (ci := 8) (id := 125) (As := [a0]) hct hd (by decide) rfl tM_RL_115 tI_yX8_seed tS_yX8_seed tN_RX8 tC_yX8_seed ok_yX8_seed rfl rfl sh_125 rfl hrest hdg hn k
theorem ok_yX8_days : okY yX8_days 2 := ⟨by decide +kernel, by decide +kernel, by decide +kernel⟩
theorem iv_L_119 {dep' : Nat} {Qy : Option Value → Mem → Prop} {rest : List Value} {a0 a1 : Value} (hct : Ct G l dep' yX8_days cX8_days 7 (Option.some Jvm.ClassFile.FieldType.int) [Value.ref (G.2.2.1 125), a0, a1] μ Qy) (hd : dep' < dep) (hdg : decode cc pc = .ok (.invokevirtual 119, 3)) (hn : pc + 3 = n) (hrest : (rest.map fun v => v.category).sum ≤ 8) (k : ∀ (r : Option Value) (μ' : Mem), Qy r μ' → V G l RL cc nL dep lg ret Q n lo (r.toList ++ rest) μ') : V G l RL cc nL dep lg ret Q pc lo (a1 :: a0 :: .ref (G.2.2.1 125) :: rest) μ := R_callV (ci := 8) (id := 125) (As := [a0, a1]) hct hd (by decide) rfl tM_RL_119 tI_yX8_days tS_yX8_days tN_RX8 tC_yX8_days ok_yX8_days rfl rfl sh_125 rfl hrest hdg hn k
theorem ok_yX8_isFirst : okY yX8_isFirst 1 := ⟨by decide +kernel, by decide +kernel, by decide +kernel⟩
theorem iv_X8_199 {dep' : Nat} {Qy : Option Value → Mem → Prop} {rest : List Value} {a0 : Value} (hct : Ct G l dep' yX8_isFirst cX8_isFirst 2 (Option.some Jvm.ClassFile.FieldType.boolean) [Value.ref (G.2.2.1 125), a0] μ Qy) (hd : dep' < dep) (hdg : decode cc pc = .ok (.invokevirtual 199, 3)) (hn : pc + 3 = n) (hrest : (rest.map fun v => v.category).sum ≤ 8) (k : ∀ (r : Option Value) (μ' : Mem), Qy r μ' → V G l RX8 cc nL dep lg ret Q n lo (r.toList ++ rest) μ') : V G l RX8 cc nL dep lg ret Q pc lo (a0 :: .ref (G.2.2.1 125) :: rest) μ := R_callV (ci := 8) (id := 125) (As := [a0]) hct hd (by decide) rfl tM_RX8_199 tI_yX8_isFirst tS_yX8_isFirst tN_RX8 tC_yX8_isFirst ok_yX8_isFirst rfl rfl sh_125 rfl hrest hdg hn k
theorem ok_yX8_keep : okY yX8_keep 1 := ⟨by decide +kernel, by decide +kernel, by decide +kernel⟩
theorem iv_L_123 {dep' : Nat} {Qy : Option Value → Mem → Prop} {rest : List Value} {a0 : Value} (hct : Ct G l dep' yX8_keep cX8_keep 3 (Option.some Jvm.ClassFile.FieldType.int) [Value.ref (G.2.2.1 125), a0] μ Qy) (hd : dep' < dep) (hdg : decode cc pc = .ok (.invokevirtual 123, 3)) (hn : pc + 3 = n) (hrest : (rest.map fun v => v.category).sum ≤ 8) (k : ∀ (r : Option Value) (μ' : Mem), Qy r μ' → V G l RL cc nL dep lg ret Q n lo (r.toList ++ rest) μ') : V G l RL cc nL dep lg ret Q pc lo (a0 :: .ref (G.2.2.1 125) :: rest) μ := R_callV (ci := 8) (id := 125) (As := [a0]) hct hd (by decide) rfl tM_RL_123 tI_yX8_keep tS_yX8_keep tN_RX8 tC_yX8_keep ok_yX8_keep rfl rfl sh_125 rfl hrest hdg hn k
theorem ok_yX8_again : okY yX8_again 1 := ⟨by decide +kernel, by decide +kernel, by decide +kernel⟩
theorem iv_L_127 {dep' : Nat} {Qy : Option Value → Mem → Prop} {rest : List Value} {a0 : Value} (hct : Ct G l dep' yX8_again cX8_again 3 (Option.some Jvm.ClassFile.FieldType.int) [Value.ref (G.2.2.1 125), a0] μ Qy) (hd : dep' < dep) (hdg : decode cc pc = .ok (.invokevirtual 127, 3)) (hn : pc + 3 = n) (hrest : (rest.map fun v => v.category).sum ≤ 8) (k : ∀ (r : Option Value) (μ' : Mem), Qy r μ' → V G l RL cc nL dep lg ret Q n lo (r.toList ++ rest) μ') : V G l RL cc nL dep lg ret Q pc lo (a0 :: .ref (G.2.2.1 125) :: rest) μ := R_callV (ci := 8) (id := 125) (As := [a0]) hct hd (by decide) rfl tM_RL_127 tI_yX8_again tS_yX8_again tN_RX8 tC_yX8_again ok_yX8_again rfl rfl sh_125 rfl hrest hdg hn k
theorem ok_yX8_count : okY yX8_count 1 := ⟨by decide +kernel, by decide +kernel, by decide +kernel⟩
theorem iv_L_131 {dep' : Nat} {Qy : Option Value → Mem → Prop} {rest : List Value} {a0 : Value} (hct : Ct G l dep' yX8_count cX8_count 2 (Option.some Jvm.ClassFile.FieldType.int) [Value.ref (G.2.2.1 125), a0] μ Qy) (hd : dep' < dep) (hdg : decode cc pc = .ok (.invokevirtual 131, 3)) (hn : pc + 3 = n) (hrest : (rest.map fun v => v.category).sum ≤ 8) (k : ∀ (r : Option Value) (μ' : Mem), Qy r μ' → V G l RL cc nL dep lg ret Q n lo (r.toList ++ rest) μ') : V G l RL cc nL dep lg ret Q pc lo (a0 :: .ref (G.2.2.1 125) :: rest) μ := R_callV (ci := 8) (id := 125) (As := [a0]) hct hd (by decide) rfl tM_RL_131 tI_yX8_count tS_yX8_count tN_RX8 tC_yX8_count ok_yX8_count rfl rfl sh_125 rfl hrest hdg hn k
theorem ok_yX8_sumOf : okY yX8_sumOf 2 := ⟨by decide +kernel, by decide +kernel, by decide +kernel⟩
theorem iv_X8_202 {dep' : Nat} {Qy : Option Value → Mem → Prop} {rest : List Value} {a0 a1 : Value} (hct : Ct G l dep' yX8_sumOf cX8_sumOf 5 (Option.some Jvm.ClassFile.FieldType.int) [Value.ref (G.2.2.1 125), a0, a1] μ Qy) (hd : dep' < dep) (hdg : decode cc pc = .ok (.invokevirtual 202, 3)) (hn : pc + 3 = n) (hrest : (rest.map fun v => v.category).sum ≤ 8) (k : ∀ (r : Option Value) (μ' : Mem), Qy r μ' → V G l RX8 cc nL dep lg ret Q n lo (r.toList ++ rest) μ') : V G l RX8 cc nL dep lg ret Q pc lo (a1 :: a0 :: .ref (G.2.2.1 125) :: rest) μ := R_callV (ci := 8) (id := 125) (As := [a0, a1]) hct hd (by decide) rfl tM_RX8_202 tI_yX8_sumOf tS_yX8_sumOf tN_RX8 tC_yX8_sumOf ok_yX8_sumOf rfl rfl sh_125 rfl hrest hdg hn k
theorem iv_X2_91 {dep' : Nat} {Qy : Option Value → Mem → Prop} {rest : List Value} {a0 a1 : Value} (hct : Ct G l dep' yX7_power cX7_power 4 (Option.some Jvm.ClassFile.FieldType.int) [a0, a1] μ Qy) (hd : dep' < dep) (hdg : decode cc pc = .ok (.invokestatic 91, 3)) (hn : pc + 3 = n) (hrest : (rest.map fun v => v.category).sum ≤ 8) (k : ∀ (r : Option Value) (μ' : Mem), Qy r μ' → V G l RX2 cc nL dep lg ret Q n lo (r.toList ++ rest) μ') : V G l RX2 cc nL dep lg ret Q pc lo (a1 :: a0 :: rest) μ := R_callN rfl hct hd (by decide) tT_yX7_power tN_RX7 tC_yX7_power ok_yX7_power rfl rfl hrest hdg hn k
end VC
end
section
theorem dX0_init_0 : decode cX0_init 0 = .ok (.aload_n 0, 1) := by decide +kernel
theorem dX0_init_1 : decode cX0_init 1 = .ok (.invokespecial 3, 3) := by decide +kernel
theorem dX0_init_4 : decode cX0_init 4 = .ok (.aload_n 0, 1) := by decide +kernel
theorem dX0_init_5 : decode cX0_init 5 = .ok (.bipush 14, 2) := by decide +kernel
theorem dX0_init_7 : decode cX0_init 7 = .ok (.anewarray 9, 3) := by decide +kernel
theorem dX0_init_10 : decode cX0_init 10 = .ok (.putfield 11, 3) := by decide +kernel
theorem dX0_init_13 : decode cX0_init 13 = .ok (.iconst 0, 1) := by decide +kernel
theorem dX0_init_14 : decode cX0_init 14 = .ok (.istore_n 1, 1) := by decide +kernel
theorem dX0_init_15 : decode cX0_init 15 = .ok (.iload_n 1, 1) := by decide +kernel
theorem dX0_init_16 : decode cX0_init 16 = .ok (.bipush 14, 2) := by decide +kernel
theorem dX0_init_18 : decode cX0_init 18 = .ok (.if_icmp .ge 22, 3) := by decide +kernel
theorem dX0_init_21 : decode cX0_init 21 = .ok (.aload_n 0, 1) := by decide +kernel
theorem dX0_init_22 : decode cX0_init 22 = .ok (.getfield 11, 3) := by decide +kernel
theorem dX0_init_25 : decode cX0_init 25 = .ok (.iload_n 1, 1) := by decide +kernel
theorem dX0_init_26 : decode cX0_init 26 = .ok (.new 9, 3) := by decide +kernel
theorem dX0_init_29 : decode cX0_init 29 = .ok (.dup, 1) := by decide +kernel
theorem dX0_init_30 : decode cX0_init 30 = .ok (.invokespecial 17, 3) := by decide +kernel
theorem dX0_init_33 : decode cX0_init 33 = .ok (.aastore, 1) := by decide +kernel
theorem dX0_init_34 : decode cX0_init 34 = .ok (.iinc 1 1, 3) := by decide +kernel
theorem dX0_init_37 : decode cX0_init 37 = .ok (.goto (-22), 3) := by decide +kernel
theorem dX0_init_40 : decode cX0_init 40 = .ok (.return_, 1) := by decide +kernel
theorem dX0_remember_0 : decode cX0_remember 0 = .ok (.aload_n 0, 1) := by decide +kernel
theorem dX0_remember_1 : decode cX0_remember 1 = .ok (.getfield 11, 3) := by decide +kernel
theorem dX0_remember_4 : decode cX0_remember 4 = .ok (.aload_n 0, 1) := by decide +kernel
theorem dX0_remember_5 : decode cX0_remember 5 = .ok (.getfield 18, 3) := by decide +kernel
theorem dX0_remember_8 : decode cX0_remember 8 = .ok (.aload_n 0, 1) := by decide +kernel
theorem dX0_remember_9 : decode cX0_remember 9 = .ok (.getfield 22, 3) := by decide +kernel
theorem dX0_remember_12 : decode cX0_remember 12 = .ok (.iadd, 1) := by decide +kernel
theorem dX0_remember_13 : decode cX0_remember 13 = .ok (.bipush 14, 2) := by decide +kernel
theorem dX0_remember_15 : decode cX0_remember 15 = .ok (.irem, 1) := by decide +kernel
theorem dX0_remember_16 : decode cX0_remember 16 = .ok (.aaload, 1) := by decide +kernel
theorem dX0_remember_17 : decode cX0_remember 17 = .ok (.aload_n 1, 1) := by decide +kernel
theorem dX0_remember_18 : decode cX0_remember 18 = .ok (.invokevirtual 25, 3) := by decide +kernel
theorem dX0_remember_21 : decode cX0_remember 21 = .ok (.aload_n 0, 1) := by decide +kernel
theorem dX0_remember_22 : decode cX0_remember 22 = .ok (.getfield 22, 3) := by decide +kernel
theorem dX0_remember_25 : decode cX0_remember 25 = .ok (.bipush 14, 2) := by decide +kernel
theorem dX0_remember_27 : decode cX0_remember 27 = .ok (.if_icmp .ge 16, 3) := by decide +kernel
theorem dX0_remember_30 : decode cX0_remember 30 = .ok (.aload_n 0, 1) := by decide +kernel
theorem dX0_remember_31 : decode cX0_remember 31 = .ok (.dup, 1) := by decide +kernel
theorem dX0_remember_32 : decode cX0_remember 32 = .ok (.getfield 22, 3) := by decide +kernel
theorem dX0_remember_35 : decode cX0_remember 35 = .ok (.iconst 1, 1) := by decide +kernel
theorem dX0_remember_36 : decode cX0_remember 36 = .ok (.iadd, 1) := by decide +kernel
theorem dX0_remember_37 : decode cX0_remember 37 = .ok (.putfield 22, 3) := by decide +kernel
theorem dX0_remember_40 : decode cX0_remember 40 = .ok (.goto 16, 3) := by decide +kernel
theorem dX0_remember_43 : decode cX0_remember 43 = .ok (.aload_n 0, 1) := by decide +kernel
theorem dX0_remember_44 : decode cX0_remember 44 = .ok (.aload_n 0, 1) := by decide +kernel
theorem dX0_remember_45 : decode cX0_remember 45 = .ok (.getfield 18, 3) := by decide +kernel
theorem dX0_remember_48 : decode cX0_remember 48 = .ok (.iconst 1, 1) := by decide +kernel
theorem dX0_remember_49 : decode cX0_remember 49 = .ok (.iadd, 1) := by decide +kernel
theorem dX0_remember_50 : decode cX0_remember 50 = .ok (.bipush 14, 2) := by decide +kernel
theorem dX0_remember_52 : decode cX0_remember 52 = .ok (.irem, 1) := by decide +kernel
theorem dX0_remember_53 : decode cX0_remember 53 = .ok (.putfield 18, 3) := by decide +kernel
theorem dX0_remember_56 : decode cX0_remember 56 = .ok (.return_, 1) := by decide +kernel
theorem dX0_takeBack_0 : decode cX0_takeBack 0 = .ok (.aload_n 0, 1) := by decide +kernel
theorem dX0_takeBack_1 : decode cX0_takeBack 1 = .ok (.getfield 22, 3) := by decide +kernel
theorem dX0_takeBack_4 : decode cX0_takeBack 4 = .ok (.ifCond .le 34, 3) := by decide +kernel
theorem dX0_takeBack_7 : decode cX0_takeBack 7 = .ok (.aload_n 0, 1) := by decide +kernel
theorem dX0_takeBack_8 : decode cX0_takeBack 8 = .ok (.dup, 1) := by decide +kernel
theorem dX0_takeBack_9 : decode cX0_takeBack 9 = .ok (.getfield 22, 3) := by decide +kernel
theorem dX0_takeBack_12 : decode cX0_takeBack 12 = .ok (.iconst 1, 1) := by decide +kernel
theorem dX0_takeBack_13 : decode cX0_takeBack 13 = .ok (.isub, 1) := by decide +kernel
theorem dX0_takeBack_14 : decode cX0_takeBack 14 = .ok (.putfield 22, 3) := by decide +kernel
theorem dX0_takeBack_17 : decode cX0_takeBack 17 = .ok (.aload_n 1, 1) := by decide +kernel
theorem dX0_takeBack_18 : decode cX0_takeBack 18 = .ok (.aload_n 0, 1) := by decide +kernel
theorem dX0_takeBack_19 : decode cX0_takeBack 19 = .ok (.getfield 11, 3) := by decide +kernel
theorem dX0_takeBack_22 : decode cX0_takeBack 22 = .ok (.aload_n 0, 1) := by decide +kernel
theorem dX0_takeBack_23 : decode cX0_takeBack 23 = .ok (.getfield 18, 3) := by decide +kernel
theorem dX0_takeBack_26 : decode cX0_takeBack 26 = .ok (.aload_n 0, 1) := by decide +kernel
theorem dX0_takeBack_27 : decode cX0_takeBack 27 = .ok (.getfield 22, 3) := by decide +kernel
theorem dX0_takeBack_30 : decode cX0_takeBack 30 = .ok (.iadd, 1) := by decide +kernel
theorem dX0_takeBack_31 : decode cX0_takeBack 31 = .ok (.bipush 14, 2) := by decide +kernel
theorem dX0_takeBack_33 : decode cX0_takeBack 33 = .ok (.irem, 1) := by decide +kernel
theorem dX0_takeBack_34 : decode cX0_takeBack 34 = .ok (.aaload, 1) := by decide +kernel
theorem dX0_takeBack_35 : decode cX0_takeBack 35 = .ok (.invokevirtual 25, 3) := by decide +kernel
theorem dX0_takeBack_38 : decode cX0_takeBack 38 = .ok (.return_, 1) := by decide +kernel
theorem dX0_forgetAll_0 : decode cX0_forgetAll 0 = .ok (.aload_n 0, 1) := by decide +kernel
theorem dX0_forgetAll_1 : decode cX0_forgetAll 1 = .ok (.iconst 0, 1) := by decide +kernel
theorem dX0_forgetAll_2 : decode cX0_forgetAll 2 = .ok (.putfield 22, 3) := by decide +kernel
theorem dX0_forgetAll_5 : decode cX0_forgetAll 5 = .ok (.return_, 1) := by decide +kernel
theorem dX1_init_0 : decode cX1_init 0 = .ok (.aload_n 0, 1) := by decide +kernel
theorem dX1_init_1 : decode cX1_init 1 = .ok (.invokespecial 3, 3) := by decide +kernel
theorem dX1_init_4 : decode cX1_init 4 = .ok (.aload_n 0, 1) := by decide +kernel
theorem dX1_init_5 : decode cX1_init 5 = .ok (.bipush 6, 2) := by decide +kernel
theorem dX1_init_7 : decode cX1_init 7 = .ok (.newarray .int, 2) := by decide +kernel
theorem dX1_init_9 : decode cX1_init 9 = .ok (.putfield 9, 3) := by decide +kernel
theorem dX1_init_12 : decode cX1_init 12 = .ok (.aload_n 0, 1) := by decide +kernel
theorem dX1_init_13 : decode cX1_init 13 = .ok (.bipush 6, 2) := by decide +kernel
theorem dX1_init_15 : decode cX1_init 15 = .ok (.newarray .int, 2) := by decide +kernel
theorem dX1_init_17 : decode cX1_init 17 = .ok (.putfield 15, 3) := by decide +kernel
theorem dX1_init_20 : decode cX1_init 20 = .ok (.aload_n 0, 1) := by decide +kernel
theorem dX1_init_21 : decode cX1_init 21 = .ok (.new 18, 3) := by decide +kernel
theorem dX1_init_24 : decode cX1_init 24 = .ok (.dup, 1) := by decide +kernel
theorem dX1_init_25 : decode cX1_init 25 = .ok (.invokespecial 20, 3) := by decide +kernel
theorem dX1_init_28 : decode cX1_init 28 = .ok (.putfield 21, 3) := by decide +kernel
theorem dX1_init_31 : decode cX1_init 31 = .ok (.aload_n 0, 1) := by decide +kernel
theorem dX1_init_32 : decode cX1_init 32 = .ok (.new 18, 3) := by decide +kernel
theorem dX1_init_35 : decode cX1_init 35 = .ok (.dup, 1) := by decide +kernel
theorem dX1_init_36 : decode cX1_init 36 = .ok (.invokespecial 20, 3) := by decide +kernel
theorem dX1_init_39 : decode cX1_init 39 = .ok (.putfield 25, 3) := by decide +kernel
theorem dX1_init_42 : decode cX1_init 42 = .ok (.return_, 1) := by decide +kernel
theorem dX1_makeFrom_0 : decode cX1_makeFrom 0 = .ok (.aload_n 0, 1) := by decide +kernel
theorem dX1_makeFrom_1 : decode cX1_makeFrom 1 = .ok (.iconst 0, 1) := by decide +kernel
theorem dX1_makeFrom_2 : decode cX1_makeFrom 2 = .ok (.putfield 28, 3) := by decide +kernel
theorem dX1_makeFrom_5 : decode cX1_makeFrom 5 = .ok (.aload_n 0, 1) := by decide +kernel
theorem dX1_makeFrom_6 : decode cX1_makeFrom 6 = .ok (.iconst 0, 1) := by decide +kernel
theorem dX1_makeFrom_7 : decode cX1_makeFrom 7 = .ok (.putfield 32, 3) := by decide +kernel
theorem dX1_makeFrom_10 : decode cX1_makeFrom 10 = .ok (.aload_n 0, 1) := by decide +kernel
theorem dX1_makeFrom_11 : decode cX1_makeFrom 11 = .ok (.getfield 21, 3) := by decide +kernel
theorem dX1_makeFrom_14 : decode cX1_makeFrom 14 = .ok (.invokevirtual 35, 3) := by decide +kernel
theorem dX1_makeFrom_17 : decode cX1_makeFrom 17 = .ok (.iconst 0, 1) := by decide +kernel
theorem dX1_makeFrom_18 : decode cX1_makeFrom 18 = .ok (.istore_n 2, 1) := by decide +kernel
theorem dX1_makeFrom_19 : decode cX1_makeFrom 19 = .ok (.iload_n 2, 1) := by decide +kernel
theorem dX1_makeFrom_20 : decode cX1_makeFrom 20 = .ok (.aload_n 1, 1) := by decide +kernel
theorem dX1_makeFrom_21 : decode cX1_makeFrom 21 = .ok (.getfield 38, 3) := by decide +kernel
theorem dX1_makeFrom_24 : decode cX1_makeFrom 24 = .ok (.if_icmp .ge 154, 3) := by decide +kernel
theorem dX1_makeFrom_27 : decode cX1_makeFrom 27 = .ok (.aload_n 1, 1) := by decide +kernel
theorem dX1_makeFrom_28 : decode cX1_makeFrom 28 = .ok (.getfield 43, 3) := by decide +kernel
theorem dX1_makeFrom_31 : decode cX1_makeFrom 31 = .ok (.iload_n 2, 1) := by decide +kernel
theorem dX1_makeFrom_32 : decode cX1_makeFrom 32 = .ok (.iaload, 1) := by decide +kernel
theorem dX1_makeFrom_33 : decode cX1_makeFrom 33 = .ok (.istore_n 3, 1) := by decide +kernel
theorem dX1_makeFrom_34 : decode cX1_makeFrom 34 = .ok (.iload_n 3, 1) := by decide +kernel
theorem dX1_makeFrom_35 : decode cX1_makeFrom 35 = .ok (.bipush 75, 2) := by decide +kernel
theorem dX1_makeFrom_37 : decode cX1_makeFrom 37 = .ok (.if_icmp .ne 43, 3) := by decide +kernel
theorem dX1_makeFrom_40 : decode cX1_makeFrom 40 = .ok (.aload_n 0, 1) := by decide +kernel
theorem dX1_makeFrom_41 : decode cX1_makeFrom 41 = .ok (.getfield 28, 3) := by decide +kernel
theorem dX1_makeFrom_44 : decode cX1_makeFrom 44 = .ok (.iconst 5, 1) := by decide +kernel
theorem dX1_makeFrom_45 : decode cX1_makeFrom 45 = .ok (.if_icmp .ge 35, 3) := by decide +kernel
theorem dX1_makeFrom_48 : decode cX1_makeFrom 48 = .ok (.aload_n 0, 1) := by decide +kernel
theorem dX1_makeFrom_49 : decode cX1_makeFrom 49 = .ok (.getfield 21, 3) := by decide +kernel
theorem dX1_makeFrom_52 : decode cX1_makeFrom 52 = .ok (.getfield 46, 3) := by decide +kernel
theorem dX1_makeFrom_55 : decode cX1_makeFrom 55 = .ok (.aload_n 0, 1) := by decide +kernel
theorem dX1_makeFrom_56 : decode cX1_makeFrom 56 = .ok (.getfield 28, 3) := by decide +kernel
theorem dX1_makeFrom_59 : decode cX1_makeFrom 59 = .ok (.aload_n 1, 1) := by decide +kernel
theorem dX1_makeFrom_60 : decode cX1_makeFrom 60 = .ok (.iload_n 2, 1) := by decide +kernel
theorem dX1_makeFrom_61 : decode cX1_makeFrom 61 = .ok (.iconst 1, 1) := by decide +kernel
theorem dX1_makeFrom_62 : decode cX1_makeFrom 62 = .ok (.iadd, 1) := by decide +kernel
theorem dX1_makeFrom_63 : decode cX1_makeFrom 63 = .ok (.invokevirtual 49, 3) := by decide +kernel
theorem dX1_makeFrom_66 : decode cX1_makeFrom 66 = .ok (.iastore, 1) := by decide +kernel
theorem dX1_makeFrom_67 : decode cX1_makeFrom 67 = .ok (.aload_n 0, 1) := by decide +kernel
theorem dX1_makeFrom_68 : decode cX1_makeFrom 68 = .ok (.dup, 1) := by decide +kernel
theorem dX1_makeFrom_69 : decode cX1_makeFrom 69 = .ok (.getfield 28, 3) := by decide +kernel
theorem dX1_makeFrom_72 : decode cX1_makeFrom 72 = .ok (.iconst 1, 1) := by decide +kernel
theorem dX1_makeFrom_73 : decode cX1_makeFrom 73 = .ok (.iadd, 1) := by decide +kernel
theorem dX1_makeFrom_74 : decode cX1_makeFrom 74 = .ok (.putfield 28, 3) := by decide +kernel
theorem dX1_makeFrom_77 : decode cX1_makeFrom 77 = .ok (.goto 95, 3) := by decide +kernel
theorem dX1_makeFrom_80 : decode cX1_makeFrom 80 = .ok (.iload_n 3, 1) := by decide +kernel
theorem dX1_makeFrom_81 : decode cX1_makeFrom 81 = .ok (.bipush 66, 2) := by decide +kernel
theorem dX1_makeFrom_83 : decode cX1_makeFrom 83 = .ok (.if_icmp .ne 89, 3) := by decide +kernel
theorem dX1_makeFrom_86 : decode cX1_makeFrom 86 = .ok (.aload_n 0, 1) := by decide +kernel
theorem dX1_makeFrom_87 : decode cX1_makeFrom 87 = .ok (.getfield 32, 3) := by decide +kernel
theorem dX1_makeFrom_90 : decode cX1_makeFrom 90 = .ok (.bipush 6, 2) := by decide +kernel
theorem dX1_makeFrom_92 : decode cX1_makeFrom 92 = .ok (.if_icmp .ge 80, 3) := by decide +kernel
theorem dX1_makeFrom_95 : decode cX1_makeFrom 95 = .ok (.aload_n 0, 1) := by decide +kernel
theorem dX1_makeFrom_96 : decode cX1_makeFrom 96 = .ok (.getfield 9, 3) := by decide +kernel
theorem dX1_makeFrom_99 : decode cX1_makeFrom 99 = .ok (.aload_n 0, 1) := by decide +kernel
theorem dX1_makeFrom_100 : decode cX1_makeFrom 100 = .ok (.getfield 32, 3) := by decide +kernel
theorem dX1_makeFrom_103 : decode cX1_makeFrom 103 = .ok (.aload_n 1, 1) := by decide +kernel
theorem dX1_makeFrom_104 : decode cX1_makeFrom 104 = .ok (.iload_n 2, 1) := by decide +kernel
theorem dX1_makeFrom_105 : decode cX1_makeFrom 105 = .ok (.iconst 1, 1) := by decide +kernel
theorem dX1_makeFrom_106 : decode cX1_makeFrom 106 = .ok (.iadd, 1) := by decide +kernel
theorem dX1_makeFrom_107 : decode cX1_makeFrom 107 = .ok (.invokevirtual 49, 3) := by decide +kernel
theorem dX1_makeFrom_110 : decode cX1_makeFrom 110 = .ok (.iastore, 1) := by decide +kernel
theorem dX1_makeFrom_111 : decode cX1_makeFrom 111 = .ok (.aload_n 0, 1) := by decide +kernel
theorem dX1_makeFrom_112 : decode cX1_makeFrom 112 = .ok (.getfield 15, 3) := by decide +kernel
theorem dX1_makeFrom_115 : decode cX1_makeFrom 115 = .ok (.aload_n 0, 1) := by decide +kernel
theorem dX1_makeFrom_116 : decode cX1_makeFrom 116 = .ok (.getfield 32, 3) := by decide +kernel
theorem dX1_makeFrom_119 : decode cX1_makeFrom 119 = .ok (.aload_n 1, 1) := by decide +kernel
theorem dX1_makeFrom_120 : decode cX1_makeFrom 120 = .ok (.iload_n 2, 1) := by decide +kernel
theorem dX1_makeFrom_121 : decode cX1_makeFrom 121 = .ok (.iconst 2, 1) := by decide +kernel
theorem dX1_makeFrom_122 : decode cX1_makeFrom 122 = .ok (.iadd, 1) := by decide +kernel
theorem dX1_makeFrom_123 : decode cX1_makeFrom 123 = .ok (.invokevirtual 49, 3) := by decide +kernel
theorem dX1_makeFrom_126 : decode cX1_makeFrom 126 = .ok (.iastore, 1) := by decide +kernel
theorem dX1_makeFrom_127 : decode cX1_makeFrom 127 = .ok (.aload_n 0, 1) := by decide +kernel
theorem dX1_makeFrom_128 : decode cX1_makeFrom 128 = .ok (.getfield 21, 3) := by decide +kernel
theorem dX1_makeFrom_131 : decode cX1_makeFrom 131 = .ok (.getfield 53, 3) := by decide +kernel
theorem dX1_makeFrom_134 : decode cX1_makeFrom 134 = .ok (.aload_n 0, 1) := by decide +kernel
theorem dX1_makeFrom_135 : decode cX1_makeFrom 135 = .ok (.getfield 32, 3) := by decide +kernel
theorem dX1_makeFrom_138 : decode cX1_makeFrom 138 = .ok (.aload_n 1, 1) := by decide +kernel
theorem dX1_makeFrom_139 : decode cX1_makeFrom 139 = .ok (.iload_n 2, 1) := by decide +kernel
theorem dX1_makeFrom_140 : decode cX1_makeFrom 140 = .ok (.iconst 3, 1) := by decide +kernel
theorem dX1_makeFrom_141 : decode cX1_makeFrom 141 = .ok (.iadd, 1) := by decide +kernel
theorem dX1_makeFrom_142 : decode cX1_makeFrom 142 = .ok (.invokevirtual 49, 3) := by decide +kernel
theorem dX1_makeFrom_145 : decode cX1_makeFrom 145 = .ok (.iastore, 1) := by decide +kernel
theorem dX1_makeFrom_146 : decode cX1_makeFrom 146 = .ok (.aload_n 0, 1) := by decide +kernel
theorem dX1_makeFrom_147 : decode cX1_makeFrom 147 = .ok (.getfield 21, 3) := by decide +kernel
theorem dX1_makeFrom_150 : decode cX1_makeFrom 150 = .ok (.getfield 56, 3) := by decide +kernel
theorem dX1_makeFrom_153 : decode cX1_makeFrom 153 = .ok (.aload_n 0, 1) := by decide +kernel
theorem dX1_makeFrom_154 : decode cX1_makeFrom 154 = .ok (.getfield 32, 3) := by decide +kernel
theorem dX1_makeFrom_157 : decode cX1_makeFrom 157 = .ok (.aload_n 0, 1) := by decide +kernel
theorem dX1_makeFrom_158 : decode cX1_makeFrom 158 = .ok (.getfield 32, 3) := by decide +kernel
theorem dX1_makeFrom_161 : decode cX1_makeFrom 161 = .ok (.iastore, 1) := by decide +kernel
theorem dX1_makeFrom_162 : decode cX1_makeFrom 162 = .ok (.aload_n 0, 1) := by decide +kernel
theorem dX1_makeFrom_163 : decode cX1_makeFrom 163 = .ok (.dup, 1) := by decide +kernel
theorem dX1_makeFrom_164 : decode cX1_makeFrom 164 = .ok (.getfield 32, 3) := by decide +kernel
theorem dX1_makeFrom_167 : decode cX1_makeFrom 167 = .ok (.iconst 1, 1) := by decide +kernel
theorem dX1_makeFrom_168 : decode cX1_makeFrom 168 = .ok (.iadd, 1) := by decide +kernel
theorem dX1_makeFrom_169 : decode cX1_makeFrom 169 = .ok (.putfield 32, 3) := by decide +kernel
theorem dX1_makeFrom_172 : decode cX1_makeFrom 172 = .ok (.iinc 2 1, 3) := by decide +kernel
theorem dX1_makeFrom_175 : decode cX1_makeFrom 175 = .ok (.goto (-156), 3) := by decide +kernel
theorem dX1_makeFrom_178 : decode cX1_makeFrom 178 = .ok (.aload_n 0, 1) := by decide +kernel
theorem dX1_makeFrom_179 : decode cX1_makeFrom 179 = .ok (.getfield 21, 3) := by decide +kernel
theorem dX1_makeFrom_182 : decode cX1_makeFrom 182 = .ok (.aload_n 0, 1) := by decide +kernel
theorem dX1_makeFrom_183 : decode cX1_makeFrom 183 = .ok (.getfield 32, 3) := by decide +kernel
theorem dX1_makeFrom_186 : decode cX1_makeFrom 186 = .ok (.putfield 59, 3) := by decide +kernel
theorem dX1_makeFrom_189 : decode cX1_makeFrom 189 = .ok (.return_, 1) := by decide +kernel
theorem dX1_hasBarge_0 : decode cX1_hasBarge 0 = .ok (.iload_n 1, 1) := by decide +kernel
theorem dX1_hasBarge_1 : decode cX1_hasBarge 1 = .ok (.ifCond .lt 15, 3) := by decide +kernel
theorem dX1_hasBarge_4 : decode cX1_hasBarge 4 = .ok (.iload_n 1, 1) := by decide +kernel
theorem dX1_hasBarge_5 : decode cX1_hasBarge 5 = .ok (.aload_n 0, 1) := by decide +kernel
theorem dX1_hasBarge_6 : decode cX1_hasBarge 6 = .ok (.getfield 32, 3) := by decide +kernel
theorem dX1_hasBarge_9 : decode cX1_hasBarge 9 = .ok (.if_icmp .ge 7, 3) := by decide +kernel
theorem dX1_hasBarge_12 : decode cX1_hasBarge 12 = .ok (.iconst 1, 1) := by decide +kernel
theorem dX1_hasBarge_13 : decode cX1_hasBarge 13 = .ok (.goto 4, 3) := by decide +kernel
theorem dX1_hasBarge_16 : decode cX1_hasBarge 16 = .ok (.iconst 0, 1) := by decide +kernel
theorem dX1_hasBarge_17 : decode cX1_hasBarge 17 = .ok (.ireturn, 1) := by decide +kernel
theorem dX1_hasLock_0 : decode cX1_hasLock 0 = .ok (.iload_n 1, 1) := by decide +kernel
theorem dX1_hasLock_1 : decode cX1_hasLock 1 = .ok (.ifCond .lt 15, 3) := by decide +kernel
theorem dX1_hasLock_4 : decode cX1_hasLock 4 = .ok (.iload_n 1, 1) := by decide +kernel
theorem dX1_hasLock_5 : decode cX1_hasLock 5 = .ok (.aload_n 0, 1) := by decide +kernel
theorem dX1_hasLock_6 : decode cX1_hasLock 6 = .ok (.getfield 28, 3) := by decide +kernel
theorem dX1_hasLock_9 : decode cX1_hasLock 9 = .ok (.if_icmp .ge 7, 3) := by decide +kernel
theorem dX1_hasLock_12 : decode cX1_hasLock 12 = .ok (.iconst 1, 1) := by decide +kernel
theorem dX1_hasLock_13 : decode cX1_hasLock 13 = .ok (.goto 4, 3) := by decide +kernel
theorem dX1_hasLock_16 : decode cX1_hasLock 16 = .ok (.iconst 0, 1) := by decide +kernel
theorem dX1_hasLock_17 : decode cX1_hasLock 17 = .ok (.ireturn, 1) := by decide +kernel
theorem dX1_isPassed_0 : decode cX1_isPassed 0 = .ok (.iload_n 1, 1) := by decide +kernel
theorem dX1_isPassed_1 : decode cX1_isPassed 1 = .ok (.aload_n 0, 1) := by decide +kernel
theorem dX1_isPassed_2 : decode cX1_isPassed 2 = .ok (.getfield 21, 3) := by decide +kernel
theorem dX1_isPassed_5 : decode cX1_isPassed 5 = .ok (.getfield 62, 3) := by decide +kernel
theorem dX1_isPassed_8 : decode cX1_isPassed 8 = .ok (.if_icmp .ge 7, 3) := by decide +kernel
theorem dX1_isPassed_11 : decode cX1_isPassed 11 = .ok (.iconst 1, 1) := by decide +kernel
theorem dX1_isPassed_12 : decode cX1_isPassed 12 = .ok (.goto 4, 3) := by decide +kernel
theorem dX1_isPassed_15 : decode cX1_isPassed 15 = .ok (.iconst 0, 1) := by decide +kernel
theorem dX1_isPassed_16 : decode cX1_isPassed 16 = .ok (.ireturn, 1) := by decide +kernel
theorem dX1_locksLeft_0 : decode cX1_locksLeft 0 = .ok (.aload_n 0, 1) := by decide +kernel
theorem dX1_locksLeft_1 : decode cX1_locksLeft 1 = .ok (.getfield 28, 3) := by decide +kernel
theorem dX1_locksLeft_4 : decode cX1_locksLeft 4 = .ok (.aload_n 0, 1) := by decide +kernel
theorem dX1_locksLeft_5 : decode cX1_locksLeft 5 = .ok (.getfield 21, 3) := by decide +kernel
theorem dX1_locksLeft_8 : decode cX1_locksLeft 8 = .ok (.getfield 62, 3) := by decide +kernel
theorem dX1_locksLeft_11 : decode cX1_locksLeft 11 = .ok (.isub, 1) := by decide +kernel
theorem dX1_locksLeft_12 : decode cX1_locksLeft 12 = .ok (.ireturn, 1) := by decide +kernel
theorem dX1_newTrial_0 : decode cX1_newTrial 0 = .ok (.aload_n 0, 1) := by decide +kernel
theorem dX1_newTrial_1 : decode cX1_newTrial 1 = .ok (.getfield 25, 3) := by decide +kernel
theorem dX1_newTrial_4 : decode cX1_newTrial 4 = .ok (.aload_n 0, 1) := by decide +kernel
theorem dX1_newTrial_5 : decode cX1_newTrial 5 = .ok (.getfield 21, 3) := by decide +kernel
theorem dX1_newTrial_8 : decode cX1_newTrial 8 = .ok (.invokevirtual 65, 3) := by decide +kernel
theorem dX1_newTrial_11 : decode cX1_newTrial 11 = .ok (.aload_n 0, 1) := by decide +kernel
theorem dX1_newTrial_12 : decode cX1_newTrial 12 = .ok (.getfield 25, 3) := by decide +kernel
theorem dX1_newTrial_15 : decode cX1_newTrial 15 = .ok (.areturn, 1) := by decide +kernel
theorem dX1_atBasin_0 : decode cX1_atBasin 0 = .ok (.aload_n 0, 1) := by decide +kernel
theorem dX1_atBasin_1 : decode cX1_atBasin 1 = .ok (.invokevirtual 69, 3) := by decide +kernel
theorem dX1_atBasin_4 : decode cX1_atBasin 4 = .ok (.astore_n 1, 1) := by decide +kernel
theorem dX1_atBasin_5 : decode cX1_atBasin 5 = .ok (.aload_n 0, 1) := by decide +kernel
theorem dX1_atBasin_6 : decode cX1_atBasin 6 = .ok (.aload_n 1, 1) := by decide +kernel
theorem dX1_atBasin_7 : decode cX1_atBasin 7 = .ok (.aload_n 0, 1) := by decide +kernel
theorem dX1_atBasin_8 : decode cX1_atBasin 8 = .ok (.getfield 28, 3) := by decide +kernel
theorem dX1_atBasin_11 : decode cX1_atBasin 11 = .ok (.invokevirtual 73, 3) := by decide +kernel
theorem dX1_atBasin_14 : decode cX1_atBasin 14 = .ok (.aload_n 1, 1) := by decide +kernel
theorem dX1_atBasin_15 : decode cX1_atBasin 15 = .ok (.areturn, 1) := by decide +kernel
theorem dX1_goOnTo_0 : decode cX1_goOnTo 0 = .ok (.aload_n 1, 1) := by decide +kernel
theorem dX1_goOnTo_1 : decode cX1_goOnTo 1 = .ok (.getfield 62, 3) := by decide +kernel
theorem dX1_goOnTo_4 : decode cX1_goOnTo 4 = .ok (.istore_n 3, 1) := by decide +kernel
theorem dX1_goOnTo_5 : decode cX1_goOnTo 5 = .ok (.iload_n 3, 1) := by decide +kernel
theorem dX1_goOnTo_6 : decode cX1_goOnTo 6 = .ok (.iload_n 2, 1) := by decide +kernel
theorem dX1_goOnTo_7 : decode cX1_goOnTo 7 = .ok (.if_icmp .ge 14, 3) := by decide +kernel
theorem dX1_goOnTo_10 : decode cX1_goOnTo 10 = .ok (.aload_n 0, 1) := by decide +kernel
theorem dX1_goOnTo_11 : decode cX1_goOnTo 11 = .ok (.aload_n 1, 1) := by decide +kernel
theorem dX1_goOnTo_12 : decode cX1_goOnTo 12 = .ok (.invokevirtual 77, 3) := by decide +kernel
theorem dX1_goOnTo_15 : decode cX1_goOnTo 15 = .ok (.iinc 3 1, 3) := by decide +kernel
theorem dX1_goOnTo_18 : decode cX1_goOnTo 18 = .ok (.goto (-13), 3) := by decide +kernel
theorem dX1_goOnTo_21 : decode cX1_goOnTo 21 = .ok (.return_, 1) := by decide +kernel
theorem dX1_goThroughNext_0 : decode cX1_goThroughNext 0 = .ok (.aload_n 1, 1) := by decide +kernel
theorem dX1_goThroughNext_1 : decode cX1_goThroughNext 1 = .ok (.getfield 62, 3) := by decide +kernel
theorem dX1_goThroughNext_4 : decode cX1_goThroughNext 4 = .ok (.istore_n 2, 1) := by decide +kernel
theorem dX1_goThroughNext_5 : decode cX1_goThroughNext 5 = .ok (.aload_n 0, 1) := by decide +kernel
theorem dX1_goThroughNext_6 : decode cX1_goThroughNext 6 = .ok (.iload_n 2, 1) := by decide +kernel
theorem dX1_goThroughNext_7 : decode cX1_goThroughNext 7 = .ok (.invokevirtual 80, 3) := by decide +kernel
theorem dX1_goThroughNext_10 : decode cX1_goThroughNext 10 = .ok (.ifCond .ne 4, 3) := by decide +kernel
theorem dX1_goThroughNext_13 : decode cX1_goThroughNext 13 = .ok (.return_, 1) := by decide +kernel
theorem dX1_goThroughNext_14 : decode cX1_goThroughNext 14 = .ok (.iconst 0, 1) := by decide +kernel
theorem dX1_goThroughNext_15 : decode cX1_goThroughNext 15 = .ok (.istore_n 3, 1) := by decide +kernel
theorem dX1_goThroughNext_16 : decode cX1_goThroughNext 16 = .ok (.iconst 0, 1) := by decide +kernel
theorem dX1_goThroughNext_17 : decode cX1_goThroughNext 17 = .ok (.istore 4, 2) := by decide +kernel
theorem dX1_goThroughNext_19 : decode cX1_goThroughNext 19 = .ok (.iload 4, 2) := by decide +kernel
theorem dX1_goThroughNext_21 : decode cX1_goThroughNext 21 = .ok (.aload_n 1, 1) := by decide +kernel
theorem dX1_goThroughNext_22 : decode cX1_goThroughNext 22 = .ok (.getfield 59, 3) := by decide +kernel
theorem dX1_goThroughNext_25 : decode cX1_goThroughNext 25 = .ok (.if_icmp .ge 115, 3) := by decide +kernel
theorem dX1_goThroughNext_28 : decode cX1_goThroughNext 28 = .ok (.aload_n 0, 1) := by decide +kernel
theorem dX1_goThroughNext_29 : decode cX1_goThroughNext 29 = .ok (.aload_n 1, 1) := by decide +kernel
theorem dX1_goThroughNext_30 : decode cX1_goThroughNext 30 = .ok (.iload 4, 2) := by decide +kernel
theorem dX1_goThroughNext_32 : decode cX1_goThroughNext 32 = .ok (.invokevirtual 84, 3) := by decide +kernel
theorem dX1_goThroughNext_35 : decode cX1_goThroughNext 35 = .ok (.istore 5, 2) := by decide +kernel
theorem dX1_goThroughNext_37 : decode cX1_goThroughNext 37 = .ok (.aload_n 1, 1) := by decide +kernel
theorem dX1_goThroughNext_38 : decode cX1_goThroughNext 38 = .ok (.getfield 56, 3) := by decide +kernel
theorem dX1_goThroughNext_41 : decode cX1_goThroughNext 41 = .ok (.iload 4, 2) := by decide +kernel
theorem dX1_goThroughNext_43 : decode cX1_goThroughNext 43 = .ok (.iaload, 1) := by decide +kernel
theorem dX1_goThroughNext_44 : decode cX1_goThroughNext 44 = .ok (.istore 6, 2) := by decide +kernel
theorem dX1_goThroughNext_46 : decode cX1_goThroughNext 46 = .ok (.iload 5, 2) := by decide +kernel
theorem dX1_goThroughNext_48 : decode cX1_goThroughNext 48 = .ok (.ifCond .eq 15, 3) := by decide +kernel
theorem dX1_goThroughNext_51 : decode cX1_goThroughNext 51 = .ok (.aload_n 1, 1) := by decide +kernel
theorem dX1_goThroughNext_52 : decode cX1_goThroughNext 52 = .ok (.getfield 56, 3) := by decide +kernel
theorem dX1_goThroughNext_55 : decode cX1_goThroughNext 55 = .ok (.iload 4, 2) := by decide +kernel
theorem dX1_goThroughNext_57 : decode cX1_goThroughNext 57 = .ok (.iconst 1, 1) := by decide +kernel
theorem dX1_goThroughNext_58 : decode cX1_goThroughNext 58 = .ok (.iadd, 1) := by decide +kernel
theorem dX1_goThroughNext_59 : decode cX1_goThroughNext 59 = .ok (.iaload, 1) := by decide +kernel
theorem dX1_goThroughNext_60 : decode cX1_goThroughNext 60 = .ok (.goto 5, 3) := by decide +kernel
theorem dX1_goThroughNext_63 : decode cX1_goThroughNext 63 = .ok (.iload 6, 2) := by decide +kernel
theorem dX1_goThroughNext_65 : decode cX1_goThroughNext 65 = .ok (.istore 7, 2) := by decide +kernel
theorem dX1_goThroughNext_67 : decode cX1_goThroughNext 67 = .ok (.iconst 1, 1) := by decide +kernel
theorem dX1_goThroughNext_68 : decode cX1_goThroughNext 68 = .ok (.iload_n 3, 1) := by decide +kernel
theorem dX1_goThroughNext_69 : decode cX1_goThroughNext 69 = .ok (.aload_n 1, 1) := by decide +kernel
theorem dX1_goThroughNext_70 : decode cX1_goThroughNext 70 = .ok (.getfield 88, 3) := by decide +kernel
theorem dX1_goThroughNext_73 : decode cX1_goThroughNext 73 = .ok (.iload 6, 2) := by decide +kernel
theorem dX1_goThroughNext_75 : decode cX1_goThroughNext 75 = .ok (.iaload, 1) := by decide +kernel
theorem dX1_goThroughNext_76 : decode cX1_goThroughNext 76 = .ok (.aload_n 1, 1) := by decide +kernel
theorem dX1_goThroughNext_77 : decode cX1_goThroughNext 77 = .ok (.getfield 88, 3) := by decide +kernel
theorem dX1_goThroughNext_80 : decode cX1_goThroughNext 80 = .ok (.iload 7, 2) := by decide +kernel
theorem dX1_goThroughNext_82 : decode cX1_goThroughNext 82 = .ok (.iaload, 1) := by decide +kernel
theorem dX1_goThroughNext_83 : decode cX1_goThroughNext 83 = .ok (.invokestatic 91, 3) := by decide +kernel
theorem dX1_goThroughNext_86 : decode cX1_goThroughNext 86 = .ok (.invokestatic 91, 3) := by decide +kernel
theorem dX1_goThroughNext_89 : decode cX1_goThroughNext 89 = .ok (.iadd, 1) := by decide +kernel
theorem dX1_goThroughNext_90 : decode cX1_goThroughNext 90 = .ok (.istore_n 3, 1) := by decide +kernel
theorem dX1_goThroughNext_91 : decode cX1_goThroughNext 91 = .ok (.aload_n 1, 1) := by decide +kernel
theorem dX1_goThroughNext_92 : decode cX1_goThroughNext 92 = .ok (.getfield 88, 3) := by decide +kernel
theorem dX1_goThroughNext_95 : decode cX1_goThroughNext 95 = .ok (.iload 6, 2) := by decide +kernel
theorem dX1_goThroughNext_97 : decode cX1_goThroughNext 97 = .ok (.iload_n 3, 1) := by decide +kernel
theorem dX1_goThroughNext_98 : decode cX1_goThroughNext 98 = .ok (.iastore, 1) := by decide +kernel
theorem dX1_goThroughNext_99 : decode cX1_goThroughNext 99 = .ok (.aload_n 1, 1) := by decide +kernel
theorem dX1_goThroughNext_100 : decode cX1_goThroughNext 100 = .ok (.getfield 88, 3) := by decide +kernel
theorem dX1_goThroughNext_103 : decode cX1_goThroughNext 103 = .ok (.iload 7, 2) := by decide +kernel
theorem dX1_goThroughNext_105 : decode cX1_goThroughNext 105 = .ok (.iload_n 3, 1) := by decide +kernel
theorem dX1_goThroughNext_106 : decode cX1_goThroughNext 106 = .ok (.iastore, 1) := by decide +kernel
theorem dX1_goThroughNext_107 : decode cX1_goThroughNext 107 = .ok (.iload 5, 2) := by decide +kernel
theorem dX1_goThroughNext_109 : decode cX1_goThroughNext 109 = .ok (.ifCond .eq 25, 3) := by decide +kernel
theorem dX1_goThroughNext_112 : decode cX1_goThroughNext 112 = .ok (.aload_n 0, 1) := by decide +kernel
theorem dX1_goThroughNext_113 : decode cX1_goThroughNext 113 = .ok (.aload_n 1, 1) := by decide +kernel
theorem dX1_goThroughNext_114 : decode cX1_goThroughNext 114 = .ok (.iload_n 2, 1) := by decide +kernel
theorem dX1_goThroughNext_115 : decode cX1_goThroughNext 115 = .ok (.iload 6, 2) := by decide +kernel
theorem dX1_goThroughNext_117 : decode cX1_goThroughNext 117 = .ok (.iload 7, 2) := by decide +kernel
theorem dX1_goThroughNext_119 : decode cX1_goThroughNext 119 = .ok (.invokevirtual 97, 3) := by decide +kernel
theorem dX1_goThroughNext_122 : decode cX1_goThroughNext 122 = .ok (.ifCond .eq 9, 3) := by decide +kernel
theorem dX1_goThroughNext_125 : decode cX1_goThroughNext 125 = .ok (.aload_n 1, 1) := by decide +kernel
theorem dX1_goThroughNext_126 : decode cX1_goThroughNext 126 = .ok (.iload 4, 2) := by decide +kernel
theorem dX1_goThroughNext_128 : decode cX1_goThroughNext 128 = .ok (.invokevirtual 101, 3) := by decide +kernel
theorem dX1_goThroughNext_131 : decode cX1_goThroughNext 131 = .ok (.iinc 4 1, 3) := by decide +kernel
theorem dX1_goThroughNext_134 : decode cX1_goThroughNext 134 = .ok (.iinc 4 1, 3) := by decide +kernel
theorem dX1_goThroughNext_137 : decode cX1_goThroughNext 137 = .ok (.goto (-118), 3) := by decide +kernel
theorem dX1_goThroughNext_140 : decode cX1_goThroughNext 140 = .ok (.aload_n 1, 1) := by decide +kernel
theorem dX1_goThroughNext_141 : decode cX1_goThroughNext 141 = .ok (.iload_n 2, 1) := by decide +kernel
theorem dX1_goThroughNext_142 : decode cX1_goThroughNext 142 = .ok (.iconst 1, 1) := by decide +kernel
theorem dX1_goThroughNext_143 : decode cX1_goThroughNext 143 = .ok (.iadd, 1) := by decide +kernel
theorem dX1_goThroughNext_144 : decode cX1_goThroughNext 144 = .ok (.putfield 62, 3) := by decide +kernel
theorem dX1_goThroughNext_147 : decode cX1_goThroughNext 147 = .ok (.return_, 1) := by decide +kernel
theorem dX1_holdsTwo_0 : decode cX1_holdsTwo 0 = .ok (.iload_n 2, 1) := by decide +kernel
theorem dX1_holdsTwo_1 : decode cX1_holdsTwo 1 = .ok (.iconst 1, 1) := by decide +kernel
theorem dX1_holdsTwo_2 : decode cX1_holdsTwo 2 = .ok (.iadd, 1) := by decide +kernel
theorem dX1_holdsTwo_3 : decode cX1_holdsTwo 3 = .ok (.aload_n 1, 1) := by decide +kernel
theorem dX1_holdsTwo_4 : decode cX1_holdsTwo 4 = .ok (.getfield 59, 3) := by decide +kernel
theorem dX1_holdsTwo_7 : decode cX1_holdsTwo 7 = .ok (.if_icmp .ge 39, 3) := by decide +kernel
theorem dX1_holdsTwo_10 : decode cX1_holdsTwo 10 = .ok (.aload_n 0, 1) := by decide +kernel
theorem dX1_holdsTwo_11 : decode cX1_holdsTwo 11 = .ok (.getfield 9, 3) := by decide +kernel
theorem dX1_holdsTwo_14 : decode cX1_holdsTwo 14 = .ok (.aload_n 1, 1) := by decide +kernel
theorem dX1_holdsTwo_15 : decode cX1_holdsTwo 15 = .ok (.getfield 56, 3) := by decide +kernel
theorem dX1_holdsTwo_18 : decode cX1_holdsTwo 18 = .ok (.iload_n 2, 1) := by decide +kernel
theorem dX1_holdsTwo_19 : decode cX1_holdsTwo 19 = .ok (.iaload, 1) := by decide +kernel
theorem dX1_holdsTwo_20 : decode cX1_holdsTwo 20 = .ok (.iaload, 1) := by decide +kernel
theorem dX1_holdsTwo_21 : decode cX1_holdsTwo 21 = .ok (.iconst 1, 1) := by decide +kernel
theorem dX1_holdsTwo_22 : decode cX1_holdsTwo 22 = .ok (.if_icmp .ne 24, 3) := by decide +kernel
theorem dX1_holdsTwo_25 : decode cX1_holdsTwo 25 = .ok (.aload_n 0, 1) := by decide +kernel
theorem dX1_holdsTwo_26 : decode cX1_holdsTwo 26 = .ok (.getfield 9, 3) := by decide +kernel
theorem dX1_holdsTwo_29 : decode cX1_holdsTwo 29 = .ok (.aload_n 1, 1) := by decide +kernel
theorem dX1_holdsTwo_30 : decode cX1_holdsTwo 30 = .ok (.getfield 56, 3) := by decide +kernel
theorem dX1_holdsTwo_33 : decode cX1_holdsTwo 33 = .ok (.iload_n 2, 1) := by decide +kernel
theorem dX1_holdsTwo_34 : decode cX1_holdsTwo 34 = .ok (.iconst 1, 1) := by decide +kernel
theorem dX1_holdsTwo_35 : decode cX1_holdsTwo 35 = .ok (.iadd, 1) := by decide +kernel
theorem dX1_holdsTwo_36 : decode cX1_holdsTwo 36 = .ok (.iaload, 1) := by decide +kernel
theorem dX1_holdsTwo_37 : decode cX1_holdsTwo 37 = .ok (.iaload, 1) := by decide +kernel
theorem dX1_holdsTwo_38 : decode cX1_holdsTwo 38 = .ok (.iconst 1, 1) := by decide +kernel
theorem dX1_holdsTwo_39 : decode cX1_holdsTwo 39 = .ok (.if_icmp .ne 7, 3) := by decide +kernel
theorem dX1_holdsTwo_42 : decode cX1_holdsTwo 42 = .ok (.iconst 1, 1) := by decide +kernel
theorem dX1_holdsTwo_43 : decode cX1_holdsTwo 43 = .ok (.goto 4, 3) := by decide +kernel
theorem dX1_holdsTwo_46 : decode cX1_holdsTwo 46 = .ok (.iconst 0, 1) := by decide +kernel
theorem dX1_holdsTwo_47 : decode cX1_holdsTwo 47 = .ok (.ireturn, 1) := by decide +kernel
theorem dX1_isSecondFirst_0 : decode cX1_isSecondFirst 0 = .ok (.aload_n 1, 1) := by decide +kernel
theorem dX1_isSecondFirst_1 : decode cX1_isSecondFirst 1 = .ok (.getfield 46, 3) := by decide +kernel
theorem dX1_isSecondFirst_4 : decode cX1_isSecondFirst 4 = .ok (.iload_n 2, 1) := by decide +kernel
theorem dX1_isSecondFirst_5 : decode cX1_isSecondFirst 5 = .ok (.iaload, 1) := by decide +kernel
theorem dX1_isSecondFirst_6 : decode cX1_isSecondFirst 6 = .ok (.tableswitch 72 1 3 #[26, 28, 50], 26) := by decide +kernel
theorem dX1_isSecondFirst_32 : decode cX1_isSecondFirst 32 = .ok (.iconst 1, 1) := by decide +kernel
theorem dX1_isSecondFirst_33 : decode cX1_isSecondFirst 33 = .ok (.ireturn, 1) := by decide +kernel
theorem dX1_isSecondFirst_34 : decode cX1_isSecondFirst 34 = .ok (.aload_n 0, 1) := by decide +kernel
theorem dX1_isSecondFirst_35 : decode cX1_isSecondFirst 35 = .ok (.getfield 15, 3) := by decide +kernel
theorem dX1_isSecondFirst_38 : decode cX1_isSecondFirst 38 = .ok (.iload 4, 2) := by decide +kernel
theorem dX1_isSecondFirst_40 : decode cX1_isSecondFirst 40 = .ok (.iaload, 1) := by decide +kernel
theorem dX1_isSecondFirst_41 : decode cX1_isSecondFirst 41 = .ok (.aload_n 0, 1) := by decide +kernel
theorem dX1_isSecondFirst_42 : decode cX1_isSecondFirst 42 = .ok (.getfield 15, 3) := by decide +kernel
theorem dX1_isSecondFirst_45 : decode cX1_isSecondFirst 45 = .ok (.iload_n 3, 1) := by decide +kernel
theorem dX1_isSecondFirst_46 : decode cX1_isSecondFirst 46 = .ok (.iaload, 1) := by decide +kernel
theorem dX1_isSecondFirst_47 : decode cX1_isSecondFirst 47 = .ok (.if_icmp .ge 7, 3) := by decide +kernel
theorem dX1_isSecondFirst_50 : decode cX1_isSecondFirst 50 = .ok (.iconst 1, 1) := by decide +kernel
theorem dX1_isSecondFirst_51 : decode cX1_isSecondFirst 51 = .ok (.goto 4, 3) := by decide +kernel
theorem dX1_isSecondFirst_54 : decode cX1_isSecondFirst 54 = .ok (.iconst 0, 1) := by decide +kernel
theorem dX1_isSecondFirst_55 : decode cX1_isSecondFirst 55 = .ok (.ireturn, 1) := by decide +kernel
theorem dX1_isSecondFirst_56 : decode cX1_isSecondFirst 56 = .ok (.aload_n 1, 1) := by decide +kernel
theorem dX1_isSecondFirst_57 : decode cX1_isSecondFirst 57 = .ok (.iload 4, 2) := by decide +kernel
theorem dX1_isSecondFirst_59 : decode cX1_isSecondFirst 59 = .ok (.iload_n 2, 1) := by decide +kernel
theorem dX1_isSecondFirst_60 : decode cX1_isSecondFirst 60 = .ok (.invokevirtual 105, 3) := by decide +kernel
theorem dX1_isSecondFirst_63 : decode cX1_isSecondFirst 63 = .ok (.aload_n 1, 1) := by decide +kernel
theorem dX1_isSecondFirst_64 : decode cX1_isSecondFirst 64 = .ok (.iload_n 3, 1) := by decide +kernel
theorem dX1_isSecondFirst_65 : decode cX1_isSecondFirst 65 = .ok (.iload_n 2, 1) := by decide +kernel
theorem dX1_isSecondFirst_66 : decode cX1_isSecondFirst 66 = .ok (.invokevirtual 105, 3) := by decide +kernel
theorem dX1_isSecondFirst_69 : decode cX1_isSecondFirst 69 = .ok (.if_icmp .le 7, 3) := by decide +kernel
theorem dX1_isSecondFirst_72 : decode cX1_isSecondFirst 72 = .ok (.iconst 1, 1) := by decide +kernel
theorem dX1_isSecondFirst_73 : decode cX1_isSecondFirst 73 = .ok (.goto 4, 3) := by decide +kernel
theorem dX1_isSecondFirst_76 : decode cX1_isSecondFirst 76 = .ok (.iconst 0, 1) := by decide +kernel
theorem dX1_isSecondFirst_77 : decode cX1_isSecondFirst 77 = .ok (.ireturn, 1) := by decide +kernel
theorem dX1_isSecondFirst_78 : decode cX1_isSecondFirst 78 = .ok (.iconst 0, 1) := by decide +kernel
theorem dX1_isSecondFirst_79 : decode cX1_isSecondFirst 79 = .ok (.ireturn, 1) := by decide +kernel
theorem dX1_mateAtNext_0 : decode cX1_mateAtNext 0 = .ok (.iconst 0, 1) := by decide +kernel
theorem dX1_mateAtNext_1 : decode cX1_mateAtNext 1 = .ok (.istore_n 3, 1) := by decide +kernel
theorem dX1_mateAtNext_2 : decode cX1_mateAtNext 2 = .ok (.iload_n 3, 1) := by decide +kernel
theorem dX1_mateAtNext_3 : decode cX1_mateAtNext 3 = .ok (.aload_n 1, 1) := by decide +kernel
theorem dX1_mateAtNext_4 : decode cX1_mateAtNext 4 = .ok (.getfield 59, 3) := by decide +kernel
theorem dX1_mateAtNext_7 : decode cX1_mateAtNext 7 = .ok (.if_icmp .ge 59, 3) := by decide +kernel
theorem dX1_mateAtNext_10 : decode cX1_mateAtNext 10 = .ok (.aload_n 0, 1) := by decide +kernel
theorem dX1_mateAtNext_11 : decode cX1_mateAtNext 11 = .ok (.aload_n 1, 1) := by decide +kernel
theorem dX1_mateAtNext_12 : decode cX1_mateAtNext 12 = .ok (.iload_n 3, 1) := by decide +kernel
theorem dX1_mateAtNext_13 : decode cX1_mateAtNext 13 = .ok (.invokevirtual 84, 3) := by decide +kernel
theorem dX1_mateAtNext_16 : decode cX1_mateAtNext 16 = .ok (.ifCond .eq 44, 3) := by decide +kernel
theorem dX1_mateAtNext_19 : decode cX1_mateAtNext 19 = .ok (.aload_n 1, 1) := by decide +kernel
theorem dX1_mateAtNext_20 : decode cX1_mateAtNext 20 = .ok (.getfield 56, 3) := by decide +kernel
theorem dX1_mateAtNext_23 : decode cX1_mateAtNext 23 = .ok (.iload_n 3, 1) := by decide +kernel
theorem dX1_mateAtNext_24 : decode cX1_mateAtNext 24 = .ok (.iaload, 1) := by decide +kernel
theorem dX1_mateAtNext_25 : decode cX1_mateAtNext 25 = .ok (.iload_n 2, 1) := by decide +kernel
theorem dX1_mateAtNext_26 : decode cX1_mateAtNext 26 = .ok (.if_icmp .ne 12, 3) := by decide +kernel
theorem dX1_mateAtNext_29 : decode cX1_mateAtNext 29 = .ok (.aload_n 1, 1) := by decide +kernel
theorem dX1_mateAtNext_30 : decode cX1_mateAtNext 30 = .ok (.getfield 56, 3) := by decide +kernel
theorem dX1_mateAtNext_33 : decode cX1_mateAtNext 33 = .ok (.iload_n 3, 1) := by decide +kernel
theorem dX1_mateAtNext_34 : decode cX1_mateAtNext 34 = .ok (.iconst 1, 1) := by decide +kernel
theorem dX1_mateAtNext_35 : decode cX1_mateAtNext 35 = .ok (.iadd, 1) := by decide +kernel
theorem dX1_mateAtNext_36 : decode cX1_mateAtNext 36 = .ok (.iaload, 1) := by decide +kernel
theorem dX1_mateAtNext_37 : decode cX1_mateAtNext 37 = .ok (.ireturn, 1) := by decide +kernel
theorem dX1_mateAtNext_38 : decode cX1_mateAtNext 38 = .ok (.aload_n 1, 1) := by decide +kernel
theorem dX1_mateAtNext_39 : decode cX1_mateAtNext 39 = .ok (.getfield 56, 3) := by decide +kernel
theorem dX1_mateAtNext_42 : decode cX1_mateAtNext 42 = .ok (.iload_n 3, 1) := by decide +kernel
theorem dX1_mateAtNext_43 : decode cX1_mateAtNext 43 = .ok (.iconst 1, 1) := by decide +kernel
theorem dX1_mateAtNext_44 : decode cX1_mateAtNext 44 = .ok (.iadd, 1) := by decide +kernel
theorem dX1_mateAtNext_45 : decode cX1_mateAtNext 45 = .ok (.iaload, 1) := by decide +kernel
theorem dX1_mateAtNext_46 : decode cX1_mateAtNext 46 = .ok (.iload_n 2, 1) := by decide +kernel
theorem dX1_mateAtNext_47 : decode cX1_mateAtNext 47 = .ok (.if_icmp .ne 10, 3) := by decide +kernel
theorem dX1_mateAtNext_50 : decode cX1_mateAtNext 50 = .ok (.aload_n 1, 1) := by decide +kernel
theorem dX1_mateAtNext_51 : decode cX1_mateAtNext 51 = .ok (.getfield 56, 3) := by decide +kernel
theorem dX1_mateAtNext_54 : decode cX1_mateAtNext 54 = .ok (.iload_n 3, 1) := by decide +kernel
theorem dX1_mateAtNext_55 : decode cX1_mateAtNext 55 = .ok (.iaload, 1) := by decide +kernel
theorem dX1_mateAtNext_56 : decode cX1_mateAtNext 56 = .ok (.ireturn, 1) := by decide +kernel
theorem dX1_mateAtNext_57 : decode cX1_mateAtNext 57 = .ok (.iinc 3 1, 3) := by decide +kernel
theorem dX1_mateAtNext_60 : decode cX1_mateAtNext 60 = .ok (.iinc 3 1, 3) := by decide +kernel
theorem dX1_mateAtNext_63 : decode cX1_mateAtNext 63 = .ok (.goto (-61), 3) := by decide +kernel
theorem dX1_mateAtNext_66 : decode cX1_mateAtNext 66 = .ok (.bipush (-9), 2) := by decide +kernel
theorem dX1_mateAtNext_68 : decode cX1_mateAtNext 68 = .ok (.ireturn, 1) := by decide +kernel
theorem dX2_init_0 : decode cX2_init 0 = .ok (.aload_n 0, 1) := by decide +kernel
theorem dX2_init_1 : decode cX2_init 1 = .ok (.invokespecial 3, 3) := by decide +kernel
theorem dX2_init_4 : decode cX2_init 4 = .ok (.aload_n 0, 1) := by decide +kernel
theorem dX2_init_5 : decode cX2_init 5 = .ok (.bipush 16, 2) := by decide +kernel
theorem dX2_init_7 : decode cX2_init 7 = .ok (.newarray .int, 2) := by decide +kernel
theorem dX2_init_9 : decode cX2_init 9 = .ok (.putfield 11, 3) := by decide +kernel
theorem dX2_init_12 : decode cX2_init 12 = .ok (.aload_n 0, 1) := by decide +kernel
theorem dX2_init_13 : decode cX2_init 13 = .ok (.bipush 16, 2) := by decide +kernel
theorem dX2_init_15 : decode cX2_init 15 = .ok (.newarray .int, 2) := by decide +kernel
theorem dX2_init_17 : decode cX2_init 17 = .ok (.putfield 15, 3) := by decide +kernel
theorem dX2_init_20 : decode cX2_init 20 = .ok (.return_, 1) := by decide +kernel
theorem dX2_findGivers_0 : decode cX2_findGivers 0 = .ok (.iconst 1, 1) := by decide +kernel
theorem dX2_findGivers_1 : decode cX2_findGivers 1 = .ok (.aload_n 1, 1) := by decide +kernel
theorem dX2_findGivers_2 : decode cX2_findGivers 2 = .ok (.getfield 18, 3) := by decide +kernel
theorem dX2_findGivers_5 : decode cX2_findGivers 5 = .ok (.ishl, 1) := by decide +kernel
theorem dX2_findGivers_6 : decode cX2_findGivers 6 = .ok (.iconst 1, 1) := by decide +kernel
theorem dX2_findGivers_7 : decode cX2_findGivers 7 = .ok (.isub, 1) := by decide +kernel
theorem dX2_findGivers_8 : decode cX2_findGivers 8 = .ok (.istore 4, 2) := by decide +kernel
theorem dX2_findGivers_10 : decode cX2_findGivers 10 = .ok (.iconst 0, 1) := by decide +kernel
theorem dX2_findGivers_11 : decode cX2_findGivers 11 = .ok (.istore 5, 2) := by decide +kernel
theorem dX2_findGivers_13 : decode cX2_findGivers 13 = .ok (.aload_n 0, 1) := by decide +kernel
theorem dX2_findGivers_14 : decode cX2_findGivers 14 = .ok (.iconst 0, 1) := by decide +kernel
theorem dX2_findGivers_15 : decode cX2_findGivers 15 = .ok (.putfield 24, 3) := by decide +kernel
theorem dX2_findGivers_18 : decode cX2_findGivers 18 = .ok (.aload_n 0, 1) := by decide +kernel
theorem dX2_findGivers_19 : decode cX2_findGivers 19 = .ok (.iload 4, 2) := by decide +kernel
theorem dX2_findGivers_21 : decode cX2_findGivers 21 = .ok (.putfield 27, 3) := by decide +kernel
theorem dX2_findGivers_24 : decode cX2_findGivers 24 = .ok (.iconst 0, 1) := by decide +kernel
theorem dX2_findGivers_25 : decode cX2_findGivers 25 = .ok (.istore 6, 2) := by decide +kernel
theorem dX2_findGivers_27 : decode cX2_findGivers 27 = .ok (.iload 6, 2) := by decide +kernel
theorem dX2_findGivers_29 : decode cX2_findGivers 29 = .ok (.iload 4, 2) := by decide +kernel
theorem dX2_findGivers_31 : decode cX2_findGivers 31 = .ok (.if_icmp .gt 49, 3) := by decide +kernel
theorem dX2_findGivers_34 : decode cX2_findGivers 34 = .ok (.aload_n 0, 1) := by decide +kernel
theorem dX2_findGivers_35 : decode cX2_findGivers 35 = .ok (.aload_n 1, 1) := by decide +kernel
theorem dX2_findGivers_36 : decode cX2_findGivers 36 = .ok (.iload_n 2, 1) := by decide +kernel
theorem dX2_findGivers_37 : decode cX2_findGivers 37 = .ok (.iload 6, 2) := by decide +kernel
theorem dX2_findGivers_39 : decode cX2_findGivers 39 = .ok (.iload_n 3, 1) := by decide +kernel
theorem dX2_findGivers_40 : decode cX2_findGivers 40 = .ok (.invokevirtual 30, 3) := by decide +kernel
theorem dX2_findGivers_43 : decode cX2_findGivers 43 = .ok (.ifCond .eq 31, 3) := by decide +kernel
theorem dX2_findGivers_46 : decode cX2_findGivers 46 = .ok (.aload_n 0, 1) := by decide +kernel
theorem dX2_findGivers_47 : decode cX2_findGivers 47 = .ok (.dup, 1) := by decide +kernel
theorem dX2_findGivers_48 : decode cX2_findGivers 48 = .ok (.getfield 24, 3) := by decide +kernel
theorem dX2_findGivers_51 : decode cX2_findGivers 51 = .ok (.iconst 1, 1) := by decide +kernel
theorem dX2_findGivers_52 : decode cX2_findGivers 52 = .ok (.iadd, 1) := by decide +kernel
theorem dX2_findGivers_53 : decode cX2_findGivers 53 = .ok (.putfield 24, 3) := by decide +kernel
theorem dX2_findGivers_56 : decode cX2_findGivers 56 = .ok (.aload_n 0, 1) := by decide +kernel
theorem dX2_findGivers_57 : decode cX2_findGivers 57 = .ok (.dup, 1) := by decide +kernel
theorem dX2_findGivers_58 : decode cX2_findGivers 58 = .ok (.getfield 27, 3) := by decide +kernel
theorem dX2_findGivers_61 : decode cX2_findGivers 61 = .ok (.iload 6, 2) := by decide +kernel
theorem dX2_findGivers_63 : decode cX2_findGivers 63 = .ok (.iand, 1) := by decide +kernel
theorem dX2_findGivers_64 : decode cX2_findGivers 64 = .ok (.putfield 27, 3) := by decide +kernel
theorem dX2_findGivers_67 : decode cX2_findGivers 67 = .ok (.iload 5, 2) := by decide +kernel
theorem dX2_findGivers_69 : decode cX2_findGivers 69 = .ok (.iload 6, 2) := by decide +kernel
theorem dX2_findGivers_71 : decode cX2_findGivers 71 = .ok (.ior, 1) := by decide +kernel
theorem dX2_findGivers_72 : decode cX2_findGivers 72 = .ok (.istore 5, 2) := by decide +kernel
theorem dX2_findGivers_74 : decode cX2_findGivers 74 = .ok (.iinc 6 1, 3) := by decide +kernel
theorem dX2_findGivers_77 : decode cX2_findGivers 77 = .ok (.goto (-50), 3) := by decide +kernel
theorem dX2_findGivers_80 : decode cX2_findGivers 80 = .ok (.aload_n 0, 1) := by decide +kernel
theorem dX2_findGivers_81 : decode cX2_findGivers 81 = .ok (.iload 4, 2) := by decide +kernel
theorem dX2_findGivers_83 : decode cX2_findGivers 83 = .ok (.iload 5, 2) := by decide +kernel
theorem dX2_findGivers_85 : decode cX2_findGivers 85 = .ok (.iconst (-1), 1) := by decide +kernel
theorem dX2_findGivers_86 : decode cX2_findGivers 86 = .ok (.ixor, 1) := by decide +kernel
theorem dX2_findGivers_87 : decode cX2_findGivers 87 = .ok (.iand, 1) := by decide +kernel
theorem dX2_findGivers_88 : decode cX2_findGivers 88 = .ok (.putfield 34, 3) := by decide +kernel
theorem dX2_findGivers_91 : decode cX2_findGivers 91 = .ok (.return_, 1) := by decide +kernel
theorem dX2_comesOutSo_0 : decode cX2_comesOutSo 0 = .ok (.aload_n 1, 1) := by decide +kernel
theorem dX2_comesOutSo_1 : decode cX2_comesOutSo 1 = .ok (.invokevirtual 37, 3) := by decide +kernel
theorem dX2_comesOutSo_4 : decode cX2_comesOutSo 4 = .ok (.astore 5, 2) := by decide +kernel
theorem dX2_comesOutSo_6 : decode cX2_comesOutSo 6 = .ok (.aload 5, 2) := by decide +kernel
theorem dX2_comesOutSo_8 : decode cX2_comesOutSo 8 = .ok (.getfield 41, 3) := by decide +kernel
theorem dX2_comesOutSo_11 : decode cX2_comesOutSo 11 = .ok (.iload_n 2, 1) := by decide +kernel
theorem dX2_comesOutSo_12 : decode cX2_comesOutSo 12 = .ok (.iconst 3, 1) := by decide +kernel
theorem dX2_comesOutSo_13 : decode cX2_comesOutSo 13 = .ok (.iastore, 1) := by decide +kernel
theorem dX2_comesOutSo_14 : decode cX2_comesOutSo 14 = .ok (.aload_n 0, 1) := by decide +kernel
theorem dX2_comesOutSo_15 : decode cX2_comesOutSo 15 = .ok (.aload_n 1, 1) := by decide +kernel
theorem dX2_comesOutSo_16 : decode cX2_comesOutSo 16 = .ok (.aload 5, 2) := by decide +kernel
theorem dX2_comesOutSo_18 : decode cX2_comesOutSo 18 = .ok (.iload_n 2, 1) := by decide +kernel
theorem dX2_comesOutSo_19 : decode cX2_comesOutSo 19 = .ok (.iload_n 3, 1) := by decide +kernel
theorem dX2_comesOutSo_20 : decode cX2_comesOutSo 20 = .ok (.invokevirtual 46, 3) := by decide +kernel
theorem dX2_comesOutSo_23 : decode cX2_comesOutSo 23 = .ok (.aload_n 1, 1) := by decide +kernel
theorem dX2_comesOutSo_24 : decode cX2_comesOutSo 24 = .ok (.aload 5, 2) := by decide +kernel
theorem dX2_comesOutSo_26 : decode cX2_comesOutSo 26 = .ok (.iload_n 2, 1) := by decide +kernel
theorem dX2_comesOutSo_27 : decode cX2_comesOutSo 27 = .ok (.iconst 1, 1) := by decide +kernel
theorem dX2_comesOutSo_28 : decode cX2_comesOutSo 28 = .ok (.iadd, 1) := by decide +kernel
theorem dX2_comesOutSo_29 : decode cX2_comesOutSo 29 = .ok (.invokevirtual 50, 3) := by decide +kernel
theorem dX2_comesOutSo_32 : decode cX2_comesOutSo 32 = .ok (.aload 5, 2) := by decide +kernel
theorem dX2_comesOutSo_34 : decode cX2_comesOutSo 34 = .ok (.invokevirtual 54, 3) := by decide +kernel
theorem dX2_comesOutSo_37 : decode cX2_comesOutSo 37 = .ok (.iload 4, 2) := by decide +kernel
theorem dX2_comesOutSo_39 : decode cX2_comesOutSo 39 = .ok (.if_icmp .ne 7, 3) := by decide +kernel
theorem dX2_comesOutSo_42 : decode cX2_comesOutSo 42 = .ok (.iconst 1, 1) := by decide +kernel
theorem dX2_comesOutSo_43 : decode cX2_comesOutSo 43 = .ok (.goto 4, 3) := by decide +kernel
theorem dX2_comesOutSo_46 : decode cX2_comesOutSo 46 = .ok (.iconst 0, 1) := by decide +kernel
theorem dX2_comesOutSo_47 : decode cX2_comesOutSo 47 = .ok (.ireturn, 1) := by decide +kernel
theorem dX2_addGivers_0 : decode cX2_addGivers 0 = .ok (.iconst 0, 1) := by decide +kernel
theorem dX2_addGivers_1 : decode cX2_addGivers 1 = .ok (.istore 5, 2) := by decide +kernel
theorem dX2_addGivers_3 : decode cX2_addGivers 3 = .ok (.iload 5, 2) := by decide +kernel
theorem dX2_addGivers_5 : decode cX2_addGivers 5 = .ok (.aload_n 1, 1) := by decide +kernel
theorem dX2_addGivers_6 : decode cX2_addGivers 6 = .ok (.getfield 18, 3) := by decide +kernel
theorem dX2_addGivers_9 : decode cX2_addGivers 9 = .ok (.if_icmp .ge 23, 3) := by decide +kernel
theorem dX2_addGivers_12 : decode cX2_addGivers 12 = .ok (.aload_n 2, 1) := by decide +kernel
theorem dX2_addGivers_13 : decode cX2_addGivers 13 = .ok (.iload 5, 2) := by decide +kernel
theorem dX2_addGivers_15 : decode cX2_addGivers 15 = .ok (.iload_n 3, 1) := by decide +kernel
theorem dX2_addGivers_16 : decode cX2_addGivers 16 = .ok (.iload 4, 2) := by decide +kernel
theorem dX2_addGivers_18 : decode cX2_addGivers 18 = .ok (.iload 5, 2) := by decide +kernel
theorem dX2_addGivers_20 : decode cX2_addGivers 20 = .ok (.ishr, 1) := by decide +kernel
theorem dX2_addGivers_21 : decode cX2_addGivers 21 = .ok (.iconst 1, 1) := by decide +kernel
theorem dX2_addGivers_22 : decode cX2_addGivers 22 = .ok (.iand, 1) := by decide +kernel
theorem dX2_addGivers_23 : decode cX2_addGivers 23 = .ok (.invokevirtual 58, 3) := by decide +kernel
theorem dX2_addGivers_26 : decode cX2_addGivers 26 = .ok (.iinc 5 1, 3) := by decide +kernel
theorem dX2_addGivers_29 : decode cX2_addGivers 29 = .ok (.goto (-26), 3) := by decide +kernel
theorem dX2_addGivers_32 : decode cX2_addGivers 32 = .ok (.return_, 1) := by decide +kernel
theorem dX2_findRests_0 : decode cX2_findRests 0 = .ok (.aload_n 0, 1) := by decide +kernel
theorem dX2_findRests_1 : decode cX2_findRests 1 = .ok (.aload_n 1, 1) := by decide +kernel
theorem dX2_findRests_2 : decode cX2_findRests 2 = .ok (.iload_n 2, 1) := by decide +kernel
theorem dX2_findRests_3 : decode cX2_findRests 3 = .ok (.iload_n 3, 1) := by decide +kernel
theorem dX2_findRests_4 : decode cX2_findRests 4 = .ok (.iload 4, 2) := by decide +kernel
theorem dX2_findRests_6 : decode cX2_findRests 6 = .ok (.invokevirtual 62, 3) := by decide +kernel
theorem dX2_findRests_9 : decode cX2_findRests 9 = .ok (.aload_n 0, 1) := by decide +kernel
theorem dX2_findRests_10 : decode cX2_findRests 10 = .ok (.iconst 0, 1) := by decide +kernel
theorem dX2_findRests_11 : decode cX2_findRests 11 = .ok (.putfield 24, 3) := by decide +kernel
theorem dX2_findRests_14 : decode cX2_findRests 14 = .ok (.aload_n 0, 1) := by decide +kernel
theorem dX2_findRests_15 : decode cX2_findRests 15 = .ok (.bipush (-9), 2) := by decide +kernel
theorem dX2_findRests_17 : decode cX2_findRests 17 = .ok (.putfield 66, 3) := by decide +kernel
theorem dX2_findRests_20 : decode cX2_findRests 20 = .ok (.iconst 0, 1) := by decide +kernel
theorem dX2_findRests_21 : decode cX2_findRests 21 = .ok (.istore 5, 2) := by decide +kernel
theorem dX2_findRests_23 : decode cX2_findRests 23 = .ok (.iload 5, 2) := by decide +kernel
theorem dX2_findRests_25 : decode cX2_findRests 25 = .ok (.iconst 4, 1) := by decide +kernel
theorem dX2_findRests_26 : decode cX2_findRests 26 = .ok (.if_icmp .ge 71, 3) := by decide +kernel
theorem dX2_findRests_29 : decode cX2_findRests 29 = .ok (.iconst 0, 1) := by decide +kernel
theorem dX2_findRests_30 : decode cX2_findRests 30 = .ok (.istore 6, 2) := by decide +kernel
theorem dX2_findRests_32 : decode cX2_findRests 32 = .ok (.iload 6, 2) := by decide +kernel
theorem dX2_findRests_34 : decode cX2_findRests 34 = .ok (.iconst 4, 1) := by decide +kernel
theorem dX2_findRests_35 : decode cX2_findRests 35 = .ok (.if_icmp .ge 56, 3) := by decide +kernel
theorem dX2_findRests_38 : decode cX2_findRests 38 = .ok (.aload_n 0, 1) := by decide +kernel
theorem dX2_findRests_39 : decode cX2_findRests 39 = .ok (.iload 5, 2) := by decide +kernel
theorem dX2_findRests_41 : decode cX2_findRests 41 = .ok (.iload 6, 2) := by decide +kernel
theorem dX2_findRests_43 : decode cX2_findRests 43 = .ok (.invokevirtual 69, 3) := by decide +kernel
theorem dX2_findRests_46 : decode cX2_findRests 46 = .ok (.ifCond .eq 39, 3) := by decide +kernel
theorem dX2_findRests_49 : decode cX2_findRests 49 = .ok (.aload_n 0, 1) := by decide +kernel
theorem dX2_findRests_50 : decode cX2_findRests 50 = .ok (.aload_n 0, 1) := by decide +kernel
theorem dX2_findRests_51 : decode cX2_findRests 51 = .ok (.getfield 24, 3) := by decide +kernel
theorem dX2_findRests_54 : decode cX2_findRests 54 = .ok (.ifCond .ne 14, 3) := by decide +kernel
theorem dX2_findRests_57 : decode cX2_findRests 57 = .ok (.bipush 10, 2) := by decide +kernel
theorem dX2_findRests_59 : decode cX2_findRests 59 = .ok (.iload 5, 2) := by decide +kernel
theorem dX2_findRests_61 : decode cX2_findRests 61 = .ok (.imul, 1) := by decide +kernel
theorem dX2_findRests_62 : decode cX2_findRests 62 = .ok (.iload 6, 2) := by decide +kernel
theorem dX2_findRests_64 : decode cX2_findRests 64 = .ok (.iadd, 1) := by decide +kernel
theorem dX2_findRests_65 : decode cX2_findRests 65 = .ok (.goto 7, 3) := by decide +kernel
theorem dX2_findRests_68 : decode cX2_findRests 68 = .ok (.aload_n 0, 1) := by decide +kernel
theorem dX2_findRests_69 : decode cX2_findRests 69 = .ok (.getfield 66, 3) := by decide +kernel
theorem dX2_findRests_72 : decode cX2_findRests 72 = .ok (.putfield 66, 3) := by decide +kernel
theorem dX2_findRests_75 : decode cX2_findRests 75 = .ok (.aload_n 0, 1) := by decide +kernel
theorem dX2_findRests_76 : decode cX2_findRests 76 = .ok (.dup, 1) := by decide +kernel
theorem dX2_findRests_77 : decode cX2_findRests 77 = .ok (.getfield 24, 3) := by decide +kernel
theorem dX2_findRests_80 : decode cX2_findRests 80 = .ok (.iconst 1, 1) := by decide +kernel
theorem dX2_findRests_81 : decode cX2_findRests 81 = .ok (.iadd, 1) := by decide +kernel
theorem dX2_findRests_82 : decode cX2_findRests 82 = .ok (.putfield 24, 3) := by decide +kernel
theorem dX2_findRests_85 : decode cX2_findRests 85 = .ok (.iinc 6 1, 3) := by decide +kernel
theorem dX2_findRests_88 : decode cX2_findRests 88 = .ok (.goto (-56), 3) := by decide +kernel
theorem dX2_findRests_91 : decode cX2_findRests 91 = .ok (.iinc 5 1, 3) := by decide +kernel
theorem dX2_findRests_94 : decode cX2_findRests 94 = .ok (.goto (-71), 3) := by decide +kernel
theorem dX2_findRests_97 : decode cX2_findRests 97 = .ok (.return_, 1) := by decide +kernel
theorem dX2_findLosses_0 : decode cX2_findLosses 0 = .ok (.iconst 0, 1) := by decide +kernel
theorem dX2_findLosses_1 : decode cX2_findLosses 1 = .ok (.istore 5, 2) := by decide +kernel
theorem dX2_findLosses_3 : decode cX2_findLosses 3 = .ok (.iload 5, 2) := by decide +kernel
theorem dX2_findLosses_5 : decode cX2_findLosses 5 = .ok (.iconst 4, 1) := by decide +kernel
theorem dX2_findLosses_6 : decode cX2_findLosses 6 = .ok (.if_icmp .ge 106, 3) := by decide +kernel
theorem dX2_findLosses_9 : decode cX2_findLosses 9 = .ok (.iconst 0, 1) := by decide +kernel
theorem dX2_findLosses_10 : decode cX2_findLosses 10 = .ok (.istore 6, 2) := by decide +kernel
theorem dX2_findLosses_12 : decode cX2_findLosses 12 = .ok (.iload 6, 2) := by decide +kernel
theorem dX2_findLosses_14 : decode cX2_findLosses 14 = .ok (.iconst 4, 1) := by decide +kernel
theorem dX2_findLosses_15 : decode cX2_findLosses 15 = .ok (.if_icmp .ge 91, 3) := by decide +kernel
theorem dX2_findLosses_18 : decode cX2_findLosses 18 = .ok (.aload_n 1, 1) := by decide +kernel
theorem dX2_findLosses_19 : decode cX2_findLosses 19 = .ok (.invokevirtual 37, 3) := by decide +kernel
theorem dX2_findLosses_22 : decode cX2_findLosses 22 = .ok (.astore 7, 2) := by decide +kernel
theorem dX2_findLosses_24 : decode cX2_findLosses 24 = .ok (.aload 7, 2) := by decide +kernel
theorem dX2_findLosses_26 : decode cX2_findLosses 26 = .ok (.iload_n 2, 1) := by decide +kernel
theorem dX2_findLosses_27 : decode cX2_findLosses 27 = .ok (.iload 4, 2) := by decide +kernel
theorem dX2_findLosses_29 : decode cX2_findLosses 29 = .ok (.iload 5, 2) := by decide +kernel
theorem dX2_findLosses_31 : decode cX2_findLosses 31 = .ok (.invokevirtual 58, 3) := by decide +kernel
theorem dX2_findLosses_34 : decode cX2_findLosses 34 = .ok (.aload 7, 2) := by decide +kernel
theorem dX2_findLosses_36 : decode cX2_findLosses 36 = .ok (.iload_n 3, 1) := by decide +kernel
theorem dX2_findLosses_37 : decode cX2_findLosses 37 = .ok (.iload 4, 2) := by decide +kernel
theorem dX2_findLosses_39 : decode cX2_findLosses 39 = .ok (.iload 6, 2) := by decide +kernel
theorem dX2_findLosses_41 : decode cX2_findLosses 41 = .ok (.invokevirtual 58, 3) := by decide +kernel
theorem dX2_findLosses_44 : decode cX2_findLosses 44 = .ok (.aload_n 1, 1) := by decide +kernel
theorem dX2_findLosses_45 : decode cX2_findLosses 45 = .ok (.aload 7, 2) := by decide +kernel
theorem dX2_findLosses_47 : decode cX2_findLosses 47 = .ok (.aload_n 1, 1) := by decide +kernel
theorem dX2_findLosses_48 : decode cX2_findLosses 48 = .ok (.getfield 73, 3) := by decide +kernel
theorem dX2_findLosses_51 : decode cX2_findLosses 51 = .ok (.invokevirtual 50, 3) := by decide +kernel
theorem dX2_findLosses_54 : decode cX2_findLosses 54 = .ok (.aload_n 0, 1) := by decide +kernel
theorem dX2_findLosses_55 : decode cX2_findLosses 55 = .ok (.getfield 11, 3) := by decide +kernel
theorem dX2_findLosses_58 : decode cX2_findLosses 58 = .ok (.iconst 4, 1) := by decide +kernel
theorem dX2_findLosses_59 : decode cX2_findLosses 59 = .ok (.iload 5, 2) := by decide +kernel
theorem dX2_findLosses_61 : decode cX2_findLosses 61 = .ok (.imul, 1) := by decide +kernel
theorem dX2_findLosses_62 : decode cX2_findLosses 62 = .ok (.iload 6, 2) := by decide +kernel
theorem dX2_findLosses_64 : decode cX2_findLosses 64 = .ok (.iadd, 1) := by decide +kernel
theorem dX2_findLosses_65 : decode cX2_findLosses 65 = .ok (.iconst 4, 1) := by decide +kernel
theorem dX2_findLosses_66 : decode cX2_findLosses 66 = .ok (.aload 7, 2) := by decide +kernel
theorem dX2_findLosses_68 : decode cX2_findLosses 68 = .ok (.iload_n 2, 1) := by decide +kernel
theorem dX2_findLosses_69 : decode cX2_findLosses 69 = .ok (.invokevirtual 76, 3) := by decide +kernel
theorem dX2_findLosses_72 : decode cX2_findLosses 72 = .ok (.imul, 1) := by decide +kernel
theorem dX2_findLosses_73 : decode cX2_findLosses 73 = .ok (.iload 5, 2) := by decide +kernel
theorem dX2_findLosses_75 : decode cX2_findLosses 75 = .ok (.iadd, 1) := by decide +kernel
theorem dX2_findLosses_76 : decode cX2_findLosses 76 = .ok (.iastore, 1) := by decide +kernel
theorem dX2_findLosses_77 : decode cX2_findLosses 77 = .ok (.aload_n 0, 1) := by decide +kernel
theorem dX2_findLosses_78 : decode cX2_findLosses 78 = .ok (.getfield 15, 3) := by decide +kernel
theorem dX2_findLosses_81 : decode cX2_findLosses 81 = .ok (.iconst 4, 1) := by decide +kernel
theorem dX2_findLosses_82 : decode cX2_findLosses 82 = .ok (.iload 5, 2) := by decide +kernel
theorem dX2_findLosses_84 : decode cX2_findLosses 84 = .ok (.imul, 1) := by decide +kernel
theorem dX2_findLosses_85 : decode cX2_findLosses 85 = .ok (.iload 6, 2) := by decide +kernel
theorem dX2_findLosses_87 : decode cX2_findLosses 87 = .ok (.iadd, 1) := by decide +kernel
theorem dX2_findLosses_88 : decode cX2_findLosses 88 = .ok (.iconst 4, 1) := by decide +kernel
theorem dX2_findLosses_89 : decode cX2_findLosses 89 = .ok (.aload 7, 2) := by decide +kernel
theorem dX2_findLosses_91 : decode cX2_findLosses 91 = .ok (.iload_n 3, 1) := by decide +kernel
theorem dX2_findLosses_92 : decode cX2_findLosses 92 = .ok (.invokevirtual 76, 3) := by decide +kernel
theorem dX2_findLosses_95 : decode cX2_findLosses 95 = .ok (.imul, 1) := by decide +kernel
theorem dX2_findLosses_96 : decode cX2_findLosses 96 = .ok (.iload 6, 2) := by decide +kernel
theorem dX2_findLosses_98 : decode cX2_findLosses 98 = .ok (.iadd, 1) := by decide +kernel
theorem dX2_findLosses_99 : decode cX2_findLosses 99 = .ok (.iastore, 1) := by decide +kernel
theorem dX2_findLosses_100 : decode cX2_findLosses 100 = .ok (.iinc 6 1, 3) := by decide +kernel
theorem dX2_findLosses_103 : decode cX2_findLosses 103 = .ok (.goto (-91), 3) := by decide +kernel
theorem dX2_findLosses_106 : decode cX2_findLosses 106 = .ok (.iinc 5 1, 3) := by decide +kernel
theorem dX2_findLosses_109 : decode cX2_findLosses 109 = .ok (.goto (-106), 3) := by decide +kernel
theorem dX2_findLosses_112 : decode cX2_findLosses 112 = .ok (.return_, 1) := by decide +kernel
theorem dX2_isAtRest_0 : decode cX2_isAtRest 0 = .ok (.iconst 0, 1) := by decide +kernel
theorem dX2_isAtRest_1 : decode cX2_isAtRest 1 = .ok (.istore_n 3, 1) := by decide +kernel
theorem dX2_isAtRest_2 : decode cX2_isAtRest 2 = .ok (.iload_n 3, 1) := by decide +kernel
theorem dX2_isAtRest_3 : decode cX2_isAtRest 3 = .ok (.iconst 4, 1) := by decide +kernel
theorem dX2_isAtRest_4 : decode cX2_isAtRest 4 = .ok (.if_icmp .ge 57, 3) := by decide +kernel
theorem dX2_isAtRest_7 : decode cX2_isAtRest 7 = .ok (.aload_n 0, 1) := by decide +kernel
theorem dX2_isAtRest_8 : decode cX2_isAtRest 8 = .ok (.getfield 11, 3) := by decide +kernel
theorem dX2_isAtRest_11 : decode cX2_isAtRest 11 = .ok (.iconst 4, 1) := by decide +kernel
theorem dX2_isAtRest_12 : decode cX2_isAtRest 12 = .ok (.iload_n 3, 1) := by decide +kernel
theorem dX2_isAtRest_13 : decode cX2_isAtRest 13 = .ok (.imul, 1) := by decide +kernel
theorem dX2_isAtRest_14 : decode cX2_isAtRest 14 = .ok (.iload_n 2, 1) := by decide +kernel
theorem dX2_isAtRest_15 : decode cX2_isAtRest 15 = .ok (.iadd, 1) := by decide +kernel
theorem dX2_isAtRest_16 : decode cX2_isAtRest 16 = .ok (.iaload, 1) := by decide +kernel
theorem dX2_isAtRest_17 : decode cX2_isAtRest 17 = .ok (.aload_n 0, 1) := by decide +kernel
theorem dX2_isAtRest_18 : decode cX2_isAtRest 18 = .ok (.getfield 11, 3) := by decide +kernel
theorem dX2_isAtRest_21 : decode cX2_isAtRest 21 = .ok (.iconst 4, 1) := by decide +kernel
theorem dX2_isAtRest_22 : decode cX2_isAtRest 22 = .ok (.iload_n 1, 1) := by decide +kernel
theorem dX2_isAtRest_23 : decode cX2_isAtRest 23 = .ok (.imul, 1) := by decide +kernel
theorem dX2_isAtRest_24 : decode cX2_isAtRest 24 = .ok (.iload_n 2, 1) := by decide +kernel
theorem dX2_isAtRest_25 : decode cX2_isAtRest 25 = .ok (.iadd, 1) := by decide +kernel
theorem dX2_isAtRest_26 : decode cX2_isAtRest 26 = .ok (.iaload, 1) := by decide +kernel
theorem dX2_isAtRest_27 : decode cX2_isAtRest 27 = .ok (.if_icmp .lt 26, 3) := by decide +kernel
theorem dX2_isAtRest_30 : decode cX2_isAtRest 30 = .ok (.aload_n 0, 1) := by decide +kernel
theorem dX2_isAtRest_31 : decode cX2_isAtRest 31 = .ok (.getfield 15, 3) := by decide +kernel
theorem dX2_isAtRest_34 : decode cX2_isAtRest 34 = .ok (.iconst 4, 1) := by decide +kernel
theorem dX2_isAtRest_35 : decode cX2_isAtRest 35 = .ok (.iload_n 1, 1) := by decide +kernel
theorem dX2_isAtRest_36 : decode cX2_isAtRest 36 = .ok (.imul, 1) := by decide +kernel
theorem dX2_isAtRest_37 : decode cX2_isAtRest 37 = .ok (.iload_n 3, 1) := by decide +kernel
theorem dX2_isAtRest_38 : decode cX2_isAtRest 38 = .ok (.iadd, 1) := by decide +kernel
theorem dX2_isAtRest_39 : decode cX2_isAtRest 39 = .ok (.iaload, 1) := by decide +kernel
theorem dX2_isAtRest_40 : decode cX2_isAtRest 40 = .ok (.aload_n 0, 1) := by decide +kernel
theorem dX2_isAtRest_41 : decode cX2_isAtRest 41 = .ok (.getfield 15, 3) := by decide +kernel
theorem dX2_isAtRest_44 : decode cX2_isAtRest 44 = .ok (.iconst 4, 1) := by decide +kernel
theorem dX2_isAtRest_45 : decode cX2_isAtRest 45 = .ok (.iload_n 1, 1) := by decide +kernel
theorem dX2_isAtRest_46 : decode cX2_isAtRest 46 = .ok (.imul, 1) := by decide +kernel
theorem dX2_isAtRest_47 : decode cX2_isAtRest 47 = .ok (.iload_n 2, 1) := by decide +kernel
theorem dX2_isAtRest_48 : decode cX2_isAtRest 48 = .ok (.iadd, 1) := by decide +kernel
theorem dX2_isAtRest_49 : decode cX2_isAtRest 49 = .ok (.iaload, 1) := by decide +kernel
theorem dX2_isAtRest_50 : decode cX2_isAtRest 50 = .ok (.if_icmp .ge 5, 3) := by decide +kernel
theorem dX2_isAtRest_53 : decode cX2_isAtRest 53 = .ok (.iconst 0, 1) := by decide +kernel
theorem dX2_isAtRest_54 : decode cX2_isAtRest 54 = .ok (.ireturn, 1) := by decide +kernel
theorem dX2_isAtRest_55 : decode cX2_isAtRest 55 = .ok (.iinc 3 1, 3) := by decide +kernel
theorem dX2_isAtRest_58 : decode cX2_isAtRest 58 = .ok (.goto (-56), 3) := by decide +kernel
theorem dX2_isAtRest_61 : decode cX2_isAtRest 61 = .ok (.iconst 1, 1) := by decide +kernel
theorem dX2_isAtRest_62 : decode cX2_isAtRest 62 = .ok (.ireturn, 1) := by decide +kernel
theorem dX2_asleepAbove_0 : decode cX2_asleepAbove 0 = .ok (.aload_n 1, 1) := by decide +kernel
theorem dX2_asleepAbove_1 : decode cX2_asleepAbove 1 = .ok (.invokevirtual 80, 3) := by decide +kernel
theorem dX2_asleepAbove_4 : decode cX2_asleepAbove 4 = .ok (.istore 5, 2) := by decide +kernel
theorem dX2_asleepAbove_6 : decode cX2_asleepAbove 6 = .ok (.iconst 0, 1) := by decide +kernel
theorem dX2_asleepAbove_7 : decode cX2_asleepAbove 7 = .ok (.istore 6, 2) := by decide +kernel
theorem dX2_asleepAbove_9 : decode cX2_asleepAbove 9 = .ok (.iconst 0, 1) := by decide +kernel
theorem dX2_asleepAbove_10 : decode cX2_asleepAbove 10 = .ok (.istore 7, 2) := by decide +kernel
theorem dX2_asleepAbove_12 : decode cX2_asleepAbove 12 = .ok (.iload 7, 2) := by decide +kernel
theorem dX2_asleepAbove_14 : decode cX2_asleepAbove 14 = .ok (.iconst 1, 1) := by decide +kernel
theorem dX2_asleepAbove_15 : decode cX2_asleepAbove 15 = .ok (.iload 5, 2) := by decide +kernel
theorem dX2_asleepAbove_17 : decode cX2_asleepAbove 17 = .ok (.ishl, 1) := by decide +kernel
theorem dX2_asleepAbove_18 : decode cX2_asleepAbove 18 = .ok (.if_icmp .ge 54, 3) := by decide +kernel
theorem dX2_asleepAbove_21 : decode cX2_asleepAbove 21 = .ok (.aload_n 0, 1) := by decide +kernel
theorem dX2_asleepAbove_22 : decode cX2_asleepAbove 22 = .ok (.aload_n 1, 1) := by decide +kernel
theorem dX2_asleepAbove_23 : decode cX2_asleepAbove 23 = .ok (.iload_n 2, 1) := by decide +kernel
theorem dX2_asleepAbove_24 : decode cX2_asleepAbove 24 = .ok (.iload_n 3, 1) := by decide +kernel
theorem dX2_asleepAbove_25 : decode cX2_asleepAbove 25 = .ok (.iload 7, 2) := by decide +kernel
theorem dX2_asleepAbove_27 : decode cX2_asleepAbove 27 = .ok (.invokevirtual 83, 3) := by decide +kernel
theorem dX2_asleepAbove_30 : decode cX2_asleepAbove 30 = .ok (.ifCond .eq 36, 3) := by decide +kernel
theorem dX2_asleepAbove_33 : decode cX2_asleepAbove 33 = .ok (.iload 7, 2) := by decide +kernel
theorem dX2_asleepAbove_35 : decode cX2_asleepAbove 35 = .ok (.invokestatic 86, 3) := by decide +kernel
theorem dX2_asleepAbove_38 : decode cX2_asleepAbove 38 = .ok (.istore 8, 2) := by decide +kernel
theorem dX2_asleepAbove_40 : decode cX2_asleepAbove 40 = .ok (.iload 6, 2) := by decide +kernel
theorem dX2_asleepAbove_42 : decode cX2_asleepAbove 42 = .ok (.iload 4, 2) := by decide +kernel
theorem dX2_asleepAbove_44 : decode cX2_asleepAbove 44 = .ok (.iload 8, 2) := by decide +kernel
theorem dX2_asleepAbove_46 : decode cX2_asleepAbove 46 = .ok (.invokestatic 91, 3) := by decide +kernel
theorem dX2_asleepAbove_49 : decode cX2_asleepAbove 49 = .ok (.bipush 10, 2) := by decide +kernel
theorem dX2_asleepAbove_51 : decode cX2_asleepAbove 51 = .ok (.iload 4, 2) := by decide +kernel
theorem dX2_asleepAbove_53 : decode cX2_asleepAbove 53 = .ok (.isub, 1) := by decide +kernel
theorem dX2_asleepAbove_54 : decode cX2_asleepAbove 54 = .ok (.iload 5, 2) := by decide +kernel
theorem dX2_asleepAbove_56 : decode cX2_asleepAbove 56 = .ok (.iload 8, 2) := by decide +kernel
theorem dX2_asleepAbove_58 : decode cX2_asleepAbove 58 = .ok (.isub, 1) := by decide +kernel
theorem dX2_asleepAbove_59 : decode cX2_asleepAbove 59 = .ok (.invokestatic 91, 3) := by decide +kernel
theorem dX2_asleepAbove_62 : decode cX2_asleepAbove 62 = .ok (.imul, 1) := by decide +kernel
theorem dX2_asleepAbove_63 : decode cX2_asleepAbove 63 = .ok (.iadd, 1) := by decide +kernel
theorem dX2_asleepAbove_64 : decode cX2_asleepAbove 64 = .ok (.istore 6, 2) := by decide +kernel
theorem dX2_asleepAbove_66 : decode cX2_asleepAbove 66 = .ok (.iinc 7 1, 3) := by decide +kernel
theorem dX2_asleepAbove_69 : decode cX2_asleepAbove 69 = .ok (.goto (-57), 3) := by decide +kernel
theorem dX2_asleepAbove_72 : decode cX2_asleepAbove 72 = .ok (.iload 6, 2) := by decide +kernel
theorem dX2_asleepAbove_74 : decode cX2_asleepAbove 74 = .ok (.ireturn, 1) := by decide +kernel
theorem dX2_isAtWith_0 : decode cX2_isAtWith 0 = .ok (.aload_n 1, 1) := by decide +kernel
theorem dX2_isAtWith_1 : decode cX2_isAtWith 1 = .ok (.invokevirtual 37, 3) := by decide +kernel
theorem dX2_isAtWith_4 : decode cX2_isAtWith 4 = .ok (.astore 5, 2) := by decide +kernel
theorem dX2_isAtWith_6 : decode cX2_isAtWith 6 = .ok (.aload 5, 2) := by decide +kernel
theorem dX2_isAtWith_8 : decode cX2_isAtWith 8 = .ok (.getfield 95, 3) := by decide +kernel
theorem dX2_isAtWith_11 : decode cX2_isAtWith 11 = .ok (.istore 6, 2) := by decide +kernel
theorem dX2_isAtWith_13 : decode cX2_isAtWith 13 = .ok (.iload 6, 2) := by decide +kernel
theorem dX2_isAtWith_15 : decode cX2_isAtWith 15 = .ok (.aload_n 1, 1) := by decide +kernel
theorem dX2_isAtWith_16 : decode cX2_isAtWith 16 = .ok (.getfield 73, 3) := by decide +kernel
theorem dX2_isAtWith_19 : decode cX2_isAtWith 19 = .ok (.if_icmp .ge 35, 3) := by decide +kernel
theorem dX2_isAtWith_22 : decode cX2_isAtWith 22 = .ok (.iload 4, 2) := by decide +kernel
theorem dX2_isAtWith_24 : decode cX2_isAtWith 24 = .ok (.iload 6, 2) := by decide +kernel
theorem dX2_isAtWith_26 : decode cX2_isAtWith 26 = .ok (.aload 5, 2) := by decide +kernel
theorem dX2_isAtWith_28 : decode cX2_isAtWith 28 = .ok (.getfield 95, 3) := by decide +kernel
theorem dX2_isAtWith_31 : decode cX2_isAtWith 31 = .ok (.isub, 1) := by decide +kernel
theorem dX2_isAtWith_32 : decode cX2_isAtWith 32 = .ok (.ishr, 1) := by decide +kernel
theorem dX2_isAtWith_33 : decode cX2_isAtWith 33 = .ok (.iconst 1, 1) := by decide +kernel
theorem dX2_isAtWith_34 : decode cX2_isAtWith 34 = .ok (.iand, 1) := by decide +kernel
theorem dX2_isAtWith_35 : decode cX2_isAtWith 35 = .ok (.iconst 1, 1) := by decide +kernel
theorem dX2_isAtWith_36 : decode cX2_isAtWith 36 = .ok (.if_icmp .ne 12, 3) := by decide +kernel
theorem dX2_isAtWith_39 : decode cX2_isAtWith 39 = .ok (.aload 5, 2) := by decide +kernel
theorem dX2_isAtWith_41 : decode cX2_isAtWith 41 = .ok (.getfield 41, 3) := by decide +kernel
theorem dX2_isAtWith_44 : decode cX2_isAtWith 44 = .ok (.iload 6, 2) := by decide +kernel
theorem dX2_isAtWith_46 : decode cX2_isAtWith 46 = .ok (.iconst 0, 1) := by decide +kernel
theorem dX2_isAtWith_47 : decode cX2_isAtWith 47 = .ok (.iastore, 1) := by decide +kernel
theorem dX2_isAtWith_48 : decode cX2_isAtWith 48 = .ok (.iinc 6 1, 3) := by decide +kernel
theorem dX2_isAtWith_51 : decode cX2_isAtWith 51 = .ok (.goto (-38), 3) := by decide +kernel
theorem dX2_isAtWith_54 : decode cX2_isAtWith 54 = .ok (.aload_n 1, 1) := by decide +kernel
theorem dX2_isAtWith_55 : decode cX2_isAtWith 55 = .ok (.aload 5, 2) := by decide +kernel
theorem dX2_isAtWith_57 : decode cX2_isAtWith 57 = .ok (.aload_n 1, 1) := by decide +kernel
theorem dX2_isAtWith_58 : decode cX2_isAtWith 58 = .ok (.getfield 73, 3) := by decide +kernel
theorem dX2_isAtWith_61 : decode cX2_isAtWith 61 = .ok (.invokevirtual 50, 3) := by decide +kernel
theorem dX2_isAtWith_64 : decode cX2_isAtWith 64 = .ok (.aload 5, 2) := by decide +kernel
theorem dX2_isAtWith_66 : decode cX2_isAtWith 66 = .ok (.iload_n 3, 1) := by decide +kernel
theorem dX2_isAtWith_67 : decode cX2_isAtWith 67 = .ok (.iload_n 2, 1) := by decide +kernel
theorem dX2_isAtWith_68 : decode cX2_isAtWith 68 = .ok (.invokevirtual 98, 3) := by decide +kernel
theorem dX2_isAtWith_71 : decode cX2_isAtWith 71 = .ok (.ireturn, 1) := by decide +kernel
theorem dX2_isFirstIfAllGive_0 : decode cX2_isFirstIfAllGive 0 = .ok (.aload_n 1, 1) := by decide +kernel
theorem dX2_isFirstIfAllGive_1 : decode cX2_isFirstIfAllGive 1 = .ok (.invokevirtual 37, 3) := by decide +kernel
theorem dX2_isFirstIfAllGive_4 : decode cX2_isFirstIfAllGive 4 = .ok (.astore 4, 2) := by decide +kernel
theorem dX2_isFirstIfAllGive_6 : decode cX2_isFirstIfAllGive 6 = .ok (.aload 4, 2) := by decide +kernel
theorem dX2_isFirstIfAllGive_8 : decode cX2_isFirstIfAllGive 8 = .ok (.getfield 95, 3) := by decide +kernel
theorem dX2_isFirstIfAllGive_11 : decode cX2_isFirstIfAllGive 11 = .ok (.istore 5, 2) := by decide +kernel
theorem dX2_isFirstIfAllGive_13 : decode cX2_isFirstIfAllGive 13 = .ok (.iload 5, 2) := by decide +kernel
theorem dX2_isFirstIfAllGive_15 : decode cX2_isFirstIfAllGive 15 = .ok (.aload_n 1, 1) := by decide +kernel
theorem dX2_isFirstIfAllGive_16 : decode cX2_isFirstIfAllGive 16 = .ok (.getfield 73, 3) := by decide +kernel
theorem dX2_isFirstIfAllGive_19 : decode cX2_isFirstIfAllGive 19 = .ok (.if_icmp .ge 19, 3) := by decide +kernel
theorem dX2_isFirstIfAllGive_22 : decode cX2_isFirstIfAllGive 22 = .ok (.aload_n 0, 1) := by decide +kernel
theorem dX2_isFirstIfAllGive_23 : decode cX2_isFirstIfAllGive 23 = .ok (.aload_n 1, 1) := by decide +kernel
theorem dX2_isFirstIfAllGive_24 : decode cX2_isFirstIfAllGive 24 = .ok (.aload 4, 2) := by decide +kernel
theorem dX2_isFirstIfAllGive_26 : decode cX2_isFirstIfAllGive 26 = .ok (.iload 5, 2) := by decide +kernel
theorem dX2_isFirstIfAllGive_28 : decode cX2_isFirstIfAllGive 28 = .ok (.iload_n 3, 1) := by decide +kernel
theorem dX2_isFirstIfAllGive_29 : decode cX2_isFirstIfAllGive 29 = .ok (.invokevirtual 46, 3) := by decide +kernel
theorem dX2_isFirstIfAllGive_32 : decode cX2_isFirstIfAllGive 32 = .ok (.iinc 5 1, 3) := by decide +kernel
theorem dX2_isFirstIfAllGive_35 : decode cX2_isFirstIfAllGive 35 = .ok (.goto (-22), 3) := by decide +kernel
theorem dX2_isFirstIfAllGive_38 : decode cX2_isFirstIfAllGive 38 = .ok (.aload_n 1, 1) := by decide +kernel
theorem dX2_isFirstIfAllGive_39 : decode cX2_isFirstIfAllGive 39 = .ok (.aload 4, 2) := by decide +kernel
theorem dX2_isFirstIfAllGive_41 : decode cX2_isFirstIfAllGive 41 = .ok (.aload_n 1, 1) := by decide +kernel
theorem dX2_isFirstIfAllGive_42 : decode cX2_isFirstIfAllGive 42 = .ok (.getfield 73, 3) := by decide +kernel
theorem dX2_isFirstIfAllGive_45 : decode cX2_isFirstIfAllGive 45 = .ok (.invokevirtual 50, 3) := by decide +kernel
theorem dX2_isFirstIfAllGive_48 : decode cX2_isFirstIfAllGive 48 = .ok (.aload 4, 2) := by decide +kernel
theorem dX2_isFirstIfAllGive_50 : decode cX2_isFirstIfAllGive 50 = .ok (.iconst 0, 1) := by decide +kernel
theorem dX2_isFirstIfAllGive_51 : decode cX2_isFirstIfAllGive 51 = .ok (.iload_n 2, 1) := by decide +kernel
theorem dX2_isFirstIfAllGive_52 : decode cX2_isFirstIfAllGive 52 = .ok (.invokevirtual 98, 3) := by decide +kernel
theorem dX2_isFirstIfAllGive_55 : decode cX2_isFirstIfAllGive 55 = .ok (.ireturn, 1) := by decide +kernel
theorem dX3_init_0 : decode cX3_init 0 = .ok (.aload_n 0, 1) := by decide +kernel
theorem dX3_init_1 : decode cX3_init 1 = .ok (.invokespecial 3, 3) := by decide +kernel
theorem dX3_init_4 : decode cX3_init 4 = .ok (.aload_n 0, 1) := by decide +kernel
theorem dX3_init_5 : decode cX3_init 5 = .ok (.bipush 6, 2) := by decide +kernel
theorem dX3_init_7 : decode cX3_init 7 = .ok (.newarray .int, 2) := by decide +kernel
theorem dX3_init_9 : decode cX3_init 9 = .ok (.putfield 9, 3) := by decide +kernel
theorem dX3_init_12 : decode cX3_init 12 = .ok (.aload_n 0, 1) := by decide +kernel
theorem dX3_init_13 : decode cX3_init 13 = .ok (.bipush 6, 2) := by decide +kernel
theorem dX3_init_15 : decode cX3_init 15 = .ok (.newarray .int, 2) := by decide +kernel
theorem dX3_init_17 : decode cX3_init 17 = .ok (.putfield 15, 3) := by decide +kernel
theorem dX3_init_20 : decode cX3_init 20 = .ok (.return_, 1) := by decide +kernel
theorem dX3_gainsOf_0 : decode cX3_gainsOf 0 = .ok (.aload_n 1, 1) := by decide +kernel
theorem dX3_gainsOf_1 : decode cX3_gainsOf 1 = .ok (.invokevirtual 18, 3) := by decide +kernel
theorem dX3_gainsOf_4 : decode cX3_gainsOf 4 = .ok (.astore_n 3, 1) := by decide +kernel
theorem dX3_gainsOf_5 : decode cX3_gainsOf 5 = .ok (.iconst 0, 1) := by decide +kernel
theorem dX3_gainsOf_6 : decode cX3_gainsOf 6 = .ok (.istore 4, 2) := by decide +kernel
theorem dX3_gainsOf_8 : decode cX3_gainsOf 8 = .ok (.aload_n 3, 1) := by decide +kernel
theorem dX3_gainsOf_9 : decode cX3_gainsOf 9 = .ok (.getfield 24, 3) := by decide +kernel
theorem dX3_gainsOf_12 : decode cX3_gainsOf 12 = .ok (.istore 5, 2) := by decide +kernel
theorem dX3_gainsOf_14 : decode cX3_gainsOf 14 = .ok (.iload 5, 2) := by decide +kernel
theorem dX3_gainsOf_16 : decode cX3_gainsOf 16 = .ok (.aload_n 1, 1) := by decide +kernel
theorem dX3_gainsOf_17 : decode cX3_gainsOf 17 = .ok (.getfield 30, 3) := by decide +kernel
theorem dX3_gainsOf_20 : decode cX3_gainsOf 20 = .ok (.if_icmp .ge 40, 3) := by decide +kernel
theorem dX3_gainsOf_23 : decode cX3_gainsOf 23 = .ok (.aload_n 3, 1) := by decide +kernel
theorem dX3_gainsOf_24 : decode cX3_gainsOf 24 = .ok (.iload_n 2, 1) := by decide +kernel
theorem dX3_gainsOf_25 : decode cX3_gainsOf 25 = .ok (.invokevirtual 33, 3) := by decide +kernel
theorem dX3_gainsOf_28 : decode cX3_gainsOf 28 = .ok (.istore 6, 2) := by decide +kernel
theorem dX3_gainsOf_30 : decode cX3_gainsOf 30 = .ok (.aload_n 1, 1) := by decide +kernel
theorem dX3_gainsOf_31 : decode cX3_gainsOf 31 = .ok (.aload_n 3, 1) := by decide +kernel
theorem dX3_gainsOf_32 : decode cX3_gainsOf 32 = .ok (.invokevirtual 37, 3) := by decide +kernel
theorem dX3_gainsOf_35 : decode cX3_gainsOf 35 = .ok (.aload_n 3, 1) := by decide +kernel
theorem dX3_gainsOf_36 : decode cX3_gainsOf 36 = .ok (.iload_n 2, 1) := by decide +kernel
theorem dX3_gainsOf_37 : decode cX3_gainsOf 37 = .ok (.invokevirtual 33, 3) := by decide +kernel
theorem dX3_gainsOf_40 : decode cX3_gainsOf 40 = .ok (.iload 6, 2) := by decide +kernel
theorem dX3_gainsOf_42 : decode cX3_gainsOf 42 = .ok (.if_icmp .ge 12, 3) := by decide +kernel
theorem dX3_gainsOf_45 : decode cX3_gainsOf 45 = .ok (.iload 4, 2) := by decide +kernel
theorem dX3_gainsOf_47 : decode cX3_gainsOf 47 = .ok (.iconst 1, 1) := by decide +kernel
theorem dX3_gainsOf_48 : decode cX3_gainsOf 48 = .ok (.iload 5, 2) := by decide +kernel
theorem dX3_gainsOf_50 : decode cX3_gainsOf 50 = .ok (.ishl, 1) := by decide +kernel
theorem dX3_gainsOf_51 : decode cX3_gainsOf 51 = .ok (.ior, 1) := by decide +kernel
theorem dX3_gainsOf_52 : decode cX3_gainsOf 52 = .ok (.istore 4, 2) := by decide +kernel
theorem dX3_gainsOf_54 : decode cX3_gainsOf 54 = .ok (.iinc 5 1, 3) := by decide +kernel
theorem dX3_gainsOf_57 : decode cX3_gainsOf 57 = .ok (.goto (-43), 3) := by decide +kernel
theorem dX3_gainsOf_60 : decode cX3_gainsOf 60 = .ok (.iload 4, 2) := by decide +kernel
theorem dX3_gainsOf_62 : decode cX3_gainsOf 62 = .ok (.ireturn, 1) := by decide +kernel
theorem dX3_matesOf_0 : decode cX3_matesOf 0 = .ok (.aload_n 1, 1) := by decide +kernel
theorem dX3_matesOf_1 : decode cX3_matesOf 1 = .ok (.invokevirtual 18, 3) := by decide +kernel
theorem dX3_matesOf_4 : decode cX3_matesOf 4 = .ok (.astore_n 3, 1) := by decide +kernel
theorem dX3_matesOf_5 : decode cX3_matesOf 5 = .ok (.iconst 0, 1) := by decide +kernel
theorem dX3_matesOf_6 : decode cX3_matesOf 6 = .ok (.istore 4, 2) := by decide +kernel
theorem dX3_matesOf_8 : decode cX3_matesOf 8 = .ok (.aload_n 3, 1) := by decide +kernel
theorem dX3_matesOf_9 : decode cX3_matesOf 9 = .ok (.getfield 24, 3) := by decide +kernel
theorem dX3_matesOf_12 : decode cX3_matesOf 12 = .ok (.istore 5, 2) := by decide +kernel
theorem dX3_matesOf_14 : decode cX3_matesOf 14 = .ok (.iload 5, 2) := by decide +kernel
theorem dX3_matesOf_16 : decode cX3_matesOf 16 = .ok (.aload_n 1, 1) := by decide +kernel
theorem dX3_matesOf_17 : decode cX3_matesOf 17 = .ok (.getfield 30, 3) := by decide +kernel
theorem dX3_matesOf_20 : decode cX3_matesOf 20 = .ok (.if_icmp .ge 38, 3) := by decide +kernel
theorem dX3_matesOf_23 : decode cX3_matesOf 23 = .ok (.aload_n 1, 1) := by decide +kernel
theorem dX3_matesOf_24 : decode cX3_matesOf 24 = .ok (.aload_n 3, 1) := by decide +kernel
theorem dX3_matesOf_25 : decode cX3_matesOf 25 = .ok (.iload_n 2, 1) := by decide +kernel
theorem dX3_matesOf_26 : decode cX3_matesOf 26 = .ok (.invokevirtual 41, 3) := by decide +kernel
theorem dX3_matesOf_29 : decode cX3_matesOf 29 = .ok (.istore 6, 2) := by decide +kernel
theorem dX3_matesOf_31 : decode cX3_matesOf 31 = .ok (.iload 6, 2) := by decide +kernel
theorem dX3_matesOf_33 : decode cX3_matesOf 33 = .ok (.bipush (-9), 2) := by decide +kernel
theorem dX3_matesOf_35 : decode cX3_matesOf 35 = .ok (.if_icmp .eq 12, 3) := by decide +kernel
theorem dX3_matesOf_38 : decode cX3_matesOf 38 = .ok (.iload 4, 2) := by decide +kernel
theorem dX3_matesOf_40 : decode cX3_matesOf 40 = .ok (.iconst 1, 1) := by decide +kernel
theorem dX3_matesOf_41 : decode cX3_matesOf 41 = .ok (.iload 6, 2) := by decide +kernel
theorem dX3_matesOf_43 : decode cX3_matesOf 43 = .ok (.ishl, 1) := by decide +kernel
theorem dX3_matesOf_44 : decode cX3_matesOf 44 = .ok (.ior, 1) := by decide +kernel
theorem dX3_matesOf_45 : decode cX3_matesOf 45 = .ok (.istore 4, 2) := by decide +kernel
theorem dX3_matesOf_47 : decode cX3_matesOf 47 = .ok (.aload_n 1, 1) := by decide +kernel
theorem dX3_matesOf_48 : decode cX3_matesOf 48 = .ok (.aload_n 3, 1) := by decide +kernel
theorem dX3_matesOf_49 : decode cX3_matesOf 49 = .ok (.invokevirtual 37, 3) := by decide +kernel
theorem dX3_matesOf_52 : decode cX3_matesOf 52 = .ok (.iinc 5 1, 3) := by decide +kernel
theorem dX3_matesOf_55 : decode cX3_matesOf 55 = .ok (.goto (-41), 3) := by decide +kernel
theorem dX3_matesOf_58 : decode cX3_matesOf 58 = .ok (.iload 4, 2) := by decide +kernel
theorem dX3_matesOf_60 : decode cX3_matesOf 60 = .ok (.ireturn, 1) := by decide +kernel
theorem dX3_firstOrder_0 : decode cX3_firstOrder 0 = .ok (.iconst 0, 1) := by decide +kernel
theorem dX3_firstOrder_1 : decode cX3_firstOrder 1 = .ok (.istore 4, 2) := by decide +kernel
theorem dX3_firstOrder_3 : decode cX3_firstOrder 3 = .ok (.iload 4, 2) := by decide +kernel
theorem dX3_firstOrder_5 : decode cX3_firstOrder 5 = .ok (.aload_n 1, 1) := by decide +kernel
theorem dX3_firstOrder_6 : decode cX3_firstOrder 6 = .ok (.getfield 45, 3) := by decide +kernel
theorem dX3_firstOrder_9 : decode cX3_firstOrder 9 = .ok (.if_icmp .ge 18, 3) := by decide +kernel
theorem dX3_firstOrder_12 : decode cX3_firstOrder 12 = .ok (.aload_n 0, 1) := by decide +kernel
theorem dX3_firstOrder_13 : decode cX3_firstOrder 13 = .ok (.getfield 9, 3) := by decide +kernel
theorem dX3_firstOrder_16 : decode cX3_firstOrder 16 = .ok (.iload 4, 2) := by decide +kernel
theorem dX3_firstOrder_18 : decode cX3_firstOrder 18 = .ok (.iload 4, 2) := by decide +kernel
theorem dX3_firstOrder_20 : decode cX3_firstOrder 20 = .ok (.iastore, 1) := by decide +kernel
theorem dX3_firstOrder_21 : decode cX3_firstOrder 21 = .ok (.iinc 4 1, 3) := by decide +kernel
theorem dX3_firstOrder_24 : decode cX3_firstOrder 24 = .ok (.goto (-21), 3) := by decide +kernel
theorem dX3_firstOrder_27 : decode cX3_firstOrder 27 = .ok (.iconst 0, 1) := by decide +kernel
theorem dX3_firstOrder_28 : decode cX3_firstOrder 28 = .ok (.istore 4, 2) := by decide +kernel
theorem dX3_firstOrder_30 : decode cX3_firstOrder 30 = .ok (.iload 4, 2) := by decide +kernel
theorem dX3_firstOrder_32 : decode cX3_firstOrder 32 = .ok (.getstatic 48, 3) := by decide +kernel
theorem dX3_firstOrder_35 : decode cX3_firstOrder 35 = .ok (.aload_n 1, 1) := by decide +kernel
theorem dX3_firstOrder_36 : decode cX3_firstOrder 36 = .ok (.getfield 45, 3) := by decide +kernel
theorem dX3_firstOrder_39 : decode cX3_firstOrder 39 = .ok (.iaload, 1) := by decide +kernel
theorem dX3_firstOrder_40 : decode cX3_firstOrder 40 = .ok (.if_icmp .ge 63, 3) := by decide +kernel
theorem dX3_firstOrder_43 : decode cX3_firstOrder 43 = .ok (.aload_n 1, 1) := by decide +kernel
theorem dX3_firstOrder_44 : decode cX3_firstOrder 44 = .ok (.invokevirtual 18, 3) := by decide +kernel
theorem dX3_firstOrder_47 : decode cX3_firstOrder 47 = .ok (.astore 5, 2) := by decide +kernel
theorem dX3_firstOrder_49 : decode cX3_firstOrder 49 = .ok (.aload_n 0, 1) := by decide +kernel
theorem dX3_firstOrder_50 : decode cX3_firstOrder 50 = .ok (.getfield 9, 3) := by decide +kernel
theorem dX3_firstOrder_53 : decode cX3_firstOrder 53 = .ok (.iconst 0, 1) := by decide +kernel
theorem dX3_firstOrder_54 : decode cX3_firstOrder 54 = .ok (.aload 5, 2) := by decide +kernel
theorem dX3_firstOrder_56 : decode cX3_firstOrder 56 = .ok (.getfield 51, 3) := by decide +kernel
theorem dX3_firstOrder_59 : decode cX3_firstOrder 59 = .ok (.iconst 0, 1) := by decide +kernel
theorem dX3_firstOrder_60 : decode cX3_firstOrder 60 = .ok (.aload_n 1, 1) := by decide +kernel
theorem dX3_firstOrder_61 : decode cX3_firstOrder 61 = .ok (.getfield 45, 3) := by decide +kernel
theorem dX3_firstOrder_64 : decode cX3_firstOrder 64 = .ok (.invokestatic 54, 3) := by decide +kernel
theorem dX3_firstOrder_67 : decode cX3_firstOrder 67 = .ok (.aload 5, 2) := by decide +kernel
theorem dX3_firstOrder_69 : decode cX3_firstOrder 69 = .ok (.invokevirtual 60, 3) := by decide +kernel
theorem dX3_firstOrder_72 : decode cX3_firstOrder 72 = .ok (.istore 6, 2) := by decide +kernel
theorem dX3_firstOrder_74 : decode cX3_firstOrder 74 = .ok (.aload_n 0, 1) := by decide +kernel
theorem dX3_firstOrder_75 : decode cX3_firstOrder 75 = .ok (.aload_n 1, 1) := by decide +kernel
theorem dX3_firstOrder_76 : decode cX3_firstOrder 76 = .ok (.aload 5, 2) := by decide +kernel
theorem dX3_firstOrder_78 : decode cX3_firstOrder 78 = .ok (.iload_n 2, 1) := by decide +kernel
theorem dX3_firstOrder_79 : decode cX3_firstOrder 79 = .ok (.iload_n 3, 1) := by decide +kernel
theorem dX3_firstOrder_80 : decode cX3_firstOrder 80 = .ok (.invokevirtual 63, 3) := by decide +kernel
theorem dX3_firstOrder_83 : decode cX3_firstOrder 83 = .ok (.ifCond .eq 6, 3) := by decide +kernel
theorem dX3_firstOrder_86 : decode cX3_firstOrder 86 = .ok (.iload 6, 2) := by decide +kernel
theorem dX3_firstOrder_88 : decode cX3_firstOrder 88 = .ok (.ireturn, 1) := by decide +kernel
theorem dX3_firstOrder_89 : decode cX3_firstOrder 89 = .ok (.aload_n 0, 1) := by decide +kernel
theorem dX3_firstOrder_90 : decode cX3_firstOrder 90 = .ok (.aload_n 1, 1) := by decide +kernel
theorem dX3_firstOrder_91 : decode cX3_firstOrder 91 = .ok (.getfield 45, 3) := by decide +kernel
theorem dX3_firstOrder_94 : decode cX3_firstOrder 94 = .ok (.invokevirtual 67, 3) := by decide +kernel
theorem dX3_firstOrder_97 : decode cX3_firstOrder 97 = .ok (.iinc 4 1, 3) := by decide +kernel
theorem dX3_firstOrder_100 : decode cX3_firstOrder 100 = .ok (.goto (-70), 3) := by decide +kernel
theorem dX3_firstOrder_103 : decode cX3_firstOrder 103 = .ok (.bipush (-9), 2) := by decide +kernel
theorem dX3_firstOrder_105 : decode cX3_firstOrder 105 = .ok (.ireturn, 1) := by decide +kernel
theorem dX3_makeNextOrder_0 : decode cX3_makeNextOrder 0 = .ok (.iload_n 1, 1) := by decide +kernel
theorem dX3_makeNextOrder_1 : decode cX3_makeNextOrder 1 = .ok (.iconst 2, 1) := by decide +kernel
theorem dX3_makeNextOrder_2 : decode cX3_makeNextOrder 2 = .ok (.isub, 1) := by decide +kernel
theorem dX3_makeNextOrder_3 : decode cX3_makeNextOrder 3 = .ok (.istore_n 2, 1) := by decide +kernel
theorem dX3_makeNextOrder_4 : decode cX3_makeNextOrder 4 = .ok (.iload_n 2, 1) := by decide +kernel
theorem dX3_makeNextOrder_5 : decode cX3_makeNextOrder 5 = .ok (.ifCond .lt 26, 3) := by decide +kernel
theorem dX3_makeNextOrder_8 : decode cX3_makeNextOrder 8 = .ok (.aload_n 0, 1) := by decide +kernel
theorem dX3_makeNextOrder_9 : decode cX3_makeNextOrder 9 = .ok (.getfield 9, 3) := by decide +kernel
theorem dX3_makeNextOrder_12 : decode cX3_makeNextOrder 12 = .ok (.iload_n 2, 1) := by decide +kernel
theorem dX3_makeNextOrder_13 : decode cX3_makeNextOrder 13 = .ok (.iaload, 1) := by decide +kernel
theorem dX3_makeNextOrder_14 : decode cX3_makeNextOrder 14 = .ok (.aload_n 0, 1) := by decide +kernel
theorem dX3_makeNextOrder_15 : decode cX3_makeNextOrder 15 = .ok (.getfield 9, 3) := by decide +kernel
theorem dX3_makeNextOrder_18 : decode cX3_makeNextOrder 18 = .ok (.iload_n 2, 1) := by decide +kernel
theorem dX3_makeNextOrder_19 : decode cX3_makeNextOrder 19 = .ok (.iconst 1, 1) := by decide +kernel
theorem dX3_makeNextOrder_20 : decode cX3_makeNextOrder 20 = .ok (.iadd, 1) := by decide +kernel
theorem dX3_makeNextOrder_21 : decode cX3_makeNextOrder 21 = .ok (.iaload, 1) := by decide +kernel
theorem dX3_makeNextOrder_22 : decode cX3_makeNextOrder 22 = .ok (.if_icmp .le 9, 3) := by decide +kernel
theorem dX3_makeNextOrder_25 : decode cX3_makeNextOrder 25 = .ok (.iinc 2 (-1), 3) := by decide +kernel
theorem dX3_makeNextOrder_28 : decode cX3_makeNextOrder 28 = .ok (.goto (-24), 3) := by decide +kernel
theorem dX3_makeNextOrder_31 : decode cX3_makeNextOrder 31 = .ok (.iload_n 2, 1) := by decide +kernel
theorem dX3_makeNextOrder_32 : decode cX3_makeNextOrder 32 = .ok (.ifCond .ge 4, 3) := by decide +kernel
theorem dX3_makeNextOrder_35 : decode cX3_makeNextOrder 35 = .ok (.return_, 1) := by decide +kernel
theorem dX3_makeNextOrder_36 : decode cX3_makeNextOrder 36 = .ok (.iload_n 1, 1) := by decide +kernel
theorem dX3_makeNextOrder_37 : decode cX3_makeNextOrder 37 = .ok (.iconst 1, 1) := by decide +kernel
theorem dX3_makeNextOrder_38 : decode cX3_makeNextOrder 38 = .ok (.isub, 1) := by decide +kernel
theorem dX3_makeNextOrder_39 : decode cX3_makeNextOrder 39 = .ok (.istore_n 3, 1) := by decide +kernel
theorem dX3_makeNextOrder_40 : decode cX3_makeNextOrder 40 = .ok (.iload_n 3, 1) := by decide +kernel
theorem dX3_makeNextOrder_41 : decode cX3_makeNextOrder 41 = .ok (.iload_n 2, 1) := by decide +kernel
theorem dX3_makeNextOrder_42 : decode cX3_makeNextOrder 42 = .ok (.if_icmp .le 24, 3) := by decide +kernel
theorem dX3_makeNextOrder_45 : decode cX3_makeNextOrder 45 = .ok (.aload_n 0, 1) := by decide +kernel
theorem dX3_makeNextOrder_46 : decode cX3_makeNextOrder 46 = .ok (.getfield 9, 3) := by decide +kernel
theorem dX3_makeNextOrder_49 : decode cX3_makeNextOrder 49 = .ok (.iload_n 3, 1) := by decide +kernel
theorem dX3_makeNextOrder_50 : decode cX3_makeNextOrder 50 = .ok (.iaload, 1) := by decide +kernel
theorem dX3_makeNextOrder_51 : decode cX3_makeNextOrder 51 = .ok (.aload_n 0, 1) := by decide +kernel
theorem dX3_makeNextOrder_52 : decode cX3_makeNextOrder 52 = .ok (.getfield 9, 3) := by decide +kernel
theorem dX3_makeNextOrder_55 : decode cX3_makeNextOrder 55 = .ok (.iload_n 2, 1) := by decide +kernel
theorem dX3_makeNextOrder_56 : decode cX3_makeNextOrder 56 = .ok (.iaload, 1) := by decide +kernel
theorem dX3_makeNextOrder_57 : decode cX3_makeNextOrder 57 = .ok (.if_icmp .ge 9, 3) := by decide +kernel
theorem dX3_makeNextOrder_60 : decode cX3_makeNextOrder 60 = .ok (.iinc 3 (-1), 3) := by decide +kernel
theorem dX3_makeNextOrder_63 : decode cX3_makeNextOrder 63 = .ok (.goto (-23), 3) := by decide +kernel
theorem dX3_makeNextOrder_66 : decode cX3_makeNextOrder 66 = .ok (.aload_n 0, 1) := by decide +kernel
theorem dX3_makeNextOrder_67 : decode cX3_makeNextOrder 67 = .ok (.iload_n 2, 1) := by decide +kernel
theorem dX3_makeNextOrder_68 : decode cX3_makeNextOrder 68 = .ok (.iload_n 3, 1) := by decide +kernel
theorem dX3_makeNextOrder_69 : decode cX3_makeNextOrder 69 = .ok (.invokevirtual 71, 3) := by decide +kernel
theorem dX3_makeNextOrder_72 : decode cX3_makeNextOrder 72 = .ok (.iload_n 2, 1) := by decide +kernel
theorem dX3_makeNextOrder_73 : decode cX3_makeNextOrder 73 = .ok (.iconst 1, 1) := by decide +kernel
theorem dX3_makeNextOrder_74 : decode cX3_makeNextOrder 74 = .ok (.iadd, 1) := by decide +kernel
theorem dX3_makeNextOrder_75 : decode cX3_makeNextOrder 75 = .ok (.istore 4, 2) := by decide +kernel
theorem dX3_makeNextOrder_77 : decode cX3_makeNextOrder 77 = .ok (.iload_n 1, 1) := by decide +kernel
theorem dX3_makeNextOrder_78 : decode cX3_makeNextOrder 78 = .ok (.iconst 1, 1) := by decide +kernel
theorem dX3_makeNextOrder_79 : decode cX3_makeNextOrder 79 = .ok (.isub, 1) := by decide +kernel
theorem dX3_makeNextOrder_80 : decode cX3_makeNextOrder 80 = .ok (.istore 5, 2) := by decide +kernel
theorem dX3_makeNextOrder_82 : decode cX3_makeNextOrder 82 = .ok (.iload 4, 2) := by decide +kernel
theorem dX3_makeNextOrder_84 : decode cX3_makeNextOrder 84 = .ok (.iload 5, 2) := by decide +kernel
theorem dX3_makeNextOrder_86 : decode cX3_makeNextOrder 86 = .ok (.if_icmp .ge 20, 3) := by decide +kernel
theorem dX3_makeNextOrder_89 : decode cX3_makeNextOrder 89 = .ok (.aload_n 0, 1) := by decide +kernel
theorem dX3_makeNextOrder_90 : decode cX3_makeNextOrder 90 = .ok (.iload 4, 2) := by decide +kernel
theorem dX3_makeNextOrder_92 : decode cX3_makeNextOrder 92 = .ok (.iload 5, 2) := by decide +kernel
theorem dX3_makeNextOrder_94 : decode cX3_makeNextOrder 94 = .ok (.invokevirtual 71, 3) := by decide +kernel
theorem dX3_makeNextOrder_97 : decode cX3_makeNextOrder 97 = .ok (.iinc 4 1, 3) := by decide +kernel
theorem dX3_makeNextOrder_100 : decode cX3_makeNextOrder 100 = .ok (.iinc 5 (-1), 3) := by decide +kernel
theorem dX3_makeNextOrder_103 : decode cX3_makeNextOrder 103 = .ok (.goto (-21), 3) := by decide +kernel
theorem dX3_makeNextOrder_106 : decode cX3_makeNextOrder 106 = .ok (.return_, 1) := by decide +kernel
theorem dX3_exchange_0 : decode cX3_exchange 0 = .ok (.aload_n 0, 1) := by decide +kernel
theorem dX3_exchange_1 : decode cX3_exchange 1 = .ok (.getfield 9, 3) := by decide +kernel
theorem dX3_exchange_4 : decode cX3_exchange 4 = .ok (.iload_n 1, 1) := by decide +kernel
theorem dX3_exchange_5 : decode cX3_exchange 5 = .ok (.iaload, 1) := by decide +kernel
theorem dX3_exchange_6 : decode cX3_exchange 6 = .ok (.istore_n 3, 1) := by decide +kernel
theorem dX3_exchange_7 : decode cX3_exchange 7 = .ok (.aload_n 0, 1) := by decide +kernel
theorem dX3_exchange_8 : decode cX3_exchange 8 = .ok (.getfield 9, 3) := by decide +kernel
theorem dX3_exchange_11 : decode cX3_exchange 11 = .ok (.iload_n 1, 1) := by decide +kernel
theorem dX3_exchange_12 : decode cX3_exchange 12 = .ok (.aload_n 0, 1) := by decide +kernel
theorem dX3_exchange_13 : decode cX3_exchange 13 = .ok (.getfield 9, 3) := by decide +kernel
theorem dX3_exchange_16 : decode cX3_exchange 16 = .ok (.iload_n 2, 1) := by decide +kernel
theorem dX3_exchange_17 : decode cX3_exchange 17 = .ok (.iaload, 1) := by decide +kernel
theorem dX3_exchange_18 : decode cX3_exchange 18 = .ok (.iastore, 1) := by decide +kernel
theorem dX3_exchange_19 : decode cX3_exchange 19 = .ok (.aload_n 0, 1) := by decide +kernel
theorem dX3_exchange_20 : decode cX3_exchange 20 = .ok (.getfield 9, 3) := by decide +kernel
theorem dX3_exchange_23 : decode cX3_exchange 23 = .ok (.iload_n 2, 1) := by decide +kernel
theorem dX3_exchange_24 : decode cX3_exchange 24 = .ok (.iload_n 3, 1) := by decide +kernel
theorem dX3_exchange_25 : decode cX3_exchange 25 = .ok (.iastore, 1) := by decide +kernel
theorem dX3_exchange_26 : decode cX3_exchange 26 = .ok (.return_, 1) := by decide +kernel
theorem dX3_suits_0 : decode cX3_suits 0 = .ok (.aload_n 1, 1) := by decide +kernel
theorem dX3_suits_1 : decode cX3_suits 1 = .ok (.aload_n 2, 1) := by decide +kernel
theorem dX3_suits_2 : decode cX3_suits 2 = .ok (.aload_n 1, 1) := by decide +kernel
theorem dX3_suits_3 : decode cX3_suits 3 = .ok (.getfield 30, 3) := by decide +kernel
theorem dX3_suits_6 : decode cX3_suits 6 = .ok (.invokevirtual 75, 3) := by decide +kernel
theorem dX3_suits_9 : decode cX3_suits 9 = .ok (.aload_n 2, 1) := by decide +kernel
theorem dX3_suits_10 : decode cX3_suits 10 = .ok (.iconst 0, 1) := by decide +kernel
theorem dX3_suits_11 : decode cX3_suits 11 = .ok (.iload_n 3, 1) := by decide +kernel
theorem dX3_suits_12 : decode cX3_suits 12 = .ok (.invokevirtual 79, 3) := by decide +kernel
theorem dX3_suits_15 : decode cX3_suits 15 = .ok (.ifCond .eq 22, 3) := by decide +kernel
theorem dX3_suits_18 : decode cX3_suits 18 = .ok (.aload_n 2, 1) := by decide +kernel
theorem dX3_suits_19 : decode cX3_suits 19 = .ok (.aload_n 1, 1) := by decide +kernel
theorem dX3_suits_20 : decode cX3_suits 20 = .ok (.getfield 45, 3) := by decide +kernel
theorem dX3_suits_23 : decode cX3_suits 23 = .ok (.iconst 1, 1) := by decide +kernel
theorem dX3_suits_24 : decode cX3_suits 24 = .ok (.isub, 1) := by decide +kernel
theorem dX3_suits_25 : decode cX3_suits 25 = .ok (.iload 4, 2) := by decide +kernel
theorem dX3_suits_27 : decode cX3_suits 27 = .ok (.invokevirtual 79, 3) := by decide +kernel
theorem dX3_suits_30 : decode cX3_suits 30 = .ok (.ifCond .ne 7, 3) := by decide +kernel
theorem dX3_suits_33 : decode cX3_suits 33 = .ok (.iconst 1, 1) := by decide +kernel
theorem dX3_suits_34 : decode cX3_suits 34 = .ok (.goto 4, 3) := by decide +kernel
theorem dX3_suits_37 : decode cX3_suits 37 = .ok (.iconst 0, 1) := by decide +kernel
theorem dX3_suits_38 : decode cX3_suits 38 = .ok (.ireturn, 1) := by decide +kernel
theorem dX3_leastLoads_0 : decode cX3_leastLoads 0 = .ok (.aload_n 0, 1) := by decide +kernel
theorem dX3_leastLoads_1 : decode cX3_leastLoads 1 = .ok (.aload_n 1, 1) := by decide +kernel
theorem dX3_leastLoads_2 : decode cX3_leastLoads 2 = .ok (.iload_n 2, 1) := by decide +kernel
theorem dX3_leastLoads_3 : decode cX3_leastLoads 3 = .ok (.iload_n 3, 1) := by decide +kernel
theorem dX3_leastLoads_4 : decode cX3_leastLoads 4 = .ok (.iconst (-1), 1) := by decide +kernel
theorem dX3_leastLoads_5 : decode cX3_leastLoads 5 = .ok (.iconst (-1), 1) := by decide +kernel
theorem dX3_leastLoads_6 : decode cX3_leastLoads 6 = .ok (.invokevirtual 83, 3) := by decide +kernel
theorem dX3_leastLoads_9 : decode cX3_leastLoads 9 = .ok (.ifCond .eq 5, 3) := by decide +kernel
theorem dX3_leastLoads_12 : decode cX3_leastLoads 12 = .ok (.iconst 1, 1) := by decide +kernel
theorem dX3_leastLoads_13 : decode cX3_leastLoads 13 = .ok (.ireturn, 1) := by decide +kernel
theorem dX3_leastLoads_14 : decode cX3_leastLoads 14 = .ok (.iconst 0, 1) := by decide +kernel
theorem dX3_leastLoads_15 : decode cX3_leastLoads 15 = .ok (.istore 4, 2) := by decide +kernel
theorem dX3_leastLoads_17 : decode cX3_leastLoads 17 = .ok (.iload 4, 2) := by decide +kernel
theorem dX3_leastLoads_19 : decode cX3_leastLoads 19 = .ok (.bipush 60, 2) := by decide +kernel
theorem dX3_leastLoads_21 : decode cX3_leastLoads 21 = .ok (.if_icmp .ge 38, 3) := by decide +kernel
theorem dX3_leastLoads_24 : decode cX3_leastLoads 24 = .ok (.aload_n 0, 1) := by decide +kernel
theorem dX3_leastLoads_25 : decode cX3_leastLoads 25 = .ok (.aload_n 1, 1) := by decide +kernel
theorem dX3_leastLoads_26 : decode cX3_leastLoads 26 = .ok (.iload 4, 2) := by decide +kernel
theorem dX3_leastLoads_28 : decode cX3_leastLoads 28 = .ok (.invokevirtual 87, 3) := by decide +kernel
theorem dX3_leastLoads_31 : decode cX3_leastLoads 31 = .ok (.ifCond .eq 22, 3) := by decide +kernel
theorem dX3_leastLoads_34 : decode cX3_leastLoads 34 = .ok (.aload_n 0, 1) := by decide +kernel
theorem dX3_leastLoads_35 : decode cX3_leastLoads 35 = .ok (.aload_n 1, 1) := by decide +kernel
theorem dX3_leastLoads_36 : decode cX3_leastLoads 36 = .ok (.iload_n 2, 1) := by decide +kernel
theorem dX3_leastLoads_37 : decode cX3_leastLoads 37 = .ok (.iload_n 3, 1) := by decide +kernel
theorem dX3_leastLoads_38 : decode cX3_leastLoads 38 = .ok (.iload 4, 2) := by decide +kernel
theorem dX3_leastLoads_40 : decode cX3_leastLoads 40 = .ok (.iconst (-1), 1) := by decide +kernel
theorem dX3_leastLoads_41 : decode cX3_leastLoads 41 = .ok (.invokevirtual 83, 3) := by decide +kernel
theorem dX3_leastLoads_44 : decode cX3_leastLoads 44 = .ok (.ifCond .eq 9, 3) := by decide +kernel
theorem dX3_leastLoads_47 : decode cX3_leastLoads 47 = .ok (.bipush 100, 2) := by decide +kernel
theorem dX3_leastLoads_49 : decode cX3_leastLoads 49 = .ok (.iload 4, 2) := by decide +kernel
theorem dX3_leastLoads_51 : decode cX3_leastLoads 51 = .ok (.iadd, 1) := by decide +kernel
theorem dX3_leastLoads_52 : decode cX3_leastLoads 52 = .ok (.ireturn, 1) := by decide +kernel
theorem dX3_leastLoads_53 : decode cX3_leastLoads 53 = .ok (.iinc 4 1, 3) := by decide +kernel
theorem dX3_leastLoads_56 : decode cX3_leastLoads 56 = .ok (.goto (-39), 3) := by decide +kernel
theorem dX3_leastLoads_59 : decode cX3_leastLoads 59 = .ok (.iconst 0, 1) := by decide +kernel
theorem dX3_leastLoads_60 : decode cX3_leastLoads 60 = .ok (.istore 4, 2) := by decide +kernel
theorem dX3_leastLoads_62 : decode cX3_leastLoads 62 = .ok (.iload 4, 2) := by decide +kernel
theorem dX3_leastLoads_64 : decode cX3_leastLoads 64 = .ok (.bipush 60, 2) := by decide +kernel
theorem dX3_leastLoads_66 : decode cX3_leastLoads 66 = .ok (.if_icmp .ge 75, 3) := by decide +kernel
theorem dX3_leastLoads_69 : decode cX3_leastLoads 69 = .ok (.iload 4, 2) := by decide +kernel
theorem dX3_leastLoads_71 : decode cX3_leastLoads 71 = .ok (.istore 5, 2) := by decide +kernel
theorem dX3_leastLoads_73 : decode cX3_leastLoads 73 = .ok (.aload_n 0, 1) := by decide +kernel
theorem dX3_leastLoads_74 : decode cX3_leastLoads 74 = .ok (.aload_n 1, 1) := by decide +kernel
theorem dX3_leastLoads_75 : decode cX3_leastLoads 75 = .ok (.iload 4, 2) := by decide +kernel
theorem dX3_leastLoads_77 : decode cX3_leastLoads 77 = .ok (.invokevirtual 87, 3) := by decide +kernel
theorem dX3_leastLoads_80 : decode cX3_leastLoads 80 = .ok (.ifCond .eq 55, 3) := by decide +kernel
theorem dX3_leastLoads_83 : decode cX3_leastLoads 83 = .ok (.iload 5, 2) := by decide +kernel
theorem dX3_leastLoads_85 : decode cX3_leastLoads 85 = .ok (.bipush 60, 2) := by decide +kernel
theorem dX3_leastLoads_87 : decode cX3_leastLoads 87 = .ok (.if_icmp .ge 48, 3) := by decide +kernel
theorem dX3_leastLoads_90 : decode cX3_leastLoads 90 = .ok (.aload_n 0, 1) := by decide +kernel
theorem dX3_leastLoads_91 : decode cX3_leastLoads 91 = .ok (.aload_n 1, 1) := by decide +kernel
theorem dX3_leastLoads_92 : decode cX3_leastLoads 92 = .ok (.iload 4, 2) := by decide +kernel
theorem dX3_leastLoads_94 : decode cX3_leastLoads 94 = .ok (.iload 5, 2) := by decide +kernel
theorem dX3_leastLoads_96 : decode cX3_leastLoads 96 = .ok (.invokevirtual 91, 3) := by decide +kernel
theorem dX3_leastLoads_99 : decode cX3_leastLoads 99 = .ok (.ifCond .eq 30, 3) := by decide +kernel
theorem dX3_leastLoads_102 : decode cX3_leastLoads 102 = .ok (.aload_n 0, 1) := by decide +kernel
theorem dX3_leastLoads_103 : decode cX3_leastLoads 103 = .ok (.aload_n 1, 1) := by decide +kernel
theorem dX3_leastLoads_104 : decode cX3_leastLoads 104 = .ok (.iload_n 2, 1) := by decide +kernel
theorem dX3_leastLoads_105 : decode cX3_leastLoads 105 = .ok (.iload_n 3, 1) := by decide +kernel
theorem dX3_leastLoads_106 : decode cX3_leastLoads 106 = .ok (.iload 4, 2) := by decide +kernel
theorem dX3_leastLoads_108 : decode cX3_leastLoads 108 = .ok (.iload 5, 2) := by decide +kernel
theorem dX3_leastLoads_110 : decode cX3_leastLoads 110 = .ok (.invokevirtual 83, 3) := by decide +kernel
theorem dX3_leastLoads_113 : decode cX3_leastLoads 113 = .ok (.ifCond .eq 16, 3) := by decide +kernel
theorem dX3_leastLoads_116 : decode cX3_leastLoads 116 = .ok (.sipush 10000, 3) := by decide +kernel
theorem dX3_leastLoads_119 : decode cX3_leastLoads 119 = .ok (.bipush 100, 2) := by decide +kernel
theorem dX3_leastLoads_121 : decode cX3_leastLoads 121 = .ok (.iload 4, 2) := by decide +kernel
theorem dX3_leastLoads_123 : decode cX3_leastLoads 123 = .ok (.imul, 1) := by decide +kernel
theorem dX3_leastLoads_124 : decode cX3_leastLoads 124 = .ok (.iadd, 1) := by decide +kernel
theorem dX3_leastLoads_125 : decode cX3_leastLoads 125 = .ok (.iload 5, 2) := by decide +kernel
theorem dX3_leastLoads_127 : decode cX3_leastLoads 127 = .ok (.iadd, 1) := by decide +kernel
theorem dX3_leastLoads_128 : decode cX3_leastLoads 128 = .ok (.ireturn, 1) := by decide +kernel
theorem dX3_leastLoads_129 : decode cX3_leastLoads 129 = .ok (.iinc 5 1, 3) := by decide +kernel
theorem dX3_leastLoads_132 : decode cX3_leastLoads 132 = .ok (.goto (-59), 3) := by decide +kernel
theorem dX3_leastLoads_135 : decode cX3_leastLoads 135 = .ok (.iinc 4 1, 3) := by decide +kernel
theorem dX3_leastLoads_138 : decode cX3_leastLoads 138 = .ok (.goto (-76), 3) := by decide +kernel
theorem dX3_leastLoads_141 : decode cX3_leastLoads 141 = .ok (.bipush (-9), 2) := by decide +kernel
theorem dX3_leastLoads_143 : decode cX3_leastLoads 143 = .ok (.ireturn, 1) := by decide +kernel
theorem dX3_howManyLoads_0 : decode cX3_howManyLoads 0 = .ok (.iload_n 1, 1) := by decide +kernel
theorem dX3_howManyLoads_1 : decode cX3_howManyLoads 1 = .ok (.bipush 100, 2) := by decide +kernel
theorem dX3_howManyLoads_3 : decode cX3_howManyLoads 3 = .ok (.if_icmp .ge 7, 3) := by decide +kernel
theorem dX3_howManyLoads_6 : decode cX3_howManyLoads 6 = .ok (.iconst 0, 1) := by decide +kernel
theorem dX3_howManyLoads_7 : decode cX3_howManyLoads 7 = .ok (.goto 15, 3) := by decide +kernel
theorem dX3_howManyLoads_10 : decode cX3_howManyLoads 10 = .ok (.iload_n 1, 1) := by decide +kernel
theorem dX3_howManyLoads_11 : decode cX3_howManyLoads 11 = .ok (.sipush 10000, 3) := by decide +kernel
theorem dX3_howManyLoads_14 : decode cX3_howManyLoads 14 = .ok (.if_icmp .ge 7, 3) := by decide +kernel
theorem dX3_howManyLoads_17 : decode cX3_howManyLoads 17 = .ok (.iconst 1, 1) := by decide +kernel
theorem dX3_howManyLoads_18 : decode cX3_howManyLoads 18 = .ok (.goto 4, 3) := by decide +kernel
theorem dX3_howManyLoads_21 : decode cX3_howManyLoads 21 = .ok (.iconst 2, 1) := by decide +kernel
theorem dX3_howManyLoads_22 : decode cX3_howManyLoads 22 = .ok (.ireturn, 1) := by decide +kernel
theorem dX3_canGive_0 : decode cX3_canGive 0 = .ok (.iload_n 2, 1) := by decide +kernel
theorem dX3_canGive_1 : decode cX3_canGive 1 = .ok (.bipush 10, 2) := by decide +kernel
theorem dX3_canGive_3 : decode cX3_canGive 3 = .ok (.idiv, 1) := by decide +kernel
theorem dX3_canGive_4 : decode cX3_canGive 4 = .ok (.istore_n 3, 1) := by decide +kernel
theorem dX3_canGive_5 : decode cX3_canGive 5 = .ok (.iload_n 2, 1) := by decide +kernel
theorem dX3_canGive_6 : decode cX3_canGive 6 = .ok (.bipush 10, 2) := by decide +kernel
theorem dX3_canGive_8 : decode cX3_canGive 8 = .ok (.irem, 1) := by decide +kernel
theorem dX3_canGive_9 : decode cX3_canGive 9 = .ok (.istore 4, 2) := by decide +kernel
theorem dX3_canGive_11 : decode cX3_canGive 11 = .ok (.aload_n 1, 1) := by decide +kernel
theorem dX3_canGive_12 : decode cX3_canGive 12 = .ok (.iload_n 3, 1) := by decide +kernel
theorem dX3_canGive_13 : decode cX3_canGive 13 = .ok (.invokevirtual 95, 3) := by decide +kernel
theorem dX3_canGive_16 : decode cX3_canGive 16 = .ok (.ifCond .eq 37, 3) := by decide +kernel
theorem dX3_canGive_19 : decode cX3_canGive 19 = .ok (.aload_n 1, 1) := by decide +kernel
theorem dX3_canGive_20 : decode cX3_canGive 20 = .ok (.iload 4, 2) := by decide +kernel
theorem dX3_canGive_22 : decode cX3_canGive 22 = .ok (.invokevirtual 99, 3) := by decide +kernel
theorem dX3_canGive_25 : decode cX3_canGive 25 = .ok (.ifCond .eq 28, 3) := by decide +kernel
theorem dX3_canGive_28 : decode cX3_canGive 28 = .ok (.aload_n 1, 1) := by decide +kernel
theorem dX3_canGive_29 : decode cX3_canGive 29 = .ok (.iload 4, 2) := by decide +kernel
theorem dX3_canGive_31 : decode cX3_canGive 31 = .ok (.invokevirtual 102, 3) := by decide +kernel
theorem dX3_canGive_34 : decode cX3_canGive 34 = .ok (.ifCond .ne 19, 3) := by decide +kernel
theorem dX3_canGive_37 : decode cX3_canGive 37 = .ok (.aload_n 1, 1) := by decide +kernel
theorem dX3_canGive_38 : decode cX3_canGive 38 = .ok (.getfield 105, 3) := by decide +kernel
theorem dX3_canGive_41 : decode cX3_canGive 41 = .ok (.getfield 109, 3) := by decide +kernel
theorem dX3_canGive_44 : decode cX3_canGive 44 = .ok (.iload_n 3, 1) := by decide +kernel
theorem dX3_canGive_45 : decode cX3_canGive 45 = .ok (.iaload, 1) := by decide +kernel
theorem dX3_canGive_46 : decode cX3_canGive 46 = .ok (.ifCond .le 7, 3) := by decide +kernel
theorem dX3_canGive_49 : decode cX3_canGive 49 = .ok (.iconst 1, 1) := by decide +kernel
theorem dX3_canGive_50 : decode cX3_canGive 50 = .ok (.goto 4, 3) := by decide +kernel
theorem dX3_canGive_53 : decode cX3_canGive 53 = .ok (.iconst 0, 1) := by decide +kernel
theorem dX3_canGive_54 : decode cX3_canGive 54 = .ok (.ireturn, 1) := by decide +kernel
theorem dX3_canGiveBoth_0 : decode cX3_canGiveBoth 0 = .ok (.aload_n 0, 1) := by decide +kernel
theorem dX3_canGiveBoth_1 : decode cX3_canGiveBoth 1 = .ok (.aload_n 1, 1) := by decide +kernel
theorem dX3_canGiveBoth_2 : decode cX3_canGiveBoth 2 = .ok (.iload_n 2, 1) := by decide +kernel
theorem dX3_canGiveBoth_3 : decode cX3_canGiveBoth 3 = .ok (.invokevirtual 87, 3) := by decide +kernel
theorem dX3_canGiveBoth_6 : decode cX3_canGiveBoth 6 = .ok (.ifCond .eq 43, 3) := by decide +kernel
theorem dX3_canGiveBoth_9 : decode cX3_canGiveBoth 9 = .ok (.aload_n 0, 1) := by decide +kernel
theorem dX3_canGiveBoth_10 : decode cX3_canGiveBoth 10 = .ok (.aload_n 1, 1) := by decide +kernel
theorem dX3_canGiveBoth_11 : decode cX3_canGiveBoth 11 = .ok (.iload_n 3, 1) := by decide +kernel
theorem dX3_canGiveBoth_12 : decode cX3_canGiveBoth 12 = .ok (.invokevirtual 87, 3) := by decide +kernel
theorem dX3_canGiveBoth_15 : decode cX3_canGiveBoth 15 = .ok (.ifCond .eq 34, 3) := by decide +kernel
theorem dX3_canGiveBoth_18 : decode cX3_canGiveBoth 18 = .ok (.iload_n 2, 1) := by decide +kernel
theorem dX3_canGiveBoth_19 : decode cX3_canGiveBoth 19 = .ok (.bipush 10, 2) := by decide +kernel
theorem dX3_canGiveBoth_21 : decode cX3_canGiveBoth 21 = .ok (.idiv, 1) := by decide +kernel
theorem dX3_canGiveBoth_22 : decode cX3_canGiveBoth 22 = .ok (.iload_n 3, 1) := by decide +kernel
theorem dX3_canGiveBoth_23 : decode cX3_canGiveBoth 23 = .ok (.bipush 10, 2) := by decide +kernel
theorem dX3_canGiveBoth_25 : decode cX3_canGiveBoth 25 = .ok (.idiv, 1) := by decide +kernel
theorem dX3_canGiveBoth_26 : decode cX3_canGiveBoth 26 = .ok (.if_icmp .ne 19, 3) := by decide +kernel
theorem dX3_canGiveBoth_29 : decode cX3_canGiveBoth 29 = .ok (.aload_n 1, 1) := by decide +kernel
theorem dX3_canGiveBoth_30 : decode cX3_canGiveBoth 30 = .ok (.getfield 105, 3) := by decide +kernel
theorem dX3_canGiveBoth_33 : decode cX3_canGiveBoth 33 = .ok (.getfield 109, 3) := by decide +kernel
theorem dX3_canGiveBoth_36 : decode cX3_canGiveBoth 36 = .ok (.iload_n 2, 1) := by decide +kernel
theorem dX3_canGiveBoth_37 : decode cX3_canGiveBoth 37 = .ok (.bipush 10, 2) := by decide +kernel
theorem dX3_canGiveBoth_39 : decode cX3_canGiveBoth 39 = .ok (.idiv, 1) := by decide +kernel
theorem dX3_canGiveBoth_40 : decode cX3_canGiveBoth 40 = .ok (.iaload, 1) := by decide +kernel
theorem dX3_canGiveBoth_41 : decode cX3_canGiveBoth 41 = .ok (.iconst 1, 1) := by decide +kernel
theorem dX3_canGiveBoth_42 : decode cX3_canGiveBoth 42 = .ok (.if_icmp .le 7, 3) := by decide +kernel
theorem dX3_canGiveBoth_45 : decode cX3_canGiveBoth 45 = .ok (.iconst 1, 1) := by decide +kernel
theorem dX3_canGiveBoth_46 : decode cX3_canGiveBoth 46 = .ok (.goto 4, 3) := by decide +kernel
theorem dX3_canGiveBoth_49 : decode cX3_canGiveBoth 49 = .ok (.iconst 0, 1) := by decide +kernel
theorem dX3_canGiveBoth_50 : decode cX3_canGiveBoth 50 = .ok (.ireturn, 1) := by decide +kernel
theorem dX3_suitsWith_0 : decode cX3_suitsWith 0 = .ok (.aload_n 1, 1) := by decide +kernel
theorem dX3_suitsWith_1 : decode cX3_suitsWith 1 = .ok (.invokevirtual 18, 3) := by decide +kernel
theorem dX3_suitsWith_4 : decode cX3_suitsWith 4 = .ok (.astore 6, 2) := by decide +kernel
theorem dX3_suitsWith_6 : decode cX3_suitsWith 6 = .ok (.iload 4, 2) := by decide +kernel
theorem dX3_suitsWith_8 : decode cX3_suitsWith 8 = .ok (.iconst (-1), 1) := by decide +kernel
theorem dX3_suitsWith_9 : decode cX3_suitsWith 9 = .ok (.if_icmp .eq 19, 3) := by decide +kernel
theorem dX3_suitsWith_12 : decode cX3_suitsWith 12 = .ok (.aload 6, 2) := by decide +kernel
theorem dX3_suitsWith_14 : decode cX3_suitsWith 14 = .ok (.iload 4, 2) := by decide +kernel
theorem dX3_suitsWith_16 : decode cX3_suitsWith 16 = .ok (.bipush 10, 2) := by decide +kernel
theorem dX3_suitsWith_18 : decode cX3_suitsWith 18 = .ok (.idiv, 1) := by decide +kernel
theorem dX3_suitsWith_19 : decode cX3_suitsWith 19 = .ok (.iload 4, 2) := by decide +kernel
theorem dX3_suitsWith_21 : decode cX3_suitsWith 21 = .ok (.bipush 10, 2) := by decide +kernel
theorem dX3_suitsWith_23 : decode cX3_suitsWith 23 = .ok (.irem, 1) := by decide +kernel
theorem dX3_suitsWith_24 : decode cX3_suitsWith 24 = .ok (.iconst 1, 1) := by decide +kernel
theorem dX3_suitsWith_25 : decode cX3_suitsWith 25 = .ok (.invokevirtual 112, 3) := by decide +kernel
theorem dX3_suitsWith_28 : decode cX3_suitsWith 28 = .ok (.iload 5, 2) := by decide +kernel
theorem dX3_suitsWith_30 : decode cX3_suitsWith 30 = .ok (.iconst (-1), 1) := by decide +kernel
theorem dX3_suitsWith_31 : decode cX3_suitsWith 31 = .ok (.if_icmp .eq 19, 3) := by decide +kernel
theorem dX3_suitsWith_34 : decode cX3_suitsWith 34 = .ok (.aload 6, 2) := by decide +kernel
theorem dX3_suitsWith_36 : decode cX3_suitsWith 36 = .ok (.iload 5, 2) := by decide +kernel
theorem dX3_suitsWith_38 : decode cX3_suitsWith 38 = .ok (.bipush 10, 2) := by decide +kernel
theorem dX3_suitsWith_40 : decode cX3_suitsWith 40 = .ok (.idiv, 1) := by decide +kernel
theorem dX3_suitsWith_41 : decode cX3_suitsWith 41 = .ok (.iload 5, 2) := by decide +kernel
theorem dX3_suitsWith_43 : decode cX3_suitsWith 43 = .ok (.bipush 10, 2) := by decide +kernel
theorem dX3_suitsWith_45 : decode cX3_suitsWith 45 = .ok (.irem, 1) := by decide +kernel
theorem dX3_suitsWith_46 : decode cX3_suitsWith 46 = .ok (.iconst 1, 1) := by decide +kernel
theorem dX3_suitsWith_47 : decode cX3_suitsWith 47 = .ok (.invokevirtual 112, 3) := by decide +kernel
theorem dX3_suitsWith_50 : decode cX3_suitsWith 50 = .ok (.aload_n 0, 1) := by decide +kernel
theorem dX3_suitsWith_51 : decode cX3_suitsWith 51 = .ok (.aload_n 1, 1) := by decide +kernel
theorem dX3_suitsWith_52 : decode cX3_suitsWith 52 = .ok (.aload 6, 2) := by decide +kernel
theorem dX3_suitsWith_54 : decode cX3_suitsWith 54 = .ok (.iload_n 2, 1) := by decide +kernel
theorem dX3_suitsWith_55 : decode cX3_suitsWith 55 = .ok (.iload_n 3, 1) := by decide +kernel
theorem dX3_suitsWith_56 : decode cX3_suitsWith 56 = .ok (.invokevirtual 63, 3) := by decide +kernel
theorem dX3_suitsWith_59 : decode cX3_suitsWith 59 = .ok (.ireturn, 1) := by decide +kernel
theorem dX3_spread_0 : decode cX3_spread 0 = .ok (.iload_n 1, 1) := by decide +kernel
theorem dX3_spread_1 : decode cX3_spread 1 = .ok (.istore_n 3, 1) := by decide +kernel
theorem dX3_spread_2 : decode cX3_spread 2 = .ok (.iload_n 2, 1) := by decide +kernel
theorem dX3_spread_3 : decode cX3_spread 3 = .ok (.iconst 1, 1) := by decide +kernel
theorem dX3_spread_4 : decode cX3_spread 4 = .ok (.isub, 1) := by decide +kernel
theorem dX3_spread_5 : decode cX3_spread 5 = .ok (.istore 4, 2) := by decide +kernel
theorem dX3_spread_7 : decode cX3_spread 7 = .ok (.iload 4, 2) := by decide +kernel
theorem dX3_spread_9 : decode cX3_spread 9 = .ok (.ifCond .lt 25, 3) := by decide +kernel
theorem dX3_spread_12 : decode cX3_spread 12 = .ok (.aload_n 0, 1) := by decide +kernel
theorem dX3_spread_13 : decode cX3_spread 13 = .ok (.getfield 15, 3) := by decide +kernel
theorem dX3_spread_16 : decode cX3_spread 16 = .ok (.iload 4, 2) := by decide +kernel
theorem dX3_spread_18 : decode cX3_spread 18 = .ok (.iload_n 3, 1) := by decide +kernel
theorem dX3_spread_19 : decode cX3_spread 19 = .ok (.bipush 10, 2) := by decide +kernel
theorem dX3_spread_21 : decode cX3_spread 21 = .ok (.irem, 1) := by decide +kernel
theorem dX3_spread_22 : decode cX3_spread 22 = .ok (.iastore, 1) := by decide +kernel
theorem dX3_spread_23 : decode cX3_spread 23 = .ok (.iload_n 3, 1) := by decide +kernel
theorem dX3_spread_24 : decode cX3_spread 24 = .ok (.bipush 10, 2) := by decide +kernel
theorem dX3_spread_26 : decode cX3_spread 26 = .ok (.idiv, 1) := by decide +kernel
theorem dX3_spread_27 : decode cX3_spread 27 = .ok (.istore_n 3, 1) := by decide +kernel
theorem dX3_spread_28 : decode cX3_spread 28 = .ok (.iinc 4 (-1), 3) := by decide +kernel
theorem dX3_spread_31 : decode cX3_spread 31 = .ok (.goto (-24), 3) := by decide +kernel
theorem dX3_spread_34 : decode cX3_spread 34 = .ok (.iload_n 3, 1) := by decide +kernel
theorem dX3_spread_35 : decode cX3_spread 35 = .ok (.ifCond .ne 7, 3) := by decide +kernel
theorem dX3_spread_38 : decode cX3_spread 38 = .ok (.iconst 1, 1) := by decide +kernel
theorem dX3_spread_39 : decode cX3_spread 39 = .ok (.goto 4, 3) := by decide +kernel
theorem dX3_spread_42 : decode cX3_spread 42 = .ok (.iconst 0, 1) := by decide +kernel
theorem dX3_spread_43 : decode cX3_spread 43 = .ok (.ireturn, 1) := by decide +kernel
theorem dX3_areAllBarges_0 : decode cX3_areAllBarges 0 = .ok (.iload_n 2, 1) := by decide +kernel
theorem dX3_areAllBarges_1 : decode cX3_areAllBarges 1 = .ok (.ifCond .lt 15, 3) := by decide +kernel
theorem dX3_areAllBarges_4 : decode cX3_areAllBarges 4 = .ok (.aload_n 0, 1) := by decide +kernel
theorem dX3_areAllBarges_5 : decode cX3_areAllBarges 5 = .ok (.iload_n 2, 1) := by decide +kernel
theorem dX3_areAllBarges_6 : decode cX3_areAllBarges 6 = .ok (.aload_n 1, 1) := by decide +kernel
theorem dX3_areAllBarges_7 : decode cX3_areAllBarges 7 = .ok (.getfield 45, 3) := by decide +kernel
theorem dX3_areAllBarges_10 : decode cX3_areAllBarges 10 = .ok (.invokevirtual 116, 3) := by decide +kernel
theorem dX3_areAllBarges_13 : decode cX3_areAllBarges 13 = .ok (.ifCond .ne 5, 3) := by decide +kernel
theorem dX3_areAllBarges_16 : decode cX3_areAllBarges 16 = .ok (.iconst 0, 1) := by decide +kernel
theorem dX3_areAllBarges_17 : decode cX3_areAllBarges 17 = .ok (.ireturn, 1) := by decide +kernel
theorem dX3_areAllBarges_18 : decode cX3_areAllBarges 18 = .ok (.iconst 0, 1) := by decide +kernel
theorem dX3_areAllBarges_19 : decode cX3_areAllBarges 19 = .ok (.istore_n 3, 1) := by decide +kernel
theorem dX3_areAllBarges_20 : decode cX3_areAllBarges 20 = .ok (.iconst 0, 1) := by decide +kernel
theorem dX3_areAllBarges_21 : decode cX3_areAllBarges 21 = .ok (.istore 4, 2) := by decide +kernel
theorem dX3_areAllBarges_23 : decode cX3_areAllBarges 23 = .ok (.iload 4, 2) := by decide +kernel
theorem dX3_areAllBarges_25 : decode cX3_areAllBarges 25 = .ok (.aload_n 1, 1) := by decide +kernel
theorem dX3_areAllBarges_26 : decode cX3_areAllBarges 26 = .ok (.getfield 45, 3) := by decide +kernel
theorem dX3_areAllBarges_29 : decode cX3_areAllBarges 29 = .ok (.if_icmp .ge 21, 3) := by decide +kernel
theorem dX3_areAllBarges_32 : decode cX3_areAllBarges 32 = .ok (.iload_n 3, 1) := by decide +kernel
theorem dX3_areAllBarges_33 : decode cX3_areAllBarges 33 = .ok (.iconst 1, 1) := by decide +kernel
theorem dX3_areAllBarges_34 : decode cX3_areAllBarges 34 = .ok (.aload_n 0, 1) := by decide +kernel
theorem dX3_areAllBarges_35 : decode cX3_areAllBarges 35 = .ok (.getfield 15, 3) := by decide +kernel
theorem dX3_areAllBarges_38 : decode cX3_areAllBarges 38 = .ok (.iload 4, 2) := by decide +kernel
theorem dX3_areAllBarges_40 : decode cX3_areAllBarges 40 = .ok (.iaload, 1) := by decide +kernel
theorem dX3_areAllBarges_41 : decode cX3_areAllBarges 41 = .ok (.ishl, 1) := by decide +kernel
theorem dX3_areAllBarges_42 : decode cX3_areAllBarges 42 = .ok (.ior, 1) := by decide +kernel
theorem dX3_areAllBarges_43 : decode cX3_areAllBarges 43 = .ok (.istore_n 3, 1) := by decide +kernel
theorem dX3_areAllBarges_44 : decode cX3_areAllBarges 44 = .ok (.iinc 4 1, 3) := by decide +kernel
theorem dX3_areAllBarges_47 : decode cX3_areAllBarges 47 = .ok (.goto (-24), 3) := by decide +kernel
theorem dX3_areAllBarges_50 : decode cX3_areAllBarges 50 = .ok (.iload_n 3, 1) := by decide +kernel
theorem dX3_areAllBarges_51 : decode cX3_areAllBarges 51 = .ok (.iconst 2, 1) := by decide +kernel
theorem dX3_areAllBarges_52 : decode cX3_areAllBarges 52 = .ok (.aload_n 1, 1) := by decide +kernel
theorem dX3_areAllBarges_53 : decode cX3_areAllBarges 53 = .ok (.getfield 45, 3) := by decide +kernel
theorem dX3_areAllBarges_56 : decode cX3_areAllBarges 56 = .ok (.ishl, 1) := by decide +kernel
theorem dX3_areAllBarges_57 : decode cX3_areAllBarges 57 = .ok (.iconst 2, 1) := by decide +kernel
theorem dX3_areAllBarges_58 : decode cX3_areAllBarges 58 = .ok (.isub, 1) := by decide +kernel
theorem dX3_areAllBarges_59 : decode cX3_areAllBarges 59 = .ok (.if_icmp .ne 7, 3) := by decide +kernel
theorem dX3_areAllBarges_62 : decode cX3_areAllBarges 62 = .ok (.iconst 1, 1) := by decide +kernel
theorem dX3_areAllBarges_63 : decode cX3_areAllBarges 63 = .ok (.goto 4, 3) := by decide +kernel
theorem dX3_areAllBarges_66 : decode cX3_areAllBarges 66 = .ok (.iconst 0, 1) := by decide +kernel
theorem dX3_areAllBarges_67 : decode cX3_areAllBarges 67 = .ok (.ireturn, 1) := by decide +kernel
theorem dX3_firstMisplaced_0 : decode cX3_firstMisplaced 0 = .ok (.aload_n 1, 1) := by decide +kernel
theorem dX3_firstMisplaced_1 : decode cX3_firstMisplaced 1 = .ok (.invokevirtual 119, 3) := by decide +kernel
theorem dX3_firstMisplaced_4 : decode cX3_firstMisplaced 4 = .ok (.astore_n 3, 1) := by decide +kernel
theorem dX3_firstMisplaced_5 : decode cX3_firstMisplaced 5 = .ok (.iconst 0, 1) := by decide +kernel
theorem dX3_firstMisplaced_6 : decode cX3_firstMisplaced 6 = .ok (.istore 4, 2) := by decide +kernel
theorem dX3_firstMisplaced_8 : decode cX3_firstMisplaced 8 = .ok (.iload 4, 2) := by decide +kernel
theorem dX3_firstMisplaced_10 : decode cX3_firstMisplaced 10 = .ok (.iload_n 2, 1) := by decide +kernel
theorem dX3_firstMisplaced_11 : decode cX3_firstMisplaced 11 = .ok (.if_icmp .ge 30, 3) := by decide +kernel
theorem dX3_firstMisplaced_14 : decode cX3_firstMisplaced 14 = .ok (.aload_n 3, 1) := by decide +kernel
theorem dX3_firstMisplaced_15 : decode cX3_firstMisplaced 15 = .ok (.iload 4, 2) := by decide +kernel
theorem dX3_firstMisplaced_17 : decode cX3_firstMisplaced 17 = .ok (.aload_n 0, 1) := by decide +kernel
theorem dX3_firstMisplaced_18 : decode cX3_firstMisplaced 18 = .ok (.getfield 15, 3) := by decide +kernel
theorem dX3_firstMisplaced_21 : decode cX3_firstMisplaced 21 = .ok (.iload 4, 2) := by decide +kernel
theorem dX3_firstMisplaced_23 : decode cX3_firstMisplaced 23 = .ok (.iaload, 1) := by decide +kernel
theorem dX3_firstMisplaced_24 : decode cX3_firstMisplaced 24 = .ok (.iconst 1, 1) := by decide +kernel
theorem dX3_firstMisplaced_25 : decode cX3_firstMisplaced 25 = .ok (.isub, 1) := by decide +kernel
theorem dX3_firstMisplaced_26 : decode cX3_firstMisplaced 26 = .ok (.invokevirtual 79, 3) := by decide +kernel
theorem dX3_firstMisplaced_29 : decode cX3_firstMisplaced 29 = .ok (.ifCond .ne 6, 3) := by decide +kernel
theorem dX3_firstMisplaced_32 : decode cX3_firstMisplaced 32 = .ok (.iload 4, 2) := by decide +kernel
theorem dX3_firstMisplaced_34 : decode cX3_firstMisplaced 34 = .ok (.ireturn, 1) := by decide +kernel
theorem dX3_firstMisplaced_35 : decode cX3_firstMisplaced 35 = .ok (.iinc 4 1, 3) := by decide +kernel
theorem dX3_firstMisplaced_38 : decode cX3_firstMisplaced 38 = .ok (.goto (-30), 3) := by decide +kernel
theorem dX3_firstMisplaced_41 : decode cX3_firstMisplaced 41 = .ok (.bipush (-9), 2) := by decide +kernel
theorem dX3_firstMisplaced_43 : decode cX3_firstMisplaced 43 = .ok (.ireturn, 1) := by decide +kernel
theorem dX3_shareAbove_0 : decode cX3_shareAbove 0 = .ok (.iconst 0, 1) := by decide +kernel
theorem dX3_shareAbove_1 : decode cX3_shareAbove 1 = .ok (.istore_n 3, 1) := by decide +kernel
theorem dX3_shareAbove_2 : decode cX3_shareAbove 2 = .ok (.iconst 1, 1) := by decide +kernel
theorem dX3_shareAbove_3 : decode cX3_shareAbove 3 = .ok (.iload_n 2, 1) := by decide +kernel
theorem dX3_shareAbove_4 : decode cX3_shareAbove 4 = .ok (.ishl, 1) := by decide +kernel
theorem dX3_shareAbove_5 : decode cX3_shareAbove 5 = .ok (.istore 4, 2) := by decide +kernel
theorem dX3_shareAbove_7 : decode cX3_shareAbove 7 = .ok (.iconst 0, 1) := by decide +kernel
theorem dX3_shareAbove_8 : decode cX3_shareAbove 8 = .ok (.istore 5, 2) := by decide +kernel
theorem dX3_shareAbove_10 : decode cX3_shareAbove 10 = .ok (.iload 5, 2) := by decide +kernel
theorem dX3_shareAbove_12 : decode cX3_shareAbove 12 = .ok (.iconst 1, 1) := by decide +kernel
theorem dX3_shareAbove_13 : decode cX3_shareAbove 13 = .ok (.aload_n 1, 1) := by decide +kernel
theorem dX3_shareAbove_14 : decode cX3_shareAbove 14 = .ok (.getfield 45, 3) := by decide +kernel
theorem dX3_shareAbove_17 : decode cX3_shareAbove 17 = .ok (.ishl, 1) := by decide +kernel
theorem dX3_shareAbove_18 : decode cX3_shareAbove 18 = .ok (.if_icmp .ge 70, 3) := by decide +kernel
theorem dX3_shareAbove_21 : decode cX3_shareAbove 21 = .ok (.iload 5, 2) := by decide +kernel
theorem dX3_shareAbove_23 : decode cX3_shareAbove 23 = .ok (.iload 4, 2) := by decide +kernel
theorem dX3_shareAbove_25 : decode cX3_shareAbove 25 = .ok (.iand, 1) := by decide +kernel
theorem dX3_shareAbove_26 : decode cX3_shareAbove 26 = .ok (.ifCond .ne 56, 3) := by decide +kernel
theorem dX3_shareAbove_29 : decode cX3_shareAbove 29 = .ok (.iload 5, 2) := by decide +kernel
theorem dX3_shareAbove_31 : decode cX3_shareAbove 31 = .ok (.invokestatic 122, 3) := by decide +kernel
theorem dX3_shareAbove_34 : decode cX3_shareAbove 34 = .ok (.istore 6, 2) := by decide +kernel
theorem dX3_shareAbove_36 : decode cX3_shareAbove 36 = .ok (.getstatic 48, 3) := by decide +kernel
theorem dX3_shareAbove_39 : decode cX3_shareAbove 39 = .ok (.iload 6, 2) := by decide +kernel
theorem dX3_shareAbove_41 : decode cX3_shareAbove 41 = .ok (.iaload, 1) := by decide +kernel
theorem dX3_shareAbove_42 : decode cX3_shareAbove 42 = .ok (.getstatic 48, 3) := by decide +kernel
theorem dX3_shareAbove_45 : decode cX3_shareAbove 45 = .ok (.aload_n 1, 1) := by decide +kernel
theorem dX3_shareAbove_46 : decode cX3_shareAbove 46 = .ok (.getfield 45, 3) := by decide +kernel
theorem dX3_shareAbove_49 : decode cX3_shareAbove 49 = .ok (.iconst 1, 1) := by decide +kernel
theorem dX3_shareAbove_50 : decode cX3_shareAbove 50 = .ok (.isub, 1) := by decide +kernel
theorem dX3_shareAbove_51 : decode cX3_shareAbove 51 = .ok (.iload 6, 2) := by decide +kernel
theorem dX3_shareAbove_53 : decode cX3_shareAbove 53 = .ok (.isub, 1) := by decide +kernel
theorem dX3_shareAbove_54 : decode cX3_shareAbove 54 = .ok (.iaload, 1) := by decide +kernel
theorem dX3_shareAbove_55 : decode cX3_shareAbove 55 = .ok (.imul, 1) := by decide +kernel
theorem dX3_shareAbove_56 : decode cX3_shareAbove 56 = .ok (.istore 7, 2) := by decide +kernel
theorem dX3_shareAbove_58 : decode cX3_shareAbove 58 = .ok (.iload_n 3, 1) := by decide +kernel
theorem dX3_shareAbove_59 : decode cX3_shareAbove 59 = .ok (.iload 7, 2) := by decide +kernel
theorem dX3_shareAbove_61 : decode cX3_shareAbove 61 = .ok (.aload_n 0, 1) := by decide +kernel
theorem dX3_shareAbove_62 : decode cX3_shareAbove 62 = .ok (.aload_n 1, 1) := by decide +kernel
theorem dX3_shareAbove_63 : decode cX3_shareAbove 63 = .ok (.iload 5, 2) := by decide +kernel
theorem dX3_shareAbove_65 : decode cX3_shareAbove 65 = .ok (.iload 4, 2) := by decide +kernel
theorem dX3_shareAbove_67 : decode cX3_shareAbove 67 = .ok (.ior, 1) := by decide +kernel
theorem dX3_shareAbove_68 : decode cX3_shareAbove 68 = .ok (.invokevirtual 127, 3) := by decide +kernel
theorem dX3_shareAbove_71 : decode cX3_shareAbove 71 = .ok (.aload_n 0, 1) := by decide +kernel
theorem dX3_shareAbove_72 : decode cX3_shareAbove 72 = .ok (.aload_n 1, 1) := by decide +kernel
theorem dX3_shareAbove_73 : decode cX3_shareAbove 73 = .ok (.iload 5, 2) := by decide +kernel
theorem dX3_shareAbove_75 : decode cX3_shareAbove 75 = .ok (.invokevirtual 127, 3) := by decide +kernel
theorem dX3_shareAbove_78 : decode cX3_shareAbove 78 = .ok (.isub, 1) := by decide +kernel
theorem dX3_shareAbove_79 : decode cX3_shareAbove 79 = .ok (.imul, 1) := by decide +kernel
theorem dX3_shareAbove_80 : decode cX3_shareAbove 80 = .ok (.iadd, 1) := by decide +kernel
theorem dX3_shareAbove_81 : decode cX3_shareAbove 81 = .ok (.istore_n 3, 1) := by decide +kernel
theorem dX3_shareAbove_82 : decode cX3_shareAbove 82 = .ok (.iinc 5 1, 3) := by decide +kernel
theorem dX3_shareAbove_85 : decode cX3_shareAbove 85 = .ok (.goto (-75), 3) := by decide +kernel
theorem dX3_shareAbove_88 : decode cX3_shareAbove 88 = .ok (.iload_n 3, 1) := by decide +kernel
theorem dX3_shareAbove_89 : decode cX3_shareAbove 89 = .ok (.ireturn, 1) := by decide +kernel
theorem dX3_lastHourOf_0 : decode cX3_lastHourOf 0 = .ok (.aload_n 1, 1) := by decide +kernel
theorem dX3_lastHourOf_1 : decode cX3_lastHourOf 1 = .ok (.invokevirtual 18, 3) := by decide +kernel
theorem dX3_lastHourOf_4 : decode cX3_lastHourOf 4 = .ok (.astore_n 3, 1) := by decide +kernel
theorem dX3_lastHourOf_5 : decode cX3_lastHourOf 5 = .ok (.aload_n 3, 1) := by decide +kernel
theorem dX3_lastHourOf_6 : decode cX3_lastHourOf 6 = .ok (.invokevirtual 131, 3) := by decide +kernel
theorem dX3_lastHourOf_9 : decode cX3_lastHourOf 9 = .ok (.aload_n 3, 1) := by decide +kernel
theorem dX3_lastHourOf_10 : decode cX3_lastHourOf 10 = .ok (.iconst 0, 1) := by decide +kernel
theorem dX3_lastHourOf_11 : decode cX3_lastHourOf 11 = .ok (.putfield 134, 3) := by decide +kernel
theorem dX3_lastHourOf_14 : decode cX3_lastHourOf 14 = .ok (.iconst 0, 1) := by decide +kernel
theorem dX3_lastHourOf_15 : decode cX3_lastHourOf 15 = .ok (.istore 4, 2) := by decide +kernel
theorem dX3_lastHourOf_17 : decode cX3_lastHourOf 17 = .ok (.iload 4, 2) := by decide +kernel
theorem dX3_lastHourOf_19 : decode cX3_lastHourOf 19 = .ok (.aload_n 1, 1) := by decide +kernel
theorem dX3_lastHourOf_20 : decode cX3_lastHourOf 20 = .ok (.getfield 45, 3) := by decide +kernel
theorem dX3_lastHourOf_23 : decode cX3_lastHourOf 23 = .ok (.if_icmp .ge 52, 3) := by decide +kernel
theorem dX3_lastHourOf_26 : decode cX3_lastHourOf 26 = .ok (.aload_n 1, 1) := by decide +kernel
theorem dX3_lastHourOf_27 : decode cX3_lastHourOf 27 = .ok (.getfield 105, 3) := by decide +kernel
theorem dX3_lastHourOf_30 : decode cX3_lastHourOf 30 = .ok (.getfield 51, 3) := by decide +kernel
theorem dX3_lastHourOf_33 : decode cX3_lastHourOf 33 = .ok (.iload 4, 2) := by decide +kernel
theorem dX3_lastHourOf_35 : decode cX3_lastHourOf 35 = .ok (.iaload, 1) := by decide +kernel
theorem dX3_lastHourOf_36 : decode cX3_lastHourOf 36 = .ok (.istore 5, 2) := by decide +kernel
theorem dX3_lastHourOf_38 : decode cX3_lastHourOf 38 = .ok (.iload_n 2, 1) := by decide +kernel
theorem dX3_lastHourOf_39 : decode cX3_lastHourOf 39 = .ok (.iload 5, 2) := by decide +kernel
theorem dX3_lastHourOf_41 : decode cX3_lastHourOf 41 = .ok (.ishr, 1) := by decide +kernel
theorem dX3_lastHourOf_42 : decode cX3_lastHourOf 42 = .ok (.iconst 1, 1) := by decide +kernel
theorem dX3_lastHourOf_43 : decode cX3_lastHourOf 43 = .ok (.iand, 1) := by decide +kernel
theorem dX3_lastHourOf_44 : decode cX3_lastHourOf 44 = .ok (.iconst 1, 1) := by decide +kernel
theorem dX3_lastHourOf_45 : decode cX3_lastHourOf 45 = .ok (.if_icmp .ne 24, 3) := by decide +kernel
theorem dX3_lastHourOf_48 : decode cX3_lastHourOf 48 = .ok (.aload_n 3, 1) := by decide +kernel
theorem dX3_lastHourOf_49 : decode cX3_lastHourOf 49 = .ok (.getfield 51, 3) := by decide +kernel
theorem dX3_lastHourOf_52 : decode cX3_lastHourOf 52 = .ok (.aload_n 3, 1) := by decide +kernel
theorem dX3_lastHourOf_53 : decode cX3_lastHourOf 53 = .ok (.getfield 134, 3) := by decide +kernel
theorem dX3_lastHourOf_56 : decode cX3_lastHourOf 56 = .ok (.iload 5, 2) := by decide +kernel
theorem dX3_lastHourOf_58 : decode cX3_lastHourOf 58 = .ok (.iastore, 1) := by decide +kernel
theorem dX3_lastHourOf_59 : decode cX3_lastHourOf 59 = .ok (.aload_n 3, 1) := by decide +kernel
theorem dX3_lastHourOf_60 : decode cX3_lastHourOf 60 = .ok (.dup, 1) := by decide +kernel
theorem dX3_lastHourOf_61 : decode cX3_lastHourOf 61 = .ok (.getfield 134, 3) := by decide +kernel
theorem dX3_lastHourOf_64 : decode cX3_lastHourOf 64 = .ok (.iconst 1, 1) := by decide +kernel
theorem dX3_lastHourOf_65 : decode cX3_lastHourOf 65 = .ok (.iadd, 1) := by decide +kernel
theorem dX3_lastHourOf_66 : decode cX3_lastHourOf 66 = .ok (.putfield 134, 3) := by decide +kernel
theorem dX3_lastHourOf_69 : decode cX3_lastHourOf 69 = .ok (.iinc 4 1, 3) := by decide +kernel
theorem dX3_lastHourOf_72 : decode cX3_lastHourOf 72 = .ok (.goto (-55), 3) := by decide +kernel
theorem dX3_lastHourOf_75 : decode cX3_lastHourOf 75 = .ok (.aload_n 1, 1) := by decide +kernel
theorem dX3_lastHourOf_76 : decode cX3_lastHourOf 76 = .ok (.aload_n 3, 1) := by decide +kernel
theorem dX3_lastHourOf_77 : decode cX3_lastHourOf 77 = .ok (.aload_n 1, 1) := by decide +kernel
theorem dX3_lastHourOf_78 : decode cX3_lastHourOf 78 = .ok (.getfield 30, 3) := by decide +kernel
theorem dX3_lastHourOf_81 : decode cX3_lastHourOf 81 = .ok (.invokevirtual 75, 3) := by decide +kernel
theorem dX3_lastHourOf_84 : decode cX3_lastHourOf 84 = .ok (.aload_n 3, 1) := by decide +kernel
theorem dX3_lastHourOf_85 : decode cX3_lastHourOf 85 = .ok (.invokevirtual 137, 3) := by decide +kernel
theorem dX3_lastHourOf_88 : decode cX3_lastHourOf 88 = .ok (.ireturn, 1) := by decide +kernel
theorem dX4_init_0 : decode cX4_init 0 = .ok (.aload_n 0, 1) := by decide +kernel
theorem dX4_init_1 : decode cX4_init 1 = .ok (.invokespecial 3, 3) := by decide +kernel
theorem dX4_init_4 : decode cX4_init 4 = .ok (.aload_n 0, 1) := by decide +kernel
theorem dX4_init_5 : decode cX4_init 5 = .ok (.iconst 2, 1) := by decide +kernel
theorem dX4_init_6 : decode cX4_init 6 = .ok (.anewarray 9, 3) := by decide +kernel
theorem dX4_init_9 : decode cX4_init 9 = .ok (.putfield 11, 3) := by decide +kernel
theorem dX4_init_12 : decode cX4_init 12 = .ok (.aload_n 0, 1) := by decide +kernel
theorem dX4_init_13 : decode cX4_init 13 = .ok (.iconst 2, 1) := by decide +kernel
theorem dX4_init_14 : decode cX4_init 14 = .ok (.newarray .boolean, 2) := by decide +kernel
theorem dX4_init_16 : decode cX4_init 16 = .ok (.putfield 17, 3) := by decide +kernel
theorem dX4_init_19 : decode cX4_init 19 = .ok (.iconst 0, 1) := by decide +kernel
theorem dX4_init_20 : decode cX4_init 20 = .ok (.istore_n 1, 1) := by decide +kernel
theorem dX4_init_21 : decode cX4_init 21 = .ok (.iload_n 1, 1) := by decide +kernel
theorem dX4_init_22 : decode cX4_init 22 = .ok (.iconst 2, 1) := by decide +kernel
theorem dX4_init_23 : decode cX4_init 23 = .ok (.if_icmp .ge 22, 3) := by decide +kernel
theorem dX4_init_26 : decode cX4_init 26 = .ok (.aload_n 0, 1) := by decide +kernel
theorem dX4_init_27 : decode cX4_init 27 = .ok (.getfield 11, 3) := by decide +kernel
theorem dX4_init_30 : decode cX4_init 30 = .ok (.iload_n 1, 1) := by decide +kernel
theorem dX4_init_31 : decode cX4_init 31 = .ok (.new 9, 3) := by decide +kernel
theorem dX4_init_34 : decode cX4_init 34 = .ok (.dup, 1) := by decide +kernel
theorem dX4_init_35 : decode cX4_init 35 = .ok (.invokespecial 21, 3) := by decide +kernel
theorem dX4_init_38 : decode cX4_init 38 = .ok (.aastore, 1) := by decide +kernel
theorem dX4_init_39 : decode cX4_init 39 = .ok (.iinc 1 1, 3) := by decide +kernel
theorem dX4_init_42 : decode cX4_init 42 = .ok (.goto (-21), 3) := by decide +kernel
theorem dX4_init_45 : decode cX4_init 45 = .ok (.return_, 1) := by decide +kernel
theorem dX4_put_0 : decode cX4_put 0 = .ok (.iload_n 1, 1) := by decide +kernel
theorem dX4_put_1 : decode cX4_put 1 = .ok (.ifCond .lt 25, 3) := by decide +kernel
theorem dX4_put_4 : decode cX4_put 4 = .ok (.iload_n 1, 1) := by decide +kernel
theorem dX4_put_5 : decode cX4_put 5 = .ok (.iconst 2, 1) := by decide +kernel
theorem dX4_put_6 : decode cX4_put 6 = .ok (.if_icmp .ge 20, 3) := by decide +kernel
theorem dX4_put_9 : decode cX4_put 9 = .ok (.aload_n 0, 1) := by decide +kernel
theorem dX4_put_10 : decode cX4_put 10 = .ok (.getfield 11, 3) := by decide +kernel
theorem dX4_put_13 : decode cX4_put 13 = .ok (.iload_n 1, 1) := by decide +kernel
theorem dX4_put_14 : decode cX4_put 14 = .ok (.aaload, 1) := by decide +kernel
theorem dX4_put_15 : decode cX4_put 15 = .ok (.aload_n 2, 1) := by decide +kernel
theorem dX4_put_16 : decode cX4_put 16 = .ok (.invokevirtual 22, 3) := by decide +kernel
theorem dX4_put_19 : decode cX4_put 19 = .ok (.aload_n 0, 1) := by decide +kernel
theorem dX4_put_20 : decode cX4_put 20 = .ok (.getfield 17, 3) := by decide +kernel
theorem dX4_put_23 : decode cX4_put 23 = .ok (.iload_n 1, 1) := by decide +kernel
theorem dX4_put_24 : decode cX4_put 24 = .ok (.iconst 1, 1) := by decide +kernel
theorem dX4_put_25 : decode cX4_put 25 = .ok (.bastore, 1) := by decide +kernel
theorem dX4_put_26 : decode cX4_put 26 = .ok (.return_, 1) := by decide +kernel
theorem dX4_forgetAll_0 : decode cX4_forgetAll 0 = .ok (.iconst 0, 1) := by decide +kernel
theorem dX4_forgetAll_1 : decode cX4_forgetAll 1 = .ok (.istore_n 1, 1) := by decide +kernel
theorem dX4_forgetAll_2 : decode cX4_forgetAll 2 = .ok (.iload_n 1, 1) := by decide +kernel
theorem dX4_forgetAll_3 : decode cX4_forgetAll 3 = .ok (.iconst 2, 1) := by decide +kernel
theorem dX4_forgetAll_4 : decode cX4_forgetAll 4 = .ok (.if_icmp .ge 16, 3) := by decide +kernel
theorem dX4_forgetAll_7 : decode cX4_forgetAll 7 = .ok (.aload_n 0, 1) := by decide +kernel
theorem dX4_forgetAll_8 : decode cX4_forgetAll 8 = .ok (.getfield 17, 3) := by decide +kernel
theorem dX4_forgetAll_11 : decode cX4_forgetAll 11 = .ok (.iload_n 1, 1) := by decide +kernel
theorem dX4_forgetAll_12 : decode cX4_forgetAll 12 = .ok (.iconst 0, 1) := by decide +kernel
theorem dX4_forgetAll_13 : decode cX4_forgetAll 13 = .ok (.bastore, 1) := by decide +kernel
theorem dX4_forgetAll_14 : decode cX4_forgetAll 14 = .ok (.iinc 1 1, 3) := by decide +kernel
theorem dX4_forgetAll_17 : decode cX4_forgetAll 17 = .ok (.goto (-15), 3) := by decide +kernel
theorem dX4_forgetAll_20 : decode cX4_forgetAll 20 = .ok (.return_, 1) := by decide +kernel
theorem dX5_init_0 : decode cX5_init 0 = .ok (.aload_n 0, 1) := by decide +kernel
theorem dX5_init_1 : decode cX5_init 1 = .ok (.invokespecial 3, 3) := by decide +kernel
theorem dX5_init_4 : decode cX5_init 4 = .ok (.aload_n 0, 1) := by decide +kernel
theorem dX5_init_5 : decode cX5_init 5 = .ok (.bipush 6, 2) := by decide +kernel
theorem dX5_init_7 : decode cX5_init 7 = .ok (.newarray .int, 2) := by decide +kernel
theorem dX5_init_9 : decode cX5_init 9 = .ok (.putfield 9, 3) := by decide +kernel
theorem dX5_init_12 : decode cX5_init 12 = .ok (.aload_n 0, 1) := by decide +kernel
theorem dX5_init_13 : decode cX5_init 13 = .ok (.bipush 6, 2) := by decide +kernel
theorem dX5_init_15 : decode cX5_init 15 = .ok (.newarray .int, 2) := by decide +kernel
theorem dX5_init_17 : decode cX5_init 17 = .ok (.putfield 15, 3) := by decide +kernel
theorem dX5_init_20 : decode cX5_init 20 = .ok (.aload_n 0, 1) := by decide +kernel
theorem dX5_init_21 : decode cX5_init 21 = .ok (.bipush 6, 2) := by decide +kernel
theorem dX5_init_23 : decode cX5_init 23 = .ok (.newarray .int, 2) := by decide +kernel
theorem dX5_init_25 : decode cX5_init 25 = .ok (.putfield 18, 3) := by decide +kernel
theorem dX5_init_28 : decode cX5_init 28 = .ok (.aload_n 0, 1) := by decide +kernel
theorem dX5_init_29 : decode cX5_init 29 = .ok (.iconst 5, 1) := by decide +kernel
theorem dX5_init_30 : decode cX5_init 30 = .ok (.newarray .int, 2) := by decide +kernel
theorem dX5_init_32 : decode cX5_init 32 = .ok (.putfield 21, 3) := by decide +kernel
theorem dX5_init_35 : decode cX5_init 35 = .ok (.aload_n 0, 1) := by decide +kernel
theorem dX5_init_36 : decode cX5_init 36 = .ok (.bipush 30, 2) := by decide +kernel
theorem dX5_init_38 : decode cX5_init 38 = .ok (.newarray .int, 2) := by decide +kernel
theorem dX5_init_40 : decode cX5_init 40 = .ok (.putfield 24, 3) := by decide +kernel
theorem dX5_init_43 : decode cX5_init 43 = .ok (.return_, 1) := by decide +kernel
theorem dX5_copyFrom_0 : decode cX5_copyFrom 0 = .ok (.aload_n 1, 1) := by decide +kernel
theorem dX5_copyFrom_1 : decode cX5_copyFrom 1 = .ok (.getfield 9, 3) := by decide +kernel
theorem dX5_copyFrom_4 : decode cX5_copyFrom 4 = .ok (.iconst 0, 1) := by decide +kernel
theorem dX5_copyFrom_5 : decode cX5_copyFrom 5 = .ok (.aload_n 0, 1) := by decide +kernel
theorem dX5_copyFrom_6 : decode cX5_copyFrom 6 = .ok (.getfield 9, 3) := by decide +kernel
theorem dX5_copyFrom_9 : decode cX5_copyFrom 9 = .ok (.iconst 0, 1) := by decide +kernel
theorem dX5_copyFrom_10 : decode cX5_copyFrom 10 = .ok (.bipush 6, 2) := by decide +kernel
theorem dX5_copyFrom_12 : decode cX5_copyFrom 12 = .ok (.invokestatic 27, 3) := by decide +kernel
theorem dX5_copyFrom_15 : decode cX5_copyFrom 15 = .ok (.aload_n 1, 1) := by decide +kernel
theorem dX5_copyFrom_16 : decode cX5_copyFrom 16 = .ok (.getfield 15, 3) := by decide +kernel
theorem dX5_copyFrom_19 : decode cX5_copyFrom 19 = .ok (.iconst 0, 1) := by decide +kernel
theorem dX5_copyFrom_20 : decode cX5_copyFrom 20 = .ok (.aload_n 0, 1) := by decide +kernel
theorem dX5_copyFrom_21 : decode cX5_copyFrom 21 = .ok (.getfield 15, 3) := by decide +kernel
theorem dX5_copyFrom_24 : decode cX5_copyFrom 24 = .ok (.iconst 0, 1) := by decide +kernel
theorem dX5_copyFrom_25 : decode cX5_copyFrom 25 = .ok (.bipush 6, 2) := by decide +kernel
theorem dX5_copyFrom_27 : decode cX5_copyFrom 27 = .ok (.invokestatic 27, 3) := by decide +kernel
theorem dX5_copyFrom_30 : decode cX5_copyFrom 30 = .ok (.aload_n 1, 1) := by decide +kernel
theorem dX5_copyFrom_31 : decode cX5_copyFrom 31 = .ok (.getfield 18, 3) := by decide +kernel
theorem dX5_copyFrom_34 : decode cX5_copyFrom 34 = .ok (.iconst 0, 1) := by decide +kernel
theorem dX5_copyFrom_35 : decode cX5_copyFrom 35 = .ok (.aload_n 0, 1) := by decide +kernel
theorem dX5_copyFrom_36 : decode cX5_copyFrom 36 = .ok (.getfield 18, 3) := by decide +kernel
theorem dX5_copyFrom_39 : decode cX5_copyFrom 39 = .ok (.iconst 0, 1) := by decide +kernel
theorem dX5_copyFrom_40 : decode cX5_copyFrom 40 = .ok (.bipush 6, 2) := by decide +kernel
theorem dX5_copyFrom_42 : decode cX5_copyFrom 42 = .ok (.invokestatic 27, 3) := by decide +kernel
theorem dX5_copyFrom_45 : decode cX5_copyFrom 45 = .ok (.aload_n 1, 1) := by decide +kernel
theorem dX5_copyFrom_46 : decode cX5_copyFrom 46 = .ok (.getfield 21, 3) := by decide +kernel
theorem dX5_copyFrom_49 : decode cX5_copyFrom 49 = .ok (.iconst 0, 1) := by decide +kernel
theorem dX5_copyFrom_50 : decode cX5_copyFrom 50 = .ok (.aload_n 0, 1) := by decide +kernel
theorem dX5_copyFrom_51 : decode cX5_copyFrom 51 = .ok (.getfield 21, 3) := by decide +kernel
theorem dX5_copyFrom_54 : decode cX5_copyFrom 54 = .ok (.iconst 0, 1) := by decide +kernel
theorem dX5_copyFrom_55 : decode cX5_copyFrom 55 = .ok (.iconst 5, 1) := by decide +kernel
theorem dX5_copyFrom_56 : decode cX5_copyFrom 56 = .ok (.invokestatic 27, 3) := by decide +kernel
theorem dX5_copyFrom_59 : decode cX5_copyFrom 59 = .ok (.aload_n 1, 1) := by decide +kernel
theorem dX5_copyFrom_60 : decode cX5_copyFrom 60 = .ok (.getfield 24, 3) := by decide +kernel
theorem dX5_copyFrom_63 : decode cX5_copyFrom 63 = .ok (.iconst 0, 1) := by decide +kernel
theorem dX5_copyFrom_64 : decode cX5_copyFrom 64 = .ok (.aload_n 0, 1) := by decide +kernel
theorem dX5_copyFrom_65 : decode cX5_copyFrom 65 = .ok (.getfield 24, 3) := by decide +kernel
theorem dX5_copyFrom_68 : decode cX5_copyFrom 68 = .ok (.iconst 0, 1) := by decide +kernel
theorem dX5_copyFrom_69 : decode cX5_copyFrom 69 = .ok (.bipush 30, 2) := by decide +kernel
theorem dX5_copyFrom_71 : decode cX5_copyFrom 71 = .ok (.invokestatic 27, 3) := by decide +kernel
theorem dX5_copyFrom_74 : decode cX5_copyFrom 74 = .ok (.aload_n 0, 1) := by decide +kernel
theorem dX5_copyFrom_75 : decode cX5_copyFrom 75 = .ok (.aload_n 1, 1) := by decide +kernel
theorem dX5_copyFrom_76 : decode cX5_copyFrom 76 = .ok (.getfield 33, 3) := by decide +kernel
theorem dX5_copyFrom_79 : decode cX5_copyFrom 79 = .ok (.putfield 33, 3) := by decide +kernel
theorem dX5_copyFrom_82 : decode cX5_copyFrom 82 = .ok (.aload_n 0, 1) := by decide +kernel
theorem dX5_copyFrom_83 : decode cX5_copyFrom 83 = .ok (.aload_n 1, 1) := by decide +kernel
theorem dX5_copyFrom_84 : decode cX5_copyFrom 84 = .ok (.getfield 37, 3) := by decide +kernel
theorem dX5_copyFrom_87 : decode cX5_copyFrom 87 = .ok (.putfield 37, 3) := by decide +kernel
theorem dX5_copyFrom_90 : decode cX5_copyFrom 90 = .ok (.return_, 1) := by decide +kernel
theorem dX5_clearAll_0 : decode cX5_clearAll 0 = .ok (.iconst 0, 1) := by decide +kernel
theorem dX5_clearAll_1 : decode cX5_clearAll 1 = .ok (.istore_n 1, 1) := by decide +kernel
theorem dX5_clearAll_2 : decode cX5_clearAll 2 = .ok (.iload_n 1, 1) := by decide +kernel
theorem dX5_clearAll_3 : decode cX5_clearAll 3 = .ok (.bipush 30, 2) := by decide +kernel
theorem dX5_clearAll_5 : decode cX5_clearAll 5 = .ok (.if_icmp .ge 16, 3) := by decide +kernel
theorem dX5_clearAll_8 : decode cX5_clearAll 8 = .ok (.aload_n 0, 1) := by decide +kernel
theorem dX5_clearAll_9 : decode cX5_clearAll 9 = .ok (.getfield 24, 3) := by decide +kernel
theorem dX5_clearAll_12 : decode cX5_clearAll 12 = .ok (.iload_n 1, 1) := by decide +kernel
theorem dX5_clearAll_13 : decode cX5_clearAll 13 = .ok (.iconst 0, 1) := by decide +kernel
theorem dX5_clearAll_14 : decode cX5_clearAll 14 = .ok (.iastore, 1) := by decide +kernel
theorem dX5_clearAll_15 : decode cX5_clearAll 15 = .ok (.iinc 1 1, 3) := by decide +kernel
theorem dX5_clearAll_18 : decode cX5_clearAll 18 = .ok (.goto (-16), 3) := by decide +kernel
theorem dX5_clearAll_21 : decode cX5_clearAll 21 = .ok (.aload_n 0, 1) := by decide +kernel
theorem dX5_clearAll_22 : decode cX5_clearAll 22 = .ok (.invokevirtual 40, 3) := by decide +kernel
theorem dX5_clearAll_25 : decode cX5_clearAll 25 = .ok (.aload_n 0, 1) := by decide +kernel
theorem dX5_clearAll_26 : decode cX5_clearAll 26 = .ok (.iconst 0, 1) := by decide +kernel
theorem dX5_clearAll_27 : decode cX5_clearAll 27 = .ok (.putfield 33, 3) := by decide +kernel
theorem dX5_clearAll_30 : decode cX5_clearAll 30 = .ok (.aload_n 0, 1) := by decide +kernel
theorem dX5_clearAll_31 : decode cX5_clearAll 31 = .ok (.iconst 0, 1) := by decide +kernel
theorem dX5_clearAll_32 : decode cX5_clearAll 32 = .ok (.putfield 37, 3) := by decide +kernel
theorem dX5_clearAll_35 : decode cX5_clearAll 35 = .ok (.return_, 1) := by decide +kernel
theorem dX5_clearHours_0 : decode cX5_clearHours 0 = .ok (.iconst 0, 1) := by decide +kernel
theorem dX5_clearHours_1 : decode cX5_clearHours 1 = .ok (.istore_n 1, 1) := by decide +kernel
theorem dX5_clearHours_2 : decode cX5_clearHours 2 = .ok (.iload_n 1, 1) := by decide +kernel
theorem dX5_clearHours_3 : decode cX5_clearHours 3 = .ok (.bipush 6, 2) := by decide +kernel
theorem dX5_clearHours_5 : decode cX5_clearHours 5 = .ok (.if_icmp .ge 16, 3) := by decide +kernel
theorem dX5_clearHours_8 : decode cX5_clearHours 8 = .ok (.aload_n 0, 1) := by decide +kernel
theorem dX5_clearHours_9 : decode cX5_clearHours 9 = .ok (.getfield 15, 3) := by decide +kernel
theorem dX5_clearHours_12 : decode cX5_clearHours 12 = .ok (.iload_n 1, 1) := by decide +kernel
theorem dX5_clearHours_13 : decode cX5_clearHours 13 = .ok (.iconst 0, 1) := by decide +kernel
theorem dX5_clearHours_14 : decode cX5_clearHours 14 = .ok (.iastore, 1) := by decide +kernel
theorem dX5_clearHours_15 : decode cX5_clearHours 15 = .ok (.iinc 1 1, 3) := by decide +kernel
theorem dX5_clearHours_18 : decode cX5_clearHours 18 = .ok (.goto (-16), 3) := by decide +kernel
theorem dX5_clearHours_21 : decode cX5_clearHours 21 = .ok (.return_, 1) := by decide +kernel
theorem dX5_placeOf_0 : decode cX5_placeOf 0 = .ok (.iconst 0, 1) := by decide +kernel
theorem dX5_placeOf_1 : decode cX5_placeOf 1 = .ok (.istore_n 2, 1) := by decide +kernel
theorem dX5_placeOf_2 : decode cX5_placeOf 2 = .ok (.iload_n 2, 1) := by decide +kernel
theorem dX5_placeOf_3 : decode cX5_placeOf 3 = .ok (.aload_n 0, 1) := by decide +kernel
theorem dX5_placeOf_4 : decode cX5_placeOf 4 = .ok (.getfield 33, 3) := by decide +kernel
theorem dX5_placeOf_7 : decode cX5_placeOf 7 = .ok (.if_icmp .ge 21, 3) := by decide +kernel
theorem dX5_placeOf_10 : decode cX5_placeOf 10 = .ok (.aload_n 0, 1) := by decide +kernel
theorem dX5_placeOf_11 : decode cX5_placeOf 11 = .ok (.getfield 9, 3) := by decide +kernel
theorem dX5_placeOf_14 : decode cX5_placeOf 14 = .ok (.iload_n 2, 1) := by decide +kernel
theorem dX5_placeOf_15 : decode cX5_placeOf 15 = .ok (.iaload, 1) := by decide +kernel
theorem dX5_placeOf_16 : decode cX5_placeOf 16 = .ok (.iload_n 1, 1) := by decide +kernel
theorem dX5_placeOf_17 : decode cX5_placeOf 17 = .ok (.if_icmp .ne 5, 3) := by decide +kernel
theorem dX5_placeOf_20 : decode cX5_placeOf 20 = .ok (.iload_n 2, 1) := by decide +kernel
theorem dX5_placeOf_21 : decode cX5_placeOf 21 = .ok (.ireturn, 1) := by decide +kernel
theorem dX5_placeOf_22 : decode cX5_placeOf 22 = .ok (.iinc 2 1, 3) := by decide +kernel
theorem dX5_placeOf_25 : decode cX5_placeOf 25 = .ok (.goto (-23), 3) := by decide +kernel
theorem dX5_placeOf_28 : decode cX5_placeOf 28 = .ok (.bipush (-9), 2) := by decide +kernel
theorem dX5_placeOf_30 : decode cX5_placeOf 30 = .ok (.ireturn, 1) := by decide +kernel
theorem dX5_isAt_0 : decode cX5_isAt 0 = .ok (.iload_n 1, 1) := by decide +kernel
theorem dX5_isAt_1 : decode cX5_isAt 1 = .ok (.ifCond .lt 25, 3) := by decide +kernel
theorem dX5_isAt_4 : decode cX5_isAt 4 = .ok (.iload_n 1, 1) := by decide +kernel
theorem dX5_isAt_5 : decode cX5_isAt 5 = .ok (.aload_n 0, 1) := by decide +kernel
theorem dX5_isAt_6 : decode cX5_isAt 6 = .ok (.getfield 33, 3) := by decide +kernel
theorem dX5_isAt_9 : decode cX5_isAt 9 = .ok (.if_icmp .ge 17, 3) := by decide +kernel
theorem dX5_isAt_12 : decode cX5_isAt 12 = .ok (.aload_n 0, 1) := by decide +kernel
theorem dX5_isAt_13 : decode cX5_isAt 13 = .ok (.getfield 9, 3) := by decide +kernel
theorem dX5_isAt_16 : decode cX5_isAt 16 = .ok (.iload_n 1, 1) := by decide +kernel
theorem dX5_isAt_17 : decode cX5_isAt 17 = .ok (.iaload, 1) := by decide +kernel
theorem dX5_isAt_18 : decode cX5_isAt 18 = .ok (.iload_n 2, 1) := by decide +kernel
theorem dX5_isAt_19 : decode cX5_isAt 19 = .ok (.if_icmp .ne 7, 3) := by decide +kernel
theorem dX5_isAt_22 : decode cX5_isAt 22 = .ok (.iconst 1, 1) := by decide +kernel
theorem dX5_isAt_23 : decode cX5_isAt 23 = .ok (.goto 4, 3) := by decide +kernel
theorem dX5_isAt_26 : decode cX5_isAt 26 = .ok (.iconst 0, 1) := by decide +kernel
theorem dX5_isAt_27 : decode cX5_isAt 27 = .ok (.ireturn, 1) := by decide +kernel
theorem dX5_turn_0 : decode cX5_turn 0 = .ok (.iload_n 1, 1) := by decide +kernel
theorem dX5_turn_1 : decode cX5_turn 1 = .ok (.ifCond .lt 43, 3) := by decide +kernel
theorem dX5_turn_4 : decode cX5_turn 4 = .ok (.iload_n 1, 1) := by decide +kernel
theorem dX5_turn_5 : decode cX5_turn 5 = .ok (.iconst 1, 1) := by decide +kernel
theorem dX5_turn_6 : decode cX5_turn 6 = .ok (.iadd, 1) := by decide +kernel
theorem dX5_turn_7 : decode cX5_turn 7 = .ok (.aload_n 0, 1) := by decide +kernel
theorem dX5_turn_8 : decode cX5_turn 8 = .ok (.getfield 33, 3) := by decide +kernel
theorem dX5_turn_11 : decode cX5_turn 11 = .ok (.if_icmp .ge 33, 3) := by decide +kernel
theorem dX5_turn_14 : decode cX5_turn 14 = .ok (.aload_n 0, 1) := by decide +kernel
theorem dX5_turn_15 : decode cX5_turn 15 = .ok (.getfield 9, 3) := by decide +kernel
theorem dX5_turn_18 : decode cX5_turn 18 = .ok (.iload_n 1, 1) := by decide +kernel
theorem dX5_turn_19 : decode cX5_turn 19 = .ok (.iaload, 1) := by decide +kernel
theorem dX5_turn_20 : decode cX5_turn 20 = .ok (.istore_n 2, 1) := by decide +kernel
theorem dX5_turn_21 : decode cX5_turn 21 = .ok (.aload_n 0, 1) := by decide +kernel
theorem dX5_turn_22 : decode cX5_turn 22 = .ok (.getfield 9, 3) := by decide +kernel
theorem dX5_turn_25 : decode cX5_turn 25 = .ok (.iload_n 1, 1) := by decide +kernel
theorem dX5_turn_26 : decode cX5_turn 26 = .ok (.aload_n 0, 1) := by decide +kernel
theorem dX5_turn_27 : decode cX5_turn 27 = .ok (.getfield 9, 3) := by decide +kernel
theorem dX5_turn_30 : decode cX5_turn 30 = .ok (.iload_n 1, 1) := by decide +kernel
theorem dX5_turn_31 : decode cX5_turn 31 = .ok (.iconst 1, 1) := by decide +kernel
theorem dX5_turn_32 : decode cX5_turn 32 = .ok (.iadd, 1) := by decide +kernel
theorem dX5_turn_33 : decode cX5_turn 33 = .ok (.iaload, 1) := by decide +kernel
theorem dX5_turn_34 : decode cX5_turn 34 = .ok (.iastore, 1) := by decide +kernel
theorem dX5_turn_35 : decode cX5_turn 35 = .ok (.aload_n 0, 1) := by decide +kernel
theorem dX5_turn_36 : decode cX5_turn 36 = .ok (.getfield 9, 3) := by decide +kernel
theorem dX5_turn_39 : decode cX5_turn 39 = .ok (.iload_n 1, 1) := by decide +kernel
theorem dX5_turn_40 : decode cX5_turn 40 = .ok (.iconst 1, 1) := by decide +kernel
theorem dX5_turn_41 : decode cX5_turn 41 = .ok (.iadd, 1) := by decide +kernel
theorem dX5_turn_42 : decode cX5_turn 42 = .ok (.iload_n 2, 1) := by decide +kernel
theorem dX5_turn_43 : decode cX5_turn 43 = .ok (.iastore, 1) := by decide +kernel
theorem dX5_turn_44 : decode cX5_turn 44 = .ok (.return_, 1) := by decide +kernel
theorem dX5_figures_0 : decode cX5_figures 0 = .ok (.iconst 0, 1) := by decide +kernel
theorem dX5_figures_1 : decode cX5_figures 1 = .ok (.istore_n 1, 1) := by decide +kernel
theorem dX5_figures_2 : decode cX5_figures 2 = .ok (.iconst 0, 1) := by decide +kernel
theorem dX5_figures_3 : decode cX5_figures 3 = .ok (.istore_n 2, 1) := by decide +kernel
theorem dX5_figures_4 : decode cX5_figures 4 = .ok (.iload_n 2, 1) := by decide +kernel
theorem dX5_figures_5 : decode cX5_figures 5 = .ok (.aload_n 0, 1) := by decide +kernel
theorem dX5_figures_6 : decode cX5_figures 6 = .ok (.getfield 33, 3) := by decide +kernel
theorem dX5_figures_9 : decode cX5_figures 9 = .ok (.if_icmp .ge 23, 3) := by decide +kernel
theorem dX5_figures_12 : decode cX5_figures 12 = .ok (.bipush 10, 2) := by decide +kernel
theorem dX5_figures_14 : decode cX5_figures 14 = .ok (.iload_n 1, 1) := by decide +kernel
theorem dX5_figures_15 : decode cX5_figures 15 = .ok (.imul, 1) := by decide +kernel
theorem dX5_figures_16 : decode cX5_figures 16 = .ok (.aload_n 0, 1) := by decide +kernel
theorem dX5_figures_17 : decode cX5_figures 17 = .ok (.getfield 9, 3) := by decide +kernel
theorem dX5_figures_20 : decode cX5_figures 20 = .ok (.iload_n 2, 1) := by decide +kernel
theorem dX5_figures_21 : decode cX5_figures 21 = .ok (.iaload, 1) := by decide +kernel
theorem dX5_figures_22 : decode cX5_figures 22 = .ok (.iadd, 1) := by decide +kernel
theorem dX5_figures_23 : decode cX5_figures 23 = .ok (.iconst 1, 1) := by decide +kernel
theorem dX5_figures_24 : decode cX5_figures 24 = .ok (.iadd, 1) := by decide +kernel
theorem dX5_figures_25 : decode cX5_figures 25 = .ok (.istore_n 1, 1) := by decide +kernel
theorem dX5_figures_26 : decode cX5_figures 26 = .ok (.iinc 2 1, 3) := by decide +kernel
theorem dX5_figures_29 : decode cX5_figures 29 = .ok (.goto (-25), 3) := by decide +kernel
theorem dX5_figures_32 : decode cX5_figures 32 = .ok (.iload_n 1, 1) := by decide +kernel
theorem dX5_figures_33 : decode cX5_figures 33 = .ok (.ireturn, 1) := by decide +kernel
theorem dX5_greatestHour_0 : decode cX5_greatestHour 0 = .ok (.iconst 0, 1) := by decide +kernel
theorem dX5_greatestHour_1 : decode cX5_greatestHour 1 = .ok (.istore_n 1, 1) := by decide +kernel
theorem dX5_greatestHour_2 : decode cX5_greatestHour 2 = .ok (.iconst 0, 1) := by decide +kernel
theorem dX5_greatestHour_3 : decode cX5_greatestHour 3 = .ok (.istore_n 2, 1) := by decide +kernel
theorem dX5_greatestHour_4 : decode cX5_greatestHour 4 = .ok (.iload_n 2, 1) := by decide +kernel
theorem dX5_greatestHour_5 : decode cX5_greatestHour 5 = .ok (.aload_n 0, 1) := by decide +kernel
theorem dX5_greatestHour_6 : decode cX5_greatestHour 6 = .ok (.getfield 33, 3) := by decide +kernel
theorem dX5_greatestHour_9 : decode cX5_greatestHour 9 = .ok (.if_icmp .ge 25, 3) := by decide +kernel
theorem dX5_greatestHour_12 : decode cX5_greatestHour 12 = .ok (.iload_n 1, 1) := by decide +kernel
theorem dX5_greatestHour_13 : decode cX5_greatestHour 13 = .ok (.aload_n 0, 1) := by decide +kernel
theorem dX5_greatestHour_14 : decode cX5_greatestHour 14 = .ok (.getfield 15, 3) := by decide +kernel
theorem dX5_greatestHour_17 : decode cX5_greatestHour 17 = .ok (.aload_n 0, 1) := by decide +kernel
theorem dX5_greatestHour_18 : decode cX5_greatestHour 18 = .ok (.getfield 9, 3) := by decide +kernel
theorem dX5_greatestHour_21 : decode cX5_greatestHour 21 = .ok (.iload_n 2, 1) := by decide +kernel
theorem dX5_greatestHour_22 : decode cX5_greatestHour 22 = .ok (.iaload, 1) := by decide +kernel
theorem dX5_greatestHour_23 : decode cX5_greatestHour 23 = .ok (.iaload, 1) := by decide +kernel
theorem dX5_greatestHour_24 : decode cX5_greatestHour 24 = .ok (.invokestatic 43, 3) := by decide +kernel
theorem dX5_greatestHour_27 : decode cX5_greatestHour 27 = .ok (.istore_n 1, 1) := by decide +kernel
theorem dX5_greatestHour_28 : decode cX5_greatestHour 28 = .ok (.iinc 2 1, 3) := by decide +kernel
theorem dX5_greatestHour_31 : decode cX5_greatestHour 31 = .ok (.goto (-27), 3) := by decide +kernel
theorem dX5_greatestHour_34 : decode cX5_greatestHour 34 = .ok (.iload_n 1, 1) := by decide +kernel
theorem dX5_greatestHour_35 : decode cX5_greatestHour 35 = .ok (.ireturn, 1) := by decide +kernel
theorem dX5_loadsOf_0 : decode cX5_loadsOf 0 = .ok (.aload_n 0, 1) := by decide +kernel
theorem dX5_loadsOf_1 : decode cX5_loadsOf 1 = .ok (.getfield 24, 3) := by decide +kernel
theorem dX5_loadsOf_4 : decode cX5_loadsOf 4 = .ok (.iload_n 2, 1) := by decide +kernel
theorem dX5_loadsOf_5 : decode cX5_loadsOf 5 = .ok (.bipush 6, 2) := by decide +kernel
theorem dX5_loadsOf_7 : decode cX5_loadsOf 7 = .ok (.imul, 1) := by decide +kernel
theorem dX5_loadsOf_8 : decode cX5_loadsOf 8 = .ok (.iload_n 1, 1) := by decide +kernel
theorem dX5_loadsOf_9 : decode cX5_loadsOf 9 = .ok (.iadd, 1) := by decide +kernel
theorem dX5_loadsOf_10 : decode cX5_loadsOf 10 = .ok (.iaload, 1) := by decide +kernel
theorem dX5_loadsOf_11 : decode cX5_loadsOf 11 = .ok (.ireturn, 1) := by decide +kernel
theorem dX5_addLoads_0 : decode cX5_addLoads 0 = .ok (.aload_n 0, 1) := by decide +kernel
theorem dX5_addLoads_1 : decode cX5_addLoads 1 = .ok (.getfield 24, 3) := by decide +kernel
theorem dX5_addLoads_4 : decode cX5_addLoads 4 = .ok (.iload_n 2, 1) := by decide +kernel
theorem dX5_addLoads_5 : decode cX5_addLoads 5 = .ok (.bipush 6, 2) := by decide +kernel
theorem dX5_addLoads_7 : decode cX5_addLoads 7 = .ok (.imul, 1) := by decide +kernel
theorem dX5_addLoads_8 : decode cX5_addLoads 8 = .ok (.iload_n 1, 1) := by decide +kernel
theorem dX5_addLoads_9 : decode cX5_addLoads 9 = .ok (.iadd, 1) := by decide +kernel
theorem dX5_addLoads_10 : decode cX5_addLoads 10 = .ok (.dup2, 1) := by decide +kernel
theorem dX5_addLoads_11 : decode cX5_addLoads 11 = .ok (.iaload, 1) := by decide +kernel
theorem dX5_addLoads_12 : decode cX5_addLoads 12 = .ok (.iload_n 3, 1) := by decide +kernel
theorem dX5_addLoads_13 : decode cX5_addLoads 13 = .ok (.iadd, 1) := by decide +kernel
theorem dX5_addLoads_14 : decode cX5_addLoads 14 = .ok (.iastore, 1) := by decide +kernel
theorem dX5_addLoads_15 : decode cX5_addLoads 15 = .ok (.return_, 1) := by decide +kernel
theorem dX5_loadsAt_0 : decode cX5_loadsAt 0 = .ok (.iconst 0, 1) := by decide +kernel
theorem dX5_loadsAt_1 : decode cX5_loadsAt 1 = .ok (.istore_n 2, 1) := by decide +kernel
theorem dX5_loadsAt_2 : decode cX5_loadsAt 2 = .ok (.iconst 0, 1) := by decide +kernel
theorem dX5_loadsAt_3 : decode cX5_loadsAt 3 = .ok (.istore_n 3, 1) := by decide +kernel
theorem dX5_loadsAt_4 : decode cX5_loadsAt 4 = .ok (.iload_n 3, 1) := by decide +kernel
theorem dX5_loadsAt_5 : decode cX5_loadsAt 5 = .ok (.bipush 6, 2) := by decide +kernel
theorem dX5_loadsAt_7 : decode cX5_loadsAt 7 = .ok (.if_icmp .ge 18, 3) := by decide +kernel
theorem dX5_loadsAt_10 : decode cX5_loadsAt 10 = .ok (.iload_n 2, 1) := by decide +kernel
theorem dX5_loadsAt_11 : decode cX5_loadsAt 11 = .ok (.aload_n 0, 1) := by decide +kernel
theorem dX5_loadsAt_12 : decode cX5_loadsAt 12 = .ok (.iload_n 3, 1) := by decide +kernel
theorem dX5_loadsAt_13 : decode cX5_loadsAt 13 = .ok (.iload_n 1, 1) := by decide +kernel
theorem dX5_loadsAt_14 : decode cX5_loadsAt 14 = .ok (.invokevirtual 49, 3) := by decide +kernel
theorem dX5_loadsAt_17 : decode cX5_loadsAt 17 = .ok (.iadd, 1) := by decide +kernel
theorem dX5_loadsAt_18 : decode cX5_loadsAt 18 = .ok (.istore_n 2, 1) := by decide +kernel
theorem dX5_loadsAt_19 : decode cX5_loadsAt 19 = .ok (.iinc 3 1, 3) := by decide +kernel
theorem dX5_loadsAt_22 : decode cX5_loadsAt 22 = .ok (.goto (-18), 3) := by decide +kernel
theorem dX5_loadsAt_25 : decode cX5_loadsAt 25 = .ok (.iload_n 2, 1) := by decide +kernel
theorem dX5_loadsAt_26 : decode cX5_loadsAt 26 = .ok (.ireturn, 1) := by decide +kernel
theorem dX6_init_0 : decode cX6_init 0 = .ok (.aload_n 0, 1) := by decide +kernel
theorem dX6_init_1 : decode cX6_init 1 = .ok (.invokespecial 3, 3) := by decide +kernel
theorem dX6_init_4 : decode cX6_init 4 = .ok (.aload_n 0, 1) := by decide +kernel
theorem dX6_init_5 : decode cX6_init 5 = .ok (.bipush 40, 2) := by decide +kernel
theorem dX6_init_7 : decode cX6_init 7 = .ok (.newarray .int, 2) := by decide +kernel
theorem dX6_init_9 : decode cX6_init 9 = .ok (.putfield 9, 3) := by decide +kernel
theorem dX6_init_12 : decode cX6_init 12 = .ok (.return_, 1) := by decide +kernel
theorem dX6_append_0 : decode cX6_append 0 = .ok (.aload_n 0, 1) := by decide +kernel
theorem dX6_append_1 : decode cX6_append 1 = .ok (.getfield 15, 3) := by decide +kernel
theorem dX6_append_4 : decode cX6_append 4 = .ok (.bipush 40, 2) := by decide +kernel
theorem dX6_append_6 : decode cX6_append 6 = .ok (.if_icmp .ge 23, 3) := by decide +kernel
theorem dX6_append_9 : decode cX6_append 9 = .ok (.aload_n 0, 1) := by decide +kernel
theorem dX6_append_10 : decode cX6_append 10 = .ok (.getfield 9, 3) := by decide +kernel
theorem dX6_append_13 : decode cX6_append 13 = .ok (.aload_n 0, 1) := by decide +kernel
theorem dX6_append_14 : decode cX6_append 14 = .ok (.getfield 15, 3) := by decide +kernel
theorem dX6_append_17 : decode cX6_append 17 = .ok (.iload_n 1, 1) := by decide +kernel
theorem dX6_append_18 : decode cX6_append 18 = .ok (.iastore, 1) := by decide +kernel
theorem dX6_append_19 : decode cX6_append 19 = .ok (.aload_n 0, 1) := by decide +kernel
theorem dX6_append_20 : decode cX6_append 20 = .ok (.dup, 1) := by decide +kernel
theorem dX6_append_21 : decode cX6_append 21 = .ok (.getfield 15, 3) := by decide +kernel
theorem dX6_append_24 : decode cX6_append 24 = .ok (.iconst 1, 1) := by decide +kernel
theorem dX6_append_25 : decode cX6_append 25 = .ok (.iadd, 1) := by decide +kernel
theorem dX6_append_26 : decode cX6_append 26 = .ok (.putfield 15, 3) := by decide +kernel
theorem dX6_append_29 : decode cX6_append 29 = .ok (.return_, 1) := by decide +kernel
theorem dX6_faultPlace_0 : decode cX6_faultPlace 0 = .ok (.iconst 0, 1) := by decide +kernel
theorem dX6_faultPlace_1 : decode cX6_faultPlace 1 = .ok (.istore_n 1, 1) := by decide +kernel
theorem dX6_faultPlace_2 : decode cX6_faultPlace 2 = .ok (.iconst 0, 1) := by decide +kernel
theorem dX6_faultPlace_3 : decode cX6_faultPlace 3 = .ok (.istore_n 2, 1) := by decide +kernel
theorem dX6_faultPlace_4 : decode cX6_faultPlace 4 = .ok (.iconst 0, 1) := by decide +kernel
theorem dX6_faultPlace_5 : decode cX6_faultPlace 5 = .ok (.istore_n 3, 1) := by decide +kernel
theorem dX6_faultPlace_6 : decode cX6_faultPlace 6 = .ok (.iconst 0, 1) := by decide +kernel
theorem dX6_faultPlace_7 : decode cX6_faultPlace 7 = .ok (.istore 4, 2) := by decide +kernel
theorem dX6_faultPlace_9 : decode cX6_faultPlace 9 = .ok (.iload 4, 2) := by decide +kernel
theorem dX6_faultPlace_11 : decode cX6_faultPlace 11 = .ok (.aload_n 0, 1) := by decide +kernel
theorem dX6_faultPlace_12 : decode cX6_faultPlace 12 = .ok (.getfield 15, 3) := by decide +kernel
theorem dX6_faultPlace_15 : decode cX6_faultPlace 15 = .ok (.if_icmp .ge 75, 3) := by decide +kernel
theorem dX6_faultPlace_18 : decode cX6_faultPlace 18 = .ok (.aload_n 0, 1) := by decide +kernel
theorem dX6_faultPlace_19 : decode cX6_faultPlace 19 = .ok (.getfield 9, 3) := by decide +kernel
theorem dX6_faultPlace_22 : decode cX6_faultPlace 22 = .ok (.iload 4, 2) := by decide +kernel
theorem dX6_faultPlace_24 : decode cX6_faultPlace 24 = .ok (.iaload, 1) := by decide +kernel
theorem dX6_faultPlace_25 : decode cX6_faultPlace 25 = .ok (.istore 5, 2) := by decide +kernel
theorem dX6_faultPlace_27 : decode cX6_faultPlace 27 = .ok (.iload_n 1, 1) := by decide +kernel
theorem dX6_faultPlace_28 : decode cX6_faultPlace 28 = .ok (.iload 5, 2) := by decide +kernel
theorem dX6_faultPlace_30 : decode cX6_faultPlace 30 = .ok (.invokestatic 19, 3) := by decide +kernel
theorem dX6_faultPlace_33 : decode cX6_faultPlace 33 = .ok (.istore_n 1, 1) := by decide +kernel
theorem dX6_faultPlace_34 : decode cX6_faultPlace 34 = .ok (.iload_n 2, 1) := by decide +kernel
theorem dX6_faultPlace_35 : decode cX6_faultPlace 35 = .ok (.iload 5, 2) := by decide +kernel
theorem dX6_faultPlace_37 : decode cX6_faultPlace 37 = .ok (.bipush 75, 2) := by decide +kernel
theorem dX6_faultPlace_39 : decode cX6_faultPlace 39 = .ok (.if_icmp .ne 7, 3) := by decide +kernel
theorem dX6_faultPlace_42 : decode cX6_faultPlace 42 = .ok (.iconst 1, 1) := by decide +kernel
theorem dX6_faultPlace_43 : decode cX6_faultPlace 43 = .ok (.goto 4, 3) := by decide +kernel
theorem dX6_faultPlace_46 : decode cX6_faultPlace 46 = .ok (.iconst 0, 1) := by decide +kernel
theorem dX6_faultPlace_47 : decode cX6_faultPlace 47 = .ok (.iadd, 1) := by decide +kernel
theorem dX6_faultPlace_48 : decode cX6_faultPlace 48 = .ok (.istore_n 2, 1) := by decide +kernel
theorem dX6_faultPlace_49 : decode cX6_faultPlace 49 = .ok (.iload_n 3, 1) := by decide +kernel
theorem dX6_faultPlace_50 : decode cX6_faultPlace 50 = .ok (.iload 5, 2) := by decide +kernel
theorem dX6_faultPlace_52 : decode cX6_faultPlace 52 = .ok (.bipush 66, 2) := by decide +kernel
theorem dX6_faultPlace_54 : decode cX6_faultPlace 54 = .ok (.if_icmp .ne 7, 3) := by decide +kernel
theorem dX6_faultPlace_57 : decode cX6_faultPlace 57 = .ok (.iconst 1, 1) := by decide +kernel
theorem dX6_faultPlace_58 : decode cX6_faultPlace 58 = .ok (.goto 4, 3) := by decide +kernel
theorem dX6_faultPlace_61 : decode cX6_faultPlace 61 = .ok (.iconst 0, 1) := by decide +kernel
theorem dX6_faultPlace_62 : decode cX6_faultPlace 62 = .ok (.iadd, 1) := by decide +kernel
theorem dX6_faultPlace_63 : decode cX6_faultPlace 63 = .ok (.istore_n 3, 1) := by decide +kernel
theorem dX6_faultPlace_64 : decode cX6_faultPlace 64 = .ok (.iload_n 1, 1) := by decide +kernel
theorem dX6_faultPlace_65 : decode cX6_faultPlace 65 = .ok (.bipush 6, 2) := by decide +kernel
theorem dX6_faultPlace_67 : decode cX6_faultPlace 67 = .ok (.if_icmp .eq 14, 3) := by decide +kernel
theorem dX6_faultPlace_70 : decode cX6_faultPlace 70 = .ok (.iload_n 2, 1) := by decide +kernel
theorem dX6_faultPlace_71 : decode cX6_faultPlace 71 = .ok (.iconst 5, 1) := by decide +kernel
theorem dX6_faultPlace_72 : decode cX6_faultPlace 72 = .ok (.if_icmp .gt 9, 3) := by decide +kernel
theorem dX6_faultPlace_75 : decode cX6_faultPlace 75 = .ok (.iload_n 3, 1) := by decide +kernel
theorem dX6_faultPlace_76 : decode cX6_faultPlace 76 = .ok (.bipush 6, 2) := by decide +kernel
theorem dX6_faultPlace_78 : decode cX6_faultPlace 78 = .ok (.if_icmp .le 6, 3) := by decide +kernel
theorem dX6_faultPlace_81 : decode cX6_faultPlace 81 = .ok (.iload 4, 2) := by decide +kernel
theorem dX6_faultPlace_83 : decode cX6_faultPlace 83 = .ok (.ireturn, 1) := by decide +kernel
theorem dX6_faultPlace_84 : decode cX6_faultPlace 84 = .ok (.iinc 4 1, 3) := by decide +kernel
theorem dX6_faultPlace_87 : decode cX6_faultPlace 87 = .ok (.goto (-78), 3) := by decide +kernel
theorem dX6_faultPlace_90 : decode cX6_faultPlace 90 = .ok (.iload_n 1, 1) := by decide +kernel
theorem dX6_faultPlace_91 : decode cX6_faultPlace 91 = .ok (.iconst 1, 1) := by decide +kernel
theorem dX6_faultPlace_92 : decode cX6_faultPlace 92 = .ok (.if_icmp .ne 8, 3) := by decide +kernel
theorem dX6_faultPlace_95 : decode cX6_faultPlace 95 = .ok (.bipush (-9), 2) := by decide +kernel
theorem dX6_faultPlace_97 : decode cX6_faultPlace 97 = .ok (.goto 7, 3) := by decide +kernel
theorem dX6_faultPlace_100 : decode cX6_faultPlace 100 = .ok (.aload_n 0, 1) := by decide +kernel
theorem dX6_faultPlace_101 : decode cX6_faultPlace 101 = .ok (.getfield 15, 3) := by decide +kernel
theorem dX6_faultPlace_104 : decode cX6_faultPlace 104 = .ok (.ireturn, 1) := by decide +kernel
theorem dX6_dueBehind_0 : decode cX6_dueBehind 0 = .ok (.iload_n 0, 1) := by decide +kernel
theorem dX6_dueBehind_1 : decode cX6_dueBehind 1 = .ok (.tableswitch 151 0 5 #[39, 52, 75, 94, 113, 132], 39) := by decide +kernel
theorem dX6_dueBehind_40 : decode cX6_dueBehind 40 = .ok (.iload_n 1, 1) := by decide +kernel
theorem dX6_dueBehind_41 : decode cX6_dueBehind 41 = .ok (.bipush 67, 2) := by decide +kernel
theorem dX6_dueBehind_43 : decode cX6_dueBehind 43 = .ok (.if_icmp .ne 7, 3) := by decide +kernel
theorem dX6_dueBehind_46 : decode cX6_dueBehind 46 = .ok (.iconst 1, 1) := by decide +kernel
theorem dX6_dueBehind_47 : decode cX6_dueBehind 47 = .ok (.goto 5, 3) := by decide +kernel
theorem dX6_dueBehind_50 : decode cX6_dueBehind 50 = .ok (.bipush 6, 2) := by decide +kernel
theorem dX6_dueBehind_52 : decode cX6_dueBehind 52 = .ok (.ireturn, 1) := by decide +kernel
theorem dX6_dueBehind_53 : decode cX6_dueBehind 53 = .ok (.iload_n 1, 1) := by decide +kernel
theorem dX6_dueBehind_54 : decode cX6_dueBehind 54 = .ok (.bipush 75, 2) := by decide +kernel
theorem dX6_dueBehind_56 : decode cX6_dueBehind 56 = .ok (.if_icmp .ne 7, 3) := by decide +kernel
theorem dX6_dueBehind_59 : decode cX6_dueBehind 59 = .ok (.iconst 2, 1) := by decide +kernel
theorem dX6_dueBehind_60 : decode cX6_dueBehind 60 = .ok (.goto 15, 3) := by decide +kernel
theorem dX6_dueBehind_63 : decode cX6_dueBehind 63 = .ok (.iload_n 1, 1) := by decide +kernel
theorem dX6_dueBehind_64 : decode cX6_dueBehind 64 = .ok (.bipush 66, 2) := by decide +kernel
theorem dX6_dueBehind_66 : decode cX6_dueBehind 66 = .ok (.if_icmp .ne 7, 3) := by decide +kernel
theorem dX6_dueBehind_69 : decode cX6_dueBehind 69 = .ok (.iconst 3, 1) := by decide +kernel
theorem dX6_dueBehind_70 : decode cX6_dueBehind 70 = .ok (.goto 5, 3) := by decide +kernel
theorem dX6_dueBehind_73 : decode cX6_dueBehind 73 = .ok (.bipush 6, 2) := by decide +kernel
theorem dX6_dueBehind_75 : decode cX6_dueBehind 75 = .ok (.ireturn, 1) := by decide +kernel
theorem dX6_dueBehind_76 : decode cX6_dueBehind 76 = .ok (.iload_n 1, 1) := by decide +kernel
theorem dX6_dueBehind_77 : decode cX6_dueBehind 77 = .ok (.bipush 48, 2) := by decide +kernel
theorem dX6_dueBehind_79 : decode cX6_dueBehind 79 = .ok (.if_icmp .lt 13, 3) := by decide +kernel
theorem dX6_dueBehind_82 : decode cX6_dueBehind 82 = .ok (.iload_n 1, 1) := by decide +kernel
theorem dX6_dueBehind_83 : decode cX6_dueBehind 83 = .ok (.bipush 51, 2) := by decide +kernel
theorem dX6_dueBehind_85 : decode cX6_dueBehind 85 = .ok (.if_icmp .gt 7, 3) := by decide +kernel
theorem dX6_dueBehind_88 : decode cX6_dueBehind 88 = .ok (.iconst 1, 1) := by decide +kernel
theorem dX6_dueBehind_89 : decode cX6_dueBehind 89 = .ok (.goto 5, 3) := by decide +kernel
theorem dX6_dueBehind_92 : decode cX6_dueBehind 92 = .ok (.bipush 6, 2) := by decide +kernel
theorem dX6_dueBehind_94 : decode cX6_dueBehind 94 = .ok (.ireturn, 1) := by decide +kernel
theorem dX6_dueBehind_95 : decode cX6_dueBehind 95 = .ok (.iload_n 1, 1) := by decide +kernel
theorem dX6_dueBehind_96 : decode cX6_dueBehind 96 = .ok (.bipush 49, 2) := by decide +kernel
theorem dX6_dueBehind_98 : decode cX6_dueBehind 98 = .ok (.if_icmp .eq 9, 3) := by decide +kernel
theorem dX6_dueBehind_101 : decode cX6_dueBehind 101 = .ok (.iload_n 1, 1) := by decide +kernel
theorem dX6_dueBehind_102 : decode cX6_dueBehind 102 = .ok (.bipush 50, 2) := by decide +kernel
theorem dX6_dueBehind_104 : decode cX6_dueBehind 104 = .ok (.if_icmp .ne 7, 3) := by decide +kernel
theorem dX6_dueBehind_107 : decode cX6_dueBehind 107 = .ok (.iconst 4, 1) := by decide +kernel
theorem dX6_dueBehind_108 : decode cX6_dueBehind 108 = .ok (.goto 5, 3) := by decide +kernel
theorem dX6_dueBehind_111 : decode cX6_dueBehind 111 = .ok (.bipush 6, 2) := by decide +kernel
theorem dX6_dueBehind_113 : decode cX6_dueBehind 113 = .ok (.ireturn, 1) := by decide +kernel
theorem dX6_dueBehind_114 : decode cX6_dueBehind 114 = .ok (.iload_n 1, 1) := by decide +kernel
theorem dX6_dueBehind_115 : decode cX6_dueBehind 115 = .ok (.bipush 48, 2) := by decide +kernel
theorem dX6_dueBehind_117 : decode cX6_dueBehind 117 = .ok (.if_icmp .lt 13, 3) := by decide +kernel
theorem dX6_dueBehind_120 : decode cX6_dueBehind 120 = .ok (.iload_n 1, 1) := by decide +kernel
theorem dX6_dueBehind_121 : decode cX6_dueBehind 121 = .ok (.bipush 57, 2) := by decide +kernel
theorem dX6_dueBehind_123 : decode cX6_dueBehind 123 = .ok (.if_icmp .gt 7, 3) := by decide +kernel
theorem dX6_dueBehind_126 : decode cX6_dueBehind 126 = .ok (.iconst 5, 1) := by decide +kernel
theorem dX6_dueBehind_127 : decode cX6_dueBehind 127 = .ok (.goto 5, 3) := by decide +kernel
theorem dX6_dueBehind_130 : decode cX6_dueBehind 130 = .ok (.bipush 6, 2) := by decide +kernel
theorem dX6_dueBehind_132 : decode cX6_dueBehind 132 = .ok (.ireturn, 1) := by decide +kernel
theorem dX6_dueBehind_133 : decode cX6_dueBehind 133 = .ok (.iload_n 1, 1) := by decide +kernel
theorem dX6_dueBehind_134 : decode cX6_dueBehind 134 = .ok (.bipush 48, 2) := by decide +kernel
theorem dX6_dueBehind_136 : decode cX6_dueBehind 136 = .ok (.if_icmp .lt 13, 3) := by decide +kernel
theorem dX6_dueBehind_139 : decode cX6_dueBehind 139 = .ok (.iload_n 1, 1) := by decide +kernel
theorem dX6_dueBehind_140 : decode cX6_dueBehind 140 = .ok (.bipush 57, 2) := by decide +kernel
theorem dX6_dueBehind_142 : decode cX6_dueBehind 142 = .ok (.if_icmp .gt 7, 3) := by decide +kernel
theorem dX6_dueBehind_145 : decode cX6_dueBehind 145 = .ok (.iconst 1, 1) := by decide +kernel
theorem dX6_dueBehind_146 : decode cX6_dueBehind 146 = .ok (.goto 5, 3) := by decide +kernel
theorem dX6_dueBehind_149 : decode cX6_dueBehind 149 = .ok (.bipush 6, 2) := by decide +kernel
theorem dX6_dueBehind_151 : decode cX6_dueBehind 151 = .ok (.ireturn, 1) := by decide +kernel
theorem dX6_dueBehind_152 : decode cX6_dueBehind 152 = .ok (.bipush 6, 2) := by decide +kernel
theorem dX6_dueBehind_154 : decode cX6_dueBehind 154 = .ok (.ireturn, 1) := by decide +kernel
theorem dX6_figureAt_0 : decode cX6_figureAt 0 = .ok (.iload_n 1, 1) := by decide +kernel
theorem dX6_figureAt_1 : decode cX6_figureAt 1 = .ok (.ifCond .lt 23, 3) := by decide +kernel
theorem dX6_figureAt_4 : decode cX6_figureAt 4 = .ok (.iload_n 1, 1) := by decide +kernel
theorem dX6_figureAt_5 : decode cX6_figureAt 5 = .ok (.aload_n 0, 1) := by decide +kernel
theorem dX6_figureAt_6 : decode cX6_figureAt 6 = .ok (.getfield 15, 3) := by decide +kernel
theorem dX6_figureAt_9 : decode cX6_figureAt 9 = .ok (.if_icmp .ge 15, 3) := by decide +kernel
theorem dX6_figureAt_12 : decode cX6_figureAt 12 = .ok (.aload_n 0, 1) := by decide +kernel
theorem dX6_figureAt_13 : decode cX6_figureAt 13 = .ok (.getfield 9, 3) := by decide +kernel
theorem dX6_figureAt_16 : decode cX6_figureAt 16 = .ok (.iload_n 1, 1) := by decide +kernel
theorem dX6_figureAt_17 : decode cX6_figureAt 17 = .ok (.iaload, 1) := by decide +kernel
theorem dX6_figureAt_18 : decode cX6_figureAt 18 = .ok (.bipush 48, 2) := by decide +kernel
theorem dX6_figureAt_20 : decode cX6_figureAt 20 = .ok (.isub, 1) := by decide +kernel
theorem dX6_figureAt_21 : decode cX6_figureAt 21 = .ok (.goto 4, 3) := by decide +kernel
theorem dX6_figureAt_24 : decode cX6_figureAt 24 = .ok (.iconst 0, 1) := by decide +kernel
theorem dX6_figureAt_25 : decode cX6_figureAt 25 = .ok (.ireturn, 1) := by decide +kernel
theorem dJ6_bitCount_0f7a4_0 : decode cJ6_bitCount_0f7a4 0 = .ok (.iload_n 0, 1) := by decide +kernel
theorem dJ6_bitCount_0f7a4_1 : decode cJ6_bitCount_0f7a4 1 = .ok (.iload_n 0, 1) := by decide +kernel
theorem dJ6_bitCount_0f7a4_2 : decode cJ6_bitCount_0f7a4 2 = .ok (.iconst 1, 1) := by decide +kernel
theorem dJ6_bitCount_0f7a4_3 : decode cJ6_bitCount_0f7a4 3 = .ok (.iushr, 1) := by decide +kernel
theorem dJ6_bitCount_0f7a4_4 : decode cJ6_bitCount_0f7a4 4 = .ok (.ldc_w 265, 3) := by decide +kernel
theorem dJ6_bitCount_0f7a4_7 : decode cJ6_bitCount_0f7a4 7 = .ok (.iand, 1) := by decide +kernel
theorem dJ6_bitCount_0f7a4_8 : decode cJ6_bitCount_0f7a4 8 = .ok (.isub, 1) := by decide +kernel
theorem dJ6_bitCount_0f7a4_9 : decode cJ6_bitCount_0f7a4 9 = .ok (.istore_n 0, 1) := by decide +kernel
theorem dJ6_bitCount_0f7a4_10 : decode cJ6_bitCount_0f7a4 10 = .ok (.iload_n 0, 1) := by decide +kernel
theorem dJ6_bitCount_0f7a4_11 : decode cJ6_bitCount_0f7a4 11 = .ok (.ldc_w 266, 3) := by decide +kernel
theorem dJ6_bitCount_0f7a4_14 : decode cJ6_bitCount_0f7a4 14 = .ok (.iand, 1) := by decide +kernel
theorem dJ6_bitCount_0f7a4_15 : decode cJ6_bitCount_0f7a4 15 = .ok (.iload_n 0, 1) := by decide +kernel
theorem dJ6_bitCount_0f7a4_16 : decode cJ6_bitCount_0f7a4 16 = .ok (.iconst 2, 1) := by decide +kernel
theorem dJ6_bitCount_0f7a4_17 : decode cJ6_bitCount_0f7a4 17 = .ok (.iushr, 1) := by decide +kernel
theorem dJ6_bitCount_0f7a4_18 : decode cJ6_bitCount_0f7a4 18 = .ok (.ldc_w 266, 3) := by decide +kernel
theorem dJ6_bitCount_0f7a4_21 : decode cJ6_bitCount_0f7a4 21 = .ok (.iand, 1) := by decide +kernel
theorem dJ6_bitCount_0f7a4_22 : decode cJ6_bitCount_0f7a4 22 = .ok (.iadd, 1) := by decide +kernel
theorem dJ6_bitCount_0f7a4_23 : decode cJ6_bitCount_0f7a4 23 = .ok (.istore_n 0, 1) := by decide +kernel
theorem dJ6_bitCount_0f7a4_24 : decode cJ6_bitCount_0f7a4 24 = .ok (.iload_n 0, 1) := by decide +kernel
theorem dJ6_bitCount_0f7a4_25 : decode cJ6_bitCount_0f7a4 25 = .ok (.iload_n 0, 1) := by decide +kernel
theorem dJ6_bitCount_0f7a4_26 : decode cJ6_bitCount_0f7a4 26 = .ok (.iconst 4, 1) := by decide +kernel
theorem dJ6_bitCount_0f7a4_27 : decode cJ6_bitCount_0f7a4 27 = .ok (.iushr, 1) := by decide +kernel
theorem dJ6_bitCount_0f7a4_28 : decode cJ6_bitCount_0f7a4 28 = .ok (.iadd, 1) := by decide +kernel
theorem dJ6_bitCount_0f7a4_29 : decode cJ6_bitCount_0f7a4 29 = .ok (.ldc_w 267, 3) := by decide +kernel
theorem dJ6_bitCount_0f7a4_32 : decode cJ6_bitCount_0f7a4 32 = .ok (.iand, 1) := by decide +kernel
theorem dJ6_bitCount_0f7a4_33 : decode cJ6_bitCount_0f7a4 33 = .ok (.istore_n 0, 1) := by decide +kernel
theorem dJ6_bitCount_0f7a4_34 : decode cJ6_bitCount_0f7a4 34 = .ok (.iload_n 0, 1) := by decide +kernel
theorem dJ6_bitCount_0f7a4_35 : decode cJ6_bitCount_0f7a4 35 = .ok (.iload_n 0, 1) := by decide +kernel
theorem dJ6_bitCount_0f7a4_36 : decode cJ6_bitCount_0f7a4 36 = .ok (.bipush 8, 2) := by decide +kernel
theorem dJ6_bitCount_0f7a4_38 : decode cJ6_bitCount_0f7a4 38 = .ok (.iushr, 1) := by decide +kernel
theorem dJ6_bitCount_0f7a4_39 : decode cJ6_bitCount_0f7a4 39 = .ok (.iadd, 1) := by decide +kernel
theorem dJ6_bitCount_0f7a4_40 : decode cJ6_bitCount_0f7a4 40 = .ok (.istore_n 0, 1) := by decide +kernel
theorem dJ6_bitCount_0f7a4_41 : decode cJ6_bitCount_0f7a4 41 = .ok (.iload_n 0, 1) := by decide +kernel
theorem dJ6_bitCount_0f7a4_42 : decode cJ6_bitCount_0f7a4 42 = .ok (.iload_n 0, 1) := by decide +kernel
theorem dJ6_bitCount_0f7a4_43 : decode cJ6_bitCount_0f7a4 43 = .ok (.bipush 16, 2) := by decide +kernel
theorem dJ6_bitCount_0f7a4_45 : decode cJ6_bitCount_0f7a4 45 = .ok (.iushr, 1) := by decide +kernel
theorem dJ6_bitCount_0f7a4_46 : decode cJ6_bitCount_0f7a4 46 = .ok (.iadd, 1) := by decide +kernel
theorem dJ6_bitCount_0f7a4_47 : decode cJ6_bitCount_0f7a4 47 = .ok (.istore_n 0, 1) := by decide +kernel
theorem dJ6_bitCount_0f7a4_48 : decode cJ6_bitCount_0f7a4 48 = .ok (.iload_n 0, 1) := by decide +kernel
theorem dJ6_bitCount_0f7a4_49 : decode cJ6_bitCount_0f7a4 49 = .ok (.bipush 63, 2) := by decide +kernel
theorem dJ6_bitCount_0f7a4_51 : decode cJ6_bitCount_0f7a4 51 = .ok (.iand, 1) := by decide +kernel
theorem dJ6_bitCount_0f7a4_52 : decode cJ6_bitCount_0f7a4 52 = .ok (.ireturn, 1) := by decide +kernel
end
section
theorem dX7_init_0 : decode cX7_init 0 = .ok (.aload_n 0, 1) := by decide +kernel
theorem dX7_init_1 : decode cX7_init 1 = .ok (.invokespecial 1, 3) := by decide +kernel
theorem dX7_init_4 : decode cX7_init 4 = .ok (.aload_n 0, 1) := by decide +kernel
theorem dX7_init_5 : decode cX7_init 5 = .ok (.new 7, 3) := by decide +kernel
theorem dX7_init_8 : decode cX7_init 8 = .ok (.dup, 1) := by decide +kernel
theorem dX7_init_9 : decode cX7_init 9 = .ok (.invokespecial 9, 3) := by decide +kernel
theorem dX7_init_12 : decode cX7_init 12 = .ok (.putfield 10, 3) := by decide +kernel
theorem dX7_init_15 : decode cX7_init 15 = .ok (.aload_n 0, 1) := by decide +kernel
theorem dX7_init_16 : decode cX7_init 16 = .ok (.new 16, 3) := by decide +kernel
theorem dX7_init_19 : decode cX7_init 19 = .ok (.dup, 1) := by decide +kernel
theorem dX7_init_20 : decode cX7_init 20 = .ok (.invokespecial 18, 3) := by decide +kernel
theorem dX7_init_23 : decode cX7_init 23 = .ok (.putfield 19, 3) := by decide +kernel
theorem dX7_init_26 : decode cX7_init 26 = .ok (.aload_n 0, 1) := by decide +kernel
theorem dX7_init_27 : decode cX7_init 27 = .ok (.new 23, 3) := by decide +kernel
theorem dX7_init_30 : decode cX7_init 30 = .ok (.dup, 1) := by decide +kernel
theorem dX7_init_31 : decode cX7_init 31 = .ok (.invokespecial 25, 3) := by decide +kernel
theorem dX7_init_34 : decode cX7_init 34 = .ok (.putfield 26, 3) := by decide +kernel
theorem dX7_init_37 : decode cX7_init 37 = .ok (.aload_n 0, 1) := by decide +kernel
theorem dX7_init_38 : decode cX7_init 38 = .ok (.new 30, 3) := by decide +kernel
theorem dX7_init_41 : decode cX7_init 41 = .ok (.dup, 1) := by decide +kernel
theorem dX7_init_42 : decode cX7_init 42 = .ok (.invokespecial 32, 3) := by decide +kernel
theorem dX7_init_45 : decode cX7_init 45 = .ok (.putfield 33, 3) := by decide +kernel
theorem dX7_init_48 : decode cX7_init 48 = .ok (.aload_n 0, 1) := by decide +kernel
theorem dX7_init_49 : decode cX7_init 49 = .ok (.new 37, 3) := by decide +kernel
theorem dX7_init_52 : decode cX7_init 52 = .ok (.dup, 1) := by decide +kernel
theorem dX7_init_53 : decode cX7_init 53 = .ok (.invokespecial 39, 3) := by decide +kernel
theorem dX7_init_56 : decode cX7_init 56 = .ok (.putfield 40, 3) := by decide +kernel
theorem dX7_init_59 : decode cX7_init 59 = .ok (.aload_n 0, 1) := by decide +kernel
theorem dX7_init_60 : decode cX7_init 60 = .ok (.new 44, 3) := by decide +kernel
theorem dX7_init_63 : decode cX7_init 63 = .ok (.dup, 1) := by decide +kernel
theorem dX7_init_64 : decode cX7_init 64 = .ok (.invokespecial 46, 3) := by decide +kernel
theorem dX7_init_67 : decode cX7_init 67 = .ok (.putfield 47, 3) := by decide +kernel
theorem dX7_init_70 : decode cX7_init 70 = .ok (.return_, 1) := by decide +kernel
theorem dX7_write_0 : decode cX7_write 0 = .ok (.iload_n 1, 1) := by decide +kernel
theorem dX7_write_1 : decode cX7_write 1 = .ok (.ifCond .lt 10, 3) := by decide +kernel
theorem dX7_write_4 : decode cX7_write 4 = .ok (.iload_n 1, 1) := by decide +kernel
theorem dX7_write_5 : decode cX7_write 5 = .ok (.sipush 255, 3) := by decide +kernel
theorem dX7_write_8 : decode cX7_write 8 = .ok (.if_icmp .le 6, 3) := by decide +kernel
theorem dX7_write_11 : decode cX7_write 11 = .ok (.bipush (-2), 2) := by decide +kernel
theorem dX7_write_13 : decode cX7_write 13 = .ok (.ireturn, 1) := by decide +kernel
theorem dX7_write_14 : decode cX7_write 14 = .ok (.aload_n 0, 1) := by decide +kernel
theorem dX7_write_15 : decode cX7_write 15 = .ok (.getfield 10, 3) := by decide +kernel
theorem dX7_write_18 : decode cX7_write 18 = .ok (.getfield 51, 3) := by decide +kernel
theorem dX7_write_21 : decode cX7_write 21 = .ok (.bipush 40, 2) := by decide +kernel
theorem dX7_write_23 : decode cX7_write 23 = .ok (.if_icmp .lt 6, 3) := by decide +kernel
theorem dX7_write_26 : decode cX7_write 26 = .ok (.bipush (-4), 2) := by decide +kernel
theorem dX7_write_28 : decode cX7_write 28 = .ok (.ireturn, 1) := by decide +kernel
theorem dX7_write_29 : decode cX7_write 29 = .ok (.aload_n 0, 1) := by decide +kernel
theorem dX7_write_30 : decode cX7_write 30 = .ok (.getfield 10, 3) := by decide +kernel
theorem dX7_write_33 : decode cX7_write 33 = .ok (.iload_n 1, 1) := by decide +kernel
theorem dX7_write_34 : decode cX7_write 34 = .ok (.invokevirtual 55, 3) := by decide +kernel
theorem dX7_write_37 : decode cX7_write 37 = .ok (.aload_n 0, 1) := by decide +kernel
theorem dX7_write_38 : decode cX7_write 38 = .ok (.getfield 10, 3) := by decide +kernel
theorem dX7_write_41 : decode cX7_write 41 = .ok (.getfield 51, 3) := by decide +kernel
theorem dX7_write_44 : decode cX7_write 44 = .ok (.ireturn, 1) := by decide +kernel
theorem dX7_wipe_0 : decode cX7_wipe 0 = .ok (.aload_n 0, 1) := by decide +kernel
theorem dX7_wipe_1 : decode cX7_wipe 1 = .ok (.getfield 10, 3) := by decide +kernel
theorem dX7_wipe_4 : decode cX7_wipe 4 = .ok (.getfield 51, 3) := by decide +kernel
theorem dX7_wipe_7 : decode cX7_wipe 7 = .ok (.istore_n 1, 1) := by decide +kernel
theorem dX7_wipe_8 : decode cX7_wipe 8 = .ok (.aload_n 0, 1) := by decide +kernel
theorem dX7_wipe_9 : decode cX7_wipe 9 = .ok (.getfield 10, 3) := by decide +kernel
theorem dX7_wipe_12 : decode cX7_wipe 12 = .ok (.iconst 0, 1) := by decide +kernel
theorem dX7_wipe_13 : decode cX7_wipe 13 = .ok (.putfield 51, 3) := by decide +kernel
theorem dX7_wipe_16 : decode cX7_wipe 16 = .ok (.iload_n 1, 1) := by decide +kernel
theorem dX7_wipe_17 : decode cX7_wipe 17 = .ok (.ireturn, 1) := by decide +kernel
theorem dX7_fault_0 : decode cX7_fault 0 = .ok (.aload_n 0, 1) := by decide +kernel
theorem dX7_fault_1 : decode cX7_fault 1 = .ok (.getfield 10, 3) := by decide +kernel
theorem dX7_fault_4 : decode cX7_fault 4 = .ok (.invokevirtual 59, 3) := by decide +kernel
theorem dX7_fault_7 : decode cX7_fault 7 = .ok (.ireturn, 1) := by decide +kernel
theorem dX7_canal_0 : decode cX7_canal 0 = .ok (.aload_n 0, 1) := by decide +kernel
theorem dX7_canal_1 : decode cX7_canal 1 = .ok (.getfield 10, 3) := by decide +kernel
theorem dX7_canal_4 : decode cX7_canal 4 = .ok (.invokevirtual 59, 3) := by decide +kernel
theorem dX7_canal_7 : decode cX7_canal 7 = .ok (.bipush (-9), 2) := by decide +kernel
theorem dX7_canal_9 : decode cX7_canal 9 = .ok (.if_icmp .eq 6, 3) := by decide +kernel
theorem dX7_canal_12 : decode cX7_canal 12 = .ok (.bipush (-3), 2) := by decide +kernel
theorem dX7_canal_14 : decode cX7_canal 14 = .ok (.ireturn, 1) := by decide +kernel
theorem dX7_canal_15 : decode cX7_canal 15 = .ok (.aload_n 0, 1) := by decide +kernel
theorem dX7_canal_16 : decode cX7_canal 16 = .ok (.getfield 19, 3) := by decide +kernel
theorem dX7_canal_19 : decode cX7_canal 19 = .ok (.aload_n 0, 1) := by decide +kernel
theorem dX7_canal_20 : decode cX7_canal 20 = .ok (.getfield 10, 3) := by decide +kernel
theorem dX7_canal_23 : decode cX7_canal 23 = .ok (.invokevirtual 63, 3) := by decide +kernel
theorem dX7_canal_26 : decode cX7_canal 26 = .ok (.aload_n 0, 1) := by decide +kernel
theorem dX7_canal_27 : decode cX7_canal 27 = .ok (.getfield 26, 3) := by decide +kernel
theorem dX7_canal_30 : decode cX7_canal 30 = .ok (.invokevirtual 67, 3) := by decide +kernel
theorem dX7_canal_33 : decode cX7_canal 33 = .ok (.aload_n 0, 1) := by decide +kernel
theorem dX7_canal_34 : decode cX7_canal 34 = .ok (.getfield 33, 3) := by decide +kernel
theorem dX7_canal_37 : decode cX7_canal 37 = .ok (.invokevirtual 70, 3) := by decide +kernel
theorem dX7_canal_40 : decode cX7_canal 40 = .ok (.bipush 10, 2) := by decide +kernel
theorem dX7_canal_42 : decode cX7_canal 42 = .ok (.aload_n 0, 1) := by decide +kernel
theorem dX7_canal_43 : decode cX7_canal 43 = .ok (.getfield 19, 3) := by decide +kernel
theorem dX7_canal_46 : decode cX7_canal 46 = .ok (.getfield 71, 3) := by decide +kernel
theorem dX7_canal_49 : decode cX7_canal 49 = .ok (.imul, 1) := by decide +kernel
theorem dX7_canal_50 : decode cX7_canal 50 = .ok (.aload_n 0, 1) := by decide +kernel
theorem dX7_canal_51 : decode cX7_canal 51 = .ok (.getfield 19, 3) := by decide +kernel
theorem dX7_canal_54 : decode cX7_canal 54 = .ok (.getfield 74, 3) := by decide +kernel
theorem dX7_canal_57 : decode cX7_canal 57 = .ok (.iadd, 1) := by decide +kernel
theorem dX7_canal_58 : decode cX7_canal 58 = .ok (.ireturn, 1) := by decide +kernel
theorem dX7_barge_0 : decode cX7_barge 0 = .ok (.aload_n 0, 1) := by decide +kernel
theorem dX7_barge_1 : decode cX7_barge 1 = .ok (.getfield 19, 3) := by decide +kernel
theorem dX7_barge_4 : decode cX7_barge 4 = .ok (.iload_n 1, 1) := by decide +kernel
theorem dX7_barge_5 : decode cX7_barge 5 = .ok (.invokevirtual 77, 3) := by decide +kernel
theorem dX7_barge_8 : decode cX7_barge 8 = .ok (.ifCond .ne 5, 3) := by decide +kernel
theorem dX7_barge_11 : decode cX7_barge 11 = .ok (.iconst (-1), 1) := by decide +kernel
theorem dX7_barge_12 : decode cX7_barge 12 = .ok (.ireturn, 1) := by decide +kernel
theorem dX7_barge_13 : decode cX7_barge 13 = .ok (.iload_n 2, 1) := by decide +kernel
theorem dX7_barge_14 : decode cX7_barge 14 = .ok (.tableswitch 92 0 4 #[34, 44, 54, 67, 79], 34) := by decide +kernel
theorem dX7_barge_48 : decode cX7_barge 48 = .ok (.aload_n 0, 1) := by decide +kernel
theorem dX7_barge_49 : decode cX7_barge 49 = .ok (.getfield 19, 3) := by decide +kernel
theorem dX7_barge_52 : decode cX7_barge 52 = .ok (.getfield 81, 3) := by decide +kernel
theorem dX7_barge_55 : decode cX7_barge 55 = .ok (.iload_n 1, 1) := by decide +kernel
theorem dX7_barge_56 : decode cX7_barge 56 = .ok (.iaload, 1) := by decide +kernel
theorem dX7_barge_57 : decode cX7_barge 57 = .ok (.ireturn, 1) := by decide +kernel
theorem dX7_barge_58 : decode cX7_barge 58 = .ok (.aload_n 0, 1) := by decide +kernel
theorem dX7_barge_59 : decode cX7_barge 59 = .ok (.getfield 19, 3) := by decide +kernel
theorem dX7_barge_62 : decode cX7_barge 62 = .ok (.getfield 85, 3) := by decide +kernel
theorem dX7_barge_65 : decode cX7_barge 65 = .ok (.iload_n 1, 1) := by decide +kernel
theorem dX7_barge_66 : decode cX7_barge 66 = .ok (.iaload, 1) := by decide +kernel
theorem dX7_barge_67 : decode cX7_barge 67 = .ok (.ireturn, 1) := by decide +kernel
theorem dX7_barge_68 : decode cX7_barge 68 = .ok (.aload_n 0, 1) := by decide +kernel
theorem dX7_barge_69 : decode cX7_barge 69 = .ok (.getfield 19, 3) := by decide +kernel
theorem dX7_barge_72 : decode cX7_barge 72 = .ok (.getfield 88, 3) := by decide +kernel
theorem dX7_barge_75 : decode cX7_barge 75 = .ok (.getfield 92, 3) := by decide +kernel
theorem dX7_barge_78 : decode cX7_barge 78 = .ok (.iload_n 1, 1) := by decide +kernel
theorem dX7_barge_79 : decode cX7_barge 79 = .ok (.iaload, 1) := by decide +kernel
theorem dX7_barge_80 : decode cX7_barge 80 = .ok (.ireturn, 1) := by decide +kernel
theorem dX7_barge_81 : decode cX7_barge 81 = .ok (.aload_n 0, 1) := by decide +kernel
theorem dX7_barge_82 : decode cX7_barge 82 = .ok (.getfield 19, 3) := by decide +kernel
theorem dX7_barge_85 : decode cX7_barge 85 = .ok (.getfield 88, 3) := by decide +kernel
theorem dX7_barge_88 : decode cX7_barge 88 = .ok (.iload_n 1, 1) := by decide +kernel
theorem dX7_barge_89 : decode cX7_barge 89 = .ok (.invokevirtual 97, 3) := by decide +kernel
theorem dX7_barge_92 : decode cX7_barge 92 = .ok (.ireturn, 1) := by decide +kernel
theorem dX7_barge_93 : decode cX7_barge 93 = .ok (.aload_n 0, 1) := by decide +kernel
theorem dX7_barge_94 : decode cX7_barge 94 = .ok (.getfield 19, 3) := by decide +kernel
theorem dX7_barge_97 : decode cX7_barge 97 = .ok (.getfield 88, 3) := by decide +kernel
theorem dX7_barge_100 : decode cX7_barge 100 = .ok (.getfield 101, 3) := by decide +kernel
theorem dX7_barge_103 : decode cX7_barge 103 = .ok (.iload_n 1, 1) := by decide +kernel
theorem dX7_barge_104 : decode cX7_barge 104 = .ok (.iaload, 1) := by decide +kernel
theorem dX7_barge_105 : decode cX7_barge 105 = .ok (.ireturn, 1) := by decide +kernel
theorem dX7_barge_106 : decode cX7_barge 106 = .ok (.bipush (-2), 2) := by decide +kernel
theorem dX7_barge_108 : decode cX7_barge 108 = .ok (.ireturn, 1) := by decide +kernel
theorem dX7_lock_0 : decode cX7_lock 0 = .ok (.aload_n 0, 1) := by decide +kernel
theorem dX7_lock_1 : decode cX7_lock 1 = .ok (.getfield 19, 3) := by decide +kernel
theorem dX7_lock_4 : decode cX7_lock 4 = .ok (.iload_n 1, 1) := by decide +kernel
theorem dX7_lock_5 : decode cX7_lock 5 = .ok (.invokevirtual 104, 3) := by decide +kernel
theorem dX7_lock_8 : decode cX7_lock 8 = .ok (.ifCond .ne 5, 3) := by decide +kernel
theorem dX7_lock_11 : decode cX7_lock 11 = .ok (.iconst (-1), 1) := by decide +kernel
theorem dX7_lock_12 : decode cX7_lock 12 = .ok (.ireturn, 1) := by decide +kernel
theorem dX7_lock_13 : decode cX7_lock 13 = .ok (.iload_n 2, 1) := by decide +kernel
theorem dX7_lock_14 : decode cX7_lock 14 = .ok (.tableswitch 68 0 2 #[26, 39, 56], 26) := by decide +kernel
theorem dX7_lock_40 : decode cX7_lock 40 = .ok (.aload_n 0, 1) := by decide +kernel
theorem dX7_lock_41 : decode cX7_lock 41 = .ok (.getfield 19, 3) := by decide +kernel
theorem dX7_lock_44 : decode cX7_lock 44 = .ok (.getfield 88, 3) := by decide +kernel
theorem dX7_lock_47 : decode cX7_lock 47 = .ok (.getfield 107, 3) := by decide +kernel
theorem dX7_lock_50 : decode cX7_lock 50 = .ok (.iload_n 1, 1) := by decide +kernel
theorem dX7_lock_51 : decode cX7_lock 51 = .ok (.iaload, 1) := by decide +kernel
theorem dX7_lock_52 : decode cX7_lock 52 = .ok (.ireturn, 1) := by decide +kernel
theorem dX7_lock_53 : decode cX7_lock 53 = .ok (.aload_n 0, 1) := by decide +kernel
theorem dX7_lock_54 : decode cX7_lock 54 = .ok (.getfield 19, 3) := by decide +kernel
theorem dX7_lock_57 : decode cX7_lock 57 = .ok (.iload_n 1, 1) := by decide +kernel
theorem dX7_lock_58 : decode cX7_lock 58 = .ok (.invokevirtual 110, 3) := by decide +kernel
theorem dX7_lock_61 : decode cX7_lock 61 = .ok (.ifCond .eq 7, 3) := by decide +kernel
theorem dX7_lock_64 : decode cX7_lock 64 = .ok (.iconst 1, 1) := by decide +kernel
theorem dX7_lock_65 : decode cX7_lock 65 = .ok (.goto 4, 3) := by decide +kernel
theorem dX7_lock_68 : decode cX7_lock 68 = .ok (.iconst 0, 1) := by decide +kernel
theorem dX7_lock_69 : decode cX7_lock 69 = .ok (.ireturn, 1) := by decide +kernel
theorem dX7_lock_70 : decode cX7_lock 70 = .ok (.aload_n 0, 1) := by decide +kernel
theorem dX7_lock_71 : decode cX7_lock 71 = .ok (.getfield 19, 3) := by decide +kernel
theorem dX7_lock_74 : decode cX7_lock 74 = .ok (.getfield 88, 3) := by decide +kernel
theorem dX7_lock_77 : decode cX7_lock 77 = .ok (.iload_n 1, 1) := by decide +kernel
theorem dX7_lock_78 : decode cX7_lock 78 = .ok (.invokevirtual 113, 3) := by decide +kernel
theorem dX7_lock_81 : decode cX7_lock 81 = .ok (.ireturn, 1) := by decide +kernel
theorem dX7_lock_82 : decode cX7_lock 82 = .ok (.bipush (-2), 2) := by decide +kernel
theorem dX7_lock_84 : decode cX7_lock 84 = .ok (.ireturn, 1) := by decide +kernel
theorem dX7_pass_0 : decode cX7_pass 0 = .ok (.aload_n 0, 1) := by decide +kernel
theorem dX7_pass_1 : decode cX7_pass 1 = .ok (.getfield 19, 3) := by decide +kernel
theorem dX7_pass_4 : decode cX7_pass 4 = .ok (.invokevirtual 116, 3) := by decide +kernel
theorem dX7_pass_7 : decode cX7_pass 7 = .ok (.ifCond .ne 6, 3) := by decide +kernel
theorem dX7_pass_10 : decode cX7_pass 10 = .ok (.bipush (-3), 2) := by decide +kernel
theorem dX7_pass_12 : decode cX7_pass 12 = .ok (.ireturn, 1) := by decide +kernel
theorem dX7_pass_13 : decode cX7_pass 13 = .ok (.aload_n 0, 1) := by decide +kernel
theorem dX7_pass_14 : decode cX7_pass 14 = .ok (.getfield 26, 3) := by decide +kernel
theorem dX7_pass_17 : decode cX7_pass 17 = .ok (.aload_n 0, 1) := by decide +kernel
theorem dX7_pass_18 : decode cX7_pass 18 = .ok (.getfield 19, 3) := by decide +kernel
theorem dX7_pass_21 : decode cX7_pass 21 = .ok (.getfield 88, 3) := by decide +kernel
theorem dX7_pass_24 : decode cX7_pass 24 = .ok (.invokevirtual 119, 3) := by decide +kernel
theorem dX7_pass_27 : decode cX7_pass 27 = .ok (.aload_n 0, 1) := by decide +kernel
theorem dX7_pass_28 : decode cX7_pass 28 = .ok (.getfield 19, 3) := by decide +kernel
theorem dX7_pass_31 : decode cX7_pass 31 = .ok (.aload_n 0, 1) := by decide +kernel
theorem dX7_pass_32 : decode cX7_pass 32 = .ok (.getfield 19, 3) := by decide +kernel
theorem dX7_pass_35 : decode cX7_pass 35 = .ok (.getfield 88, 3) := by decide +kernel
theorem dX7_pass_38 : decode cX7_pass 38 = .ok (.invokevirtual 123, 3) := by decide +kernel
theorem dX7_pass_41 : decode cX7_pass 41 = .ok (.aload_n 0, 1) := by decide +kernel
theorem dX7_pass_42 : decode cX7_pass 42 = .ok (.getfield 19, 3) := by decide +kernel
theorem dX7_pass_45 : decode cX7_pass 45 = .ok (.getfield 88, 3) := by decide +kernel
theorem dX7_pass_48 : decode cX7_pass 48 = .ok (.invokevirtual 126, 3) := by decide +kernel
theorem dX7_pass_51 : decode cX7_pass 51 = .ok (.ireturn, 1) := by decide +kernel
theorem dX7_give_0 : decode cX7_give 0 = .ok (.aload_n 0, 1) := by decide +kernel
theorem dX7_give_1 : decode cX7_give 1 = .ok (.getfield 19, 3) := by decide +kernel
theorem dX7_give_4 : decode cX7_give 4 = .ok (.iload_n 1, 1) := by decide +kernel
theorem dX7_give_5 : decode cX7_give 5 = .ok (.invokevirtual 77, 3) := by decide +kernel
theorem dX7_give_8 : decode cX7_give 8 = .ok (.ifCond .eq 14, 3) := by decide +kernel
theorem dX7_give_11 : decode cX7_give 11 = .ok (.aload_n 0, 1) := by decide +kernel
theorem dX7_give_12 : decode cX7_give 12 = .ok (.getfield 19, 3) := by decide +kernel
theorem dX7_give_15 : decode cX7_give 15 = .ok (.iload_n 2, 1) := by decide +kernel
theorem dX7_give_16 : decode cX7_give 16 = .ok (.invokevirtual 104, 3) := by decide +kernel
theorem dX7_give_19 : decode cX7_give 19 = .ok (.ifCond .ne 5, 3) := by decide +kernel
theorem dX7_give_22 : decode cX7_give 22 = .ok (.iconst (-1), 1) := by decide +kernel
theorem dX7_give_23 : decode cX7_give 23 = .ok (.ireturn, 1) := by decide +kernel
theorem dX7_give_24 : decode cX7_give 24 = .ok (.aload_n 0, 1) := by decide +kernel
theorem dX7_give_25 : decode cX7_give 25 = .ok (.getfield 19, 3) := by decide +kernel
theorem dX7_give_28 : decode cX7_give 28 = .ok (.getfield 88, 3) := by decide +kernel
theorem dX7_give_31 : decode cX7_give 31 = .ok (.getfield 92, 3) := by decide +kernel
theorem dX7_give_34 : decode cX7_give 34 = .ok (.iload_n 1, 1) := by decide +kernel
theorem dX7_give_35 : decode cX7_give 35 = .ok (.iaload, 1) := by decide +kernel
theorem dX7_give_36 : decode cX7_give 36 = .ok (.iconst 1, 1) := by decide +kernel
theorem dX7_give_37 : decode cX7_give 37 = .ok (.if_icmp .lt 14, 3) := by decide +kernel
theorem dX7_give_40 : decode cX7_give 40 = .ok (.aload_n 0, 1) := by decide +kernel
theorem dX7_give_41 : decode cX7_give 41 = .ok (.getfield 19, 3) := by decide +kernel
theorem dX7_give_44 : decode cX7_give 44 = .ok (.iload_n 2, 1) := by decide +kernel
theorem dX7_give_45 : decode cX7_give 45 = .ok (.invokevirtual 110, 3) := by decide +kernel
theorem dX7_give_48 : decode cX7_give 48 = .ok (.ifCond .eq 6, 3) := by decide +kernel
theorem dX7_give_51 : decode cX7_give 51 = .ok (.bipush (-3), 2) := by decide +kernel
theorem dX7_give_53 : decode cX7_give 53 = .ok (.ireturn, 1) := by decide +kernel
theorem dX7_give_54 : decode cX7_give 54 = .ok (.aload_n 0, 1) := by decide +kernel
theorem dX7_give_55 : decode cX7_give 55 = .ok (.getfield 26, 3) := by decide +kernel
theorem dX7_give_58 : decode cX7_give 58 = .ok (.aload_n 0, 1) := by decide +kernel
theorem dX7_give_59 : decode cX7_give 59 = .ok (.getfield 19, 3) := by decide +kernel
theorem dX7_give_62 : decode cX7_give 62 = .ok (.getfield 88, 3) := by decide +kernel
theorem dX7_give_65 : decode cX7_give 65 = .ok (.invokevirtual 119, 3) := by decide +kernel
theorem dX7_give_68 : decode cX7_give 68 = .ok (.aload_n 0, 1) := by decide +kernel
theorem dX7_give_69 : decode cX7_give 69 = .ok (.getfield 19, 3) := by decide +kernel
theorem dX7_give_72 : decode cX7_give 72 = .ok (.getfield 88, 3) := by decide +kernel
theorem dX7_give_75 : decode cX7_give 75 = .ok (.getfield 92, 3) := by decide +kernel
theorem dX7_give_78 : decode cX7_give 78 = .ok (.iload_n 1, 1) := by decide +kernel
theorem dX7_give_79 : decode cX7_give 79 = .ok (.dup2, 1) := by decide +kernel
theorem dX7_give_80 : decode cX7_give 80 = .ok (.iaload, 1) := by decide +kernel
theorem dX7_give_81 : decode cX7_give 81 = .ok (.iconst 1, 1) := by decide +kernel
theorem dX7_give_82 : decode cX7_give 82 = .ok (.isub, 1) := by decide +kernel
theorem dX7_give_83 : decode cX7_give 83 = .ok (.iastore, 1) := by decide +kernel
theorem dX7_give_84 : decode cX7_give 84 = .ok (.aload_n 0, 1) := by decide +kernel
theorem dX7_give_85 : decode cX7_give 85 = .ok (.getfield 19, 3) := by decide +kernel
theorem dX7_give_88 : decode cX7_give 88 = .ok (.getfield 88, 3) := by decide +kernel
theorem dX7_give_91 : decode cX7_give 91 = .ok (.iload_n 1, 1) := by decide +kernel
theorem dX7_give_92 : decode cX7_give 92 = .ok (.iload_n 2, 1) := by decide +kernel
theorem dX7_give_93 : decode cX7_give 93 = .ok (.iconst 1, 1) := by decide +kernel
theorem dX7_give_94 : decode cX7_give 94 = .ok (.invokevirtual 129, 3) := by decide +kernel
theorem dX7_give_97 : decode cX7_give 97 = .ok (.aload_n 0, 1) := by decide +kernel
theorem dX7_give_98 : decode cX7_give 98 = .ok (.getfield 19, 3) := by decide +kernel
theorem dX7_give_101 : decode cX7_give 101 = .ok (.getfield 88, 3) := by decide +kernel
theorem dX7_give_104 : decode cX7_give 104 = .ok (.iload_n 1, 1) := by decide +kernel
theorem dX7_give_105 : decode cX7_give 105 = .ok (.iload_n 2, 1) := by decide +kernel
theorem dX7_give_106 : decode cX7_give 106 = .ok (.invokevirtual 133, 3) := by decide +kernel
theorem dX7_give_109 : decode cX7_give 109 = .ok (.ireturn, 1) := by decide +kernel
theorem dX7_letBy_0 : decode cX7_letBy 0 = .ok (.aload_n 0, 1) := by decide +kernel
theorem dX7_letBy_1 : decode cX7_letBy 1 = .ok (.getfield 19, 3) := by decide +kernel
theorem dX7_letBy_4 : decode cX7_letBy 4 = .ok (.iload_n 1, 1) := by decide +kernel
theorem dX7_letBy_5 : decode cX7_letBy 5 = .ok (.invokevirtual 77, 3) := by decide +kernel
theorem dX7_letBy_8 : decode cX7_letBy 8 = .ok (.ifCond .ne 5, 3) := by decide +kernel
theorem dX7_letBy_11 : decode cX7_letBy 11 = .ok (.iconst (-1), 1) := by decide +kernel
theorem dX7_letBy_12 : decode cX7_letBy 12 = .ok (.ireturn, 1) := by decide +kernel
theorem dX7_letBy_13 : decode cX7_letBy 13 = .ok (.aload_n 0, 1) := by decide +kernel
theorem dX7_letBy_14 : decode cX7_letBy 14 = .ok (.getfield 19, 3) := by decide +kernel
theorem dX7_letBy_17 : decode cX7_letBy 17 = .ok (.getfield 88, 3) := by decide +kernel
theorem dX7_letBy_20 : decode cX7_letBy 20 = .ok (.iload_n 1, 1) := by decide +kernel
theorem dX7_letBy_21 : decode cX7_letBy 21 = .ok (.invokevirtual 97, 3) := by decide +kernel
theorem dX7_letBy_24 : decode cX7_letBy 24 = .ok (.istore_n 2, 1) := by decide +kernel
theorem dX7_letBy_25 : decode cX7_letBy 25 = .ok (.iload_n 2, 1) := by decide +kernel
theorem dX7_letBy_26 : decode cX7_letBy 26 = .ok (.aload_n 0, 1) := by decide +kernel
theorem dX7_letBy_27 : decode cX7_letBy 27 = .ok (.getfield 19, 3) := by decide +kernel
theorem dX7_letBy_30 : decode cX7_letBy 30 = .ok (.getfield 74, 3) := by decide +kernel
theorem dX7_letBy_33 : decode cX7_letBy 33 = .ok (.iconst 1, 1) := by decide +kernel
theorem dX7_letBy_34 : decode cX7_letBy 34 = .ok (.isub, 1) := by decide +kernel
theorem dX7_letBy_35 : decode cX7_letBy 35 = .ok (.if_icmp .lt 6, 3) := by decide +kernel
theorem dX7_letBy_38 : decode cX7_letBy 38 = .ok (.bipush (-3), 2) := by decide +kernel
theorem dX7_letBy_40 : decode cX7_letBy 40 = .ok (.ireturn, 1) := by decide +kernel
theorem dX7_letBy_41 : decode cX7_letBy 41 = .ok (.aload_n 0, 1) := by decide +kernel
theorem dX7_letBy_42 : decode cX7_letBy 42 = .ok (.getfield 26, 3) := by decide +kernel
theorem dX7_letBy_45 : decode cX7_letBy 45 = .ok (.aload_n 0, 1) := by decide +kernel
theorem dX7_letBy_46 : decode cX7_letBy 46 = .ok (.getfield 19, 3) := by decide +kernel
theorem dX7_letBy_49 : decode cX7_letBy 49 = .ok (.getfield 88, 3) := by decide +kernel
theorem dX7_letBy_52 : decode cX7_letBy 52 = .ok (.invokevirtual 119, 3) := by decide +kernel
theorem dX7_letBy_55 : decode cX7_letBy 55 = .ok (.aload_n 0, 1) := by decide +kernel
theorem dX7_letBy_56 : decode cX7_letBy 56 = .ok (.getfield 19, 3) := by decide +kernel
theorem dX7_letBy_59 : decode cX7_letBy 59 = .ok (.getfield 88, 3) := by decide +kernel
theorem dX7_letBy_62 : decode cX7_letBy 62 = .ok (.iload_n 2, 1) := by decide +kernel
theorem dX7_letBy_63 : decode cX7_letBy 63 = .ok (.invokevirtual 137, 3) := by decide +kernel
theorem dX7_letBy_66 : decode cX7_letBy 66 = .ok (.iload_n 2, 1) := by decide +kernel
theorem dX7_letBy_67 : decode cX7_letBy 67 = .ok (.iconst 1, 1) := by decide +kernel
theorem dX7_letBy_68 : decode cX7_letBy 68 = .ok (.iadd, 1) := by decide +kernel
theorem dX7_letBy_69 : decode cX7_letBy 69 = .ok (.ireturn, 1) := by decide +kernel
theorem dX7_learn_0 : decode cX7_learn 0 = .ok (.aload_n 0, 1) := by decide +kernel
theorem dX7_learn_1 : decode cX7_learn 1 = .ok (.getfield 19, 3) := by decide +kernel
theorem dX7_learn_4 : decode cX7_learn 4 = .ok (.iload_n 1, 1) := by decide +kernel
theorem dX7_learn_5 : decode cX7_learn 5 = .ok (.invokevirtual 104, 3) := by decide +kernel
theorem dX7_learn_8 : decode cX7_learn 8 = .ok (.ifCond .ne 5, 3) := by decide +kernel
theorem dX7_learn_11 : decode cX7_learn 11 = .ok (.iconst (-1), 1) := by decide +kernel
theorem dX7_learn_12 : decode cX7_learn 12 = .ok (.ireturn, 1) := by decide +kernel
theorem dX7_learn_13 : decode cX7_learn 13 = .ok (.iload_n 2, 1) := by decide +kernel
theorem dX7_learn_14 : decode cX7_learn 14 = .ok (.ifCond .lt 8, 3) := by decide +kernel
theorem dX7_learn_17 : decode cX7_learn 17 = .ok (.iload_n 2, 1) := by decide +kernel
theorem dX7_learn_18 : decode cX7_learn 18 = .ok (.iconst 3, 1) := by decide +kernel
theorem dX7_learn_19 : decode cX7_learn 19 = .ok (.if_icmp .le 6, 3) := by decide +kernel
theorem dX7_learn_22 : decode cX7_learn 22 = .ok (.bipush (-2), 2) := by decide +kernel
theorem dX7_learn_24 : decode cX7_learn 24 = .ok (.ireturn, 1) := by decide +kernel
theorem dX7_learn_25 : decode cX7_learn 25 = .ok (.aload_n 0, 1) := by decide +kernel
theorem dX7_learn_26 : decode cX7_learn 26 = .ok (.getfield 19, 3) := by decide +kernel
theorem dX7_learn_29 : decode cX7_learn 29 = .ok (.getfield 88, 3) := by decide +kernel
theorem dX7_learn_32 : decode cX7_learn 32 = .ok (.getfield 107, 3) := by decide +kernel
theorem dX7_learn_35 : decode cX7_learn 35 = .ok (.iload_n 1, 1) := by decide +kernel
theorem dX7_learn_36 : decode cX7_learn 36 = .ok (.iaload, 1) := by decide +kernel
theorem dX7_learn_37 : decode cX7_learn 37 = .ok (.istore_n 3, 1) := by decide +kernel
theorem dX7_learn_38 : decode cX7_learn 38 = .ok (.aload_n 0, 1) := by decide +kernel
theorem dX7_learn_39 : decode cX7_learn 39 = .ok (.getfield 19, 3) := by decide +kernel
theorem dX7_learn_42 : decode cX7_learn 42 = .ok (.iload_n 1, 1) := by decide +kernel
theorem dX7_learn_43 : decode cX7_learn 43 = .ok (.invokevirtual 110, 3) := by decide +kernel
theorem dX7_learn_46 : decode cX7_learn 46 = .ok (.ifCond .ne 8, 3) := by decide +kernel
theorem dX7_learn_49 : decode cX7_learn 49 = .ok (.iload_n 3, 1) := by decide +kernel
theorem dX7_learn_50 : decode cX7_learn 50 = .ok (.iload_n 2, 1) := by decide +kernel
theorem dX7_learn_51 : decode cX7_learn 51 = .ok (.if_icmp .ne 6, 3) := by decide +kernel
theorem dX7_learn_54 : decode cX7_learn 54 = .ok (.bipush (-3), 2) := by decide +kernel
theorem dX7_learn_56 : decode cX7_learn 56 = .ok (.ireturn, 1) := by decide +kernel
theorem dX7_learn_57 : decode cX7_learn 57 = .ok (.aload_n 0, 1) := by decide +kernel
theorem dX7_learn_58 : decode cX7_learn 58 = .ok (.getfield 26, 3) := by decide +kernel
theorem dX7_learn_61 : decode cX7_learn 61 = .ok (.aload_n 0, 1) := by decide +kernel
theorem dX7_learn_62 : decode cX7_learn 62 = .ok (.getfield 19, 3) := by decide +kernel
theorem dX7_learn_65 : decode cX7_learn 65 = .ok (.getfield 88, 3) := by decide +kernel
theorem dX7_learn_68 : decode cX7_learn 68 = .ok (.invokevirtual 119, 3) := by decide +kernel
theorem dX7_learn_71 : decode cX7_learn 71 = .ok (.aload_n 0, 1) := by decide +kernel
theorem dX7_learn_72 : decode cX7_learn 72 = .ok (.getfield 19, 3) := by decide +kernel
theorem dX7_learn_75 : decode cX7_learn 75 = .ok (.getfield 88, 3) := by decide +kernel
theorem dX7_learn_78 : decode cX7_learn 78 = .ok (.getfield 107, 3) := by decide +kernel
theorem dX7_learn_81 : decode cX7_learn 81 = .ok (.iload_n 1, 1) := by decide +kernel
theorem dX7_learn_82 : decode cX7_learn 82 = .ok (.iload_n 2, 1) := by decide +kernel
theorem dX7_learn_83 : decode cX7_learn 83 = .ok (.iastore, 1) := by decide +kernel
theorem dX7_learn_84 : decode cX7_learn 84 = .ok (.iload_n 3, 1) := by decide +kernel
theorem dX7_learn_85 : decode cX7_learn 85 = .ok (.ireturn, 1) := by decide +kernel
theorem dX7_undo_0 : decode cX7_undo 0 = .ok (.aload_n 0, 1) := by decide +kernel
theorem dX7_undo_1 : decode cX7_undo 1 = .ok (.getfield 26, 3) := by decide +kernel
theorem dX7_undo_4 : decode cX7_undo 4 = .ok (.getfield 140, 3) := by decide +kernel
theorem dX7_undo_7 : decode cX7_undo 7 = .ok (.ifCond .ne 6, 3) := by decide +kernel
theorem dX7_undo_10 : decode cX7_undo 10 = .ok (.bipush (-3), 2) := by decide +kernel
theorem dX7_undo_12 : decode cX7_undo 12 = .ok (.ireturn, 1) := by decide +kernel
theorem dX7_undo_13 : decode cX7_undo 13 = .ok (.aload_n 0, 1) := by decide +kernel
theorem dX7_undo_14 : decode cX7_undo 14 = .ok (.getfield 26, 3) := by decide +kernel
theorem dX7_undo_17 : decode cX7_undo 17 = .ok (.aload_n 0, 1) := by decide +kernel
theorem dX7_undo_18 : decode cX7_undo 18 = .ok (.getfield 19, 3) := by decide +kernel
theorem dX7_undo_21 : decode cX7_undo 21 = .ok (.getfield 88, 3) := by decide +kernel
theorem dX7_undo_24 : decode cX7_undo 24 = .ok (.invokevirtual 143, 3) := by decide +kernel
theorem dX7_undo_27 : decode cX7_undo 27 = .ok (.aload_n 0, 1) := by decide +kernel
theorem dX7_undo_28 : decode cX7_undo 28 = .ok (.getfield 26, 3) := by decide +kernel
theorem dX7_undo_31 : decode cX7_undo 31 = .ok (.getfield 140, 3) := by decide +kernel
theorem dX7_undo_34 : decode cX7_undo 34 = .ok (.ireturn, 1) := by decide +kernel
theorem dX7_basin_0 : decode cX7_basin 0 = .ok (.aload_n 0, 1) := by decide +kernel
theorem dX7_basin_1 : decode cX7_basin 1 = .ok (.getfield 19, 3) := by decide +kernel
theorem dX7_basin_4 : decode cX7_basin 4 = .ok (.invokevirtual 146, 3) := by decide +kernel
theorem dX7_basin_7 : decode cX7_basin 7 = .ok (.invokevirtual 126, 3) := by decide +kernel
theorem dX7_basin_10 : decode cX7_basin 10 = .ok (.ireturn, 1) := by decide +kernel
theorem dX7_hour_0 : decode cX7_hour 0 = .ok (.aload_n 0, 1) := by decide +kernel
theorem dX7_hour_1 : decode cX7_hour 1 = .ok (.getfield 19, 3) := by decide +kernel
theorem dX7_hour_4 : decode cX7_hour 4 = .ok (.iload_n 1, 1) := by decide +kernel
theorem dX7_hour_5 : decode cX7_hour 5 = .ok (.invokevirtual 77, 3) := by decide +kernel
theorem dX7_hour_8 : decode cX7_hour 8 = .ok (.ifCond .eq 18, 3) := by decide +kernel
theorem dX7_hour_11 : decode cX7_hour 11 = .ok (.aload_n 0, 1) := by decide +kernel
theorem dX7_hour_12 : decode cX7_hour 12 = .ok (.getfield 19, 3) := by decide +kernel
theorem dX7_hour_15 : decode cX7_hour 15 = .ok (.invokevirtual 146, 3) := by decide +kernel
theorem dX7_hour_18 : decode cX7_hour 18 = .ok (.getfield 101, 3) := by decide +kernel
theorem dX7_hour_21 : decode cX7_hour 21 = .ok (.iload_n 1, 1) := by decide +kernel
theorem dX7_hour_22 : decode cX7_hour 22 = .ok (.iaload, 1) := by decide +kernel
theorem dX7_hour_23 : decode cX7_hour 23 = .ok (.goto 4, 3) := by decide +kernel
theorem dX7_hour_26 : decode cX7_hour 26 = .ok (.iconst (-1), 1) := by decide +kernel
theorem dX7_hour_27 : decode cX7_hour 27 = .ok (.ireturn, 1) := by decide +kernel
theorem dX7_gains_0 : decode cX7_gains 0 = .ok (.aload_n 0, 1) := by decide +kernel
theorem dX7_gains_1 : decode cX7_gains 1 = .ok (.getfield 19, 3) := by decide +kernel
theorem dX7_gains_4 : decode cX7_gains 4 = .ok (.iload_n 1, 1) := by decide +kernel
theorem dX7_gains_5 : decode cX7_gains 5 = .ok (.invokevirtual 77, 3) := by decide +kernel
theorem dX7_gains_8 : decode cX7_gains 8 = .ok (.ifCond .eq 18, 3) := by decide +kernel
theorem dX7_gains_11 : decode cX7_gains 11 = .ok (.aload_n 0, 1) := by decide +kernel
theorem dX7_gains_12 : decode cX7_gains 12 = .ok (.getfield 40, 3) := by decide +kernel
theorem dX7_gains_15 : decode cX7_gains 15 = .ok (.aload_n 0, 1) := by decide +kernel
theorem dX7_gains_16 : decode cX7_gains 16 = .ok (.getfield 19, 3) := by decide +kernel
theorem dX7_gains_19 : decode cX7_gains 19 = .ok (.iload_n 1, 1) := by decide +kernel
theorem dX7_gains_20 : decode cX7_gains 20 = .ok (.invokevirtual 150, 3) := by decide +kernel
theorem dX7_gains_23 : decode cX7_gains 23 = .ok (.goto 4, 3) := by decide +kernel
theorem dX7_gains_26 : decode cX7_gains 26 = .ok (.iconst (-1), 1) := by decide +kernel
theorem dX7_gains_27 : decode cX7_gains 27 = .ok (.ireturn, 1) := by decide +kernel
theorem dX7_mates_0 : decode cX7_mates 0 = .ok (.aload_n 0, 1) := by decide +kernel
theorem dX7_mates_1 : decode cX7_mates 1 = .ok (.getfield 19, 3) := by decide +kernel
theorem dX7_mates_4 : decode cX7_mates 4 = .ok (.iload_n 1, 1) := by decide +kernel
theorem dX7_mates_5 : decode cX7_mates 5 = .ok (.invokevirtual 77, 3) := by decide +kernel
theorem dX7_mates_8 : decode cX7_mates 8 = .ok (.ifCond .eq 18, 3) := by decide +kernel
theorem dX7_mates_11 : decode cX7_mates 11 = .ok (.aload_n 0, 1) := by decide +kernel
theorem dX7_mates_12 : decode cX7_mates 12 = .ok (.getfield 40, 3) := by decide +kernel
theorem dX7_mates_15 : decode cX7_mates 15 = .ok (.aload_n 0, 1) := by decide +kernel
theorem dX7_mates_16 : decode cX7_mates 16 = .ok (.getfield 19, 3) := by decide +kernel
theorem dX7_mates_19 : decode cX7_mates 19 = .ok (.iload_n 1, 1) := by decide +kernel
theorem dX7_mates_20 : decode cX7_mates 20 = .ok (.invokevirtual 154, 3) := by decide +kernel
theorem dX7_mates_23 : decode cX7_mates 23 = .ok (.goto 4, 3) := by decide +kernel
theorem dX7_mates_26 : decode cX7_mates 26 = .ok (.iconst (-1), 1) := by decide +kernel
theorem dX7_mates_27 : decode cX7_mates 27 = .ok (.ireturn, 1) := by decide +kernel
theorem dX7_first_0 : decode cX7_first 0 = .ok (.aload_n 0, 1) := by decide +kernel
theorem dX7_first_1 : decode cX7_first 1 = .ok (.iload_n 1, 1) := by decide +kernel
theorem dX7_first_2 : decode cX7_first 2 = .ok (.iload_n 2, 1) := by decide +kernel
theorem dX7_first_3 : decode cX7_first 3 = .ok (.invokevirtual 157, 3) := by decide +kernel
theorem dX7_first_6 : decode cX7_first 6 = .ok (.istore_n 3, 1) := by decide +kernel
theorem dX7_first_7 : decode cX7_first 7 = .ok (.iload_n 3, 1) := by decide +kernel
theorem dX7_first_8 : decode cX7_first 8 = .ok (.ifCond .eq 7, 3) := by decide +kernel
theorem dX7_first_11 : decode cX7_first 11 = .ok (.iload_n 3, 1) := by decide +kernel
theorem dX7_first_12 : decode cX7_first 12 = .ok (.goto 16, 3) := by decide +kernel
theorem dX7_first_15 : decode cX7_first 15 = .ok (.aload_n 0, 1) := by decide +kernel
theorem dX7_first_16 : decode cX7_first 16 = .ok (.getfield 40, 3) := by decide +kernel
theorem dX7_first_19 : decode cX7_first 19 = .ok (.aload_n 0, 1) := by decide +kernel
theorem dX7_first_20 : decode cX7_first 20 = .ok (.getfield 19, 3) := by decide +kernel
theorem dX7_first_23 : decode cX7_first 23 = .ok (.iload_n 1, 1) := by decide +kernel
theorem dX7_first_24 : decode cX7_first 24 = .ok (.iload_n 2, 1) := by decide +kernel
theorem dX7_first_25 : decode cX7_first 25 = .ok (.invokevirtual 160, 3) := by decide +kernel
theorem dX7_first_28 : decode cX7_first 28 = .ok (.ireturn, 1) := by decide +kernel
theorem dX7_tea_0 : decode cX7_tea 0 = .ok (.aload_n 0, 1) := by decide +kernel
theorem dX7_tea_1 : decode cX7_tea 1 = .ok (.iload_n 1, 1) := by decide +kernel
theorem dX7_tea_2 : decode cX7_tea 2 = .ok (.iload_n 2, 1) := by decide +kernel
theorem dX7_tea_3 : decode cX7_tea 3 = .ok (.invokevirtual 157, 3) := by decide +kernel
theorem dX7_tea_6 : decode cX7_tea 6 = .ok (.istore 4, 2) := by decide +kernel
theorem dX7_tea_8 : decode cX7_tea 8 = .ok (.iload 4, 2) := by decide +kernel
theorem dX7_tea_10 : decode cX7_tea 10 = .ok (.ifCond .eq 6, 3) := by decide +kernel
theorem dX7_tea_13 : decode cX7_tea 13 = .ok (.iload 4, 2) := by decide +kernel
theorem dX7_tea_15 : decode cX7_tea 15 = .ok (.ireturn, 1) := by decide +kernel
theorem dX7_tea_16 : decode cX7_tea 16 = .ok (.aload_n 0, 1) := by decide +kernel
theorem dX7_tea_17 : decode cX7_tea 17 = .ok (.getfield 40, 3) := by decide +kernel
theorem dX7_tea_20 : decode cX7_tea 20 = .ok (.aload_n 0, 1) := by decide +kernel
theorem dX7_tea_21 : decode cX7_tea 21 = .ok (.getfield 19, 3) := by decide +kernel
theorem dX7_tea_24 : decode cX7_tea 24 = .ok (.iload_n 1, 1) := by decide +kernel
theorem dX7_tea_25 : decode cX7_tea 25 = .ok (.iload_n 2, 1) := by decide +kernel
theorem dX7_tea_26 : decode cX7_tea 26 = .ok (.invokevirtual 164, 3) := by decide +kernel
theorem dX7_tea_29 : decode cX7_tea 29 = .ok (.istore 5, 2) := by decide +kernel
theorem dX7_tea_31 : decode cX7_tea 31 = .ok (.iload_n 3, 1) := by decide +kernel
theorem dX7_tea_32 : decode cX7_tea 32 = .ok (.ifCond .ne 10, 3) := by decide +kernel
theorem dX7_tea_35 : decode cX7_tea 35 = .ok (.iload 5, 2) := by decide +kernel
theorem dX7_tea_37 : decode cX7_tea 37 = .ok (.bipush (-9), 2) := by decide +kernel
theorem dX7_tea_39 : decode cX7_tea 39 = .ok (.if_icmp .ne 8, 3) := by decide +kernel
theorem dX7_tea_42 : decode cX7_tea 42 = .ok (.iload 5, 2) := by decide +kernel
theorem dX7_tea_44 : decode cX7_tea 44 = .ok (.goto 12, 3) := by decide +kernel
theorem dX7_tea_47 : decode cX7_tea 47 = .ok (.aload_n 0, 1) := by decide +kernel
theorem dX7_tea_48 : decode cX7_tea 48 = .ok (.getfield 40, 3) := by decide +kernel
theorem dX7_tea_51 : decode cX7_tea 51 = .ok (.iload 5, 2) := by decide +kernel
theorem dX7_tea_53 : decode cX7_tea 53 = .ok (.invokevirtual 167, 3) := by decide +kernel
theorem dX7_tea_56 : decode cX7_tea 56 = .ok (.ireturn, 1) := by decide +kernel
theorem dX7_judge_0 : decode cX7_judge 0 = .ok (.iload_n 1, 1) := by decide +kernel
theorem dX7_judge_1 : decode cX7_judge 1 = .ok (.iconst 1, 1) := by decide +kernel
theorem dX7_judge_2 : decode cX7_judge 2 = .ok (.if_icmp .lt 25, 3) := by decide +kernel
theorem dX7_judge_5 : decode cX7_judge 5 = .ok (.iload_n 1, 1) := by decide +kernel
theorem dX7_judge_6 : decode cX7_judge 6 = .ok (.bipush 6, 2) := by decide +kernel
theorem dX7_judge_8 : decode cX7_judge 8 = .ok (.if_icmp .gt 19, 3) := by decide +kernel
theorem dX7_judge_11 : decode cX7_judge 11 = .ok (.iload_n 2, 1) := by decide +kernel
theorem dX7_judge_12 : decode cX7_judge 12 = .ok (.ifCond .lt 15, 3) := by decide +kernel
theorem dX7_judge_15 : decode cX7_judge 15 = .ok (.aload_n 0, 1) := by decide +kernel
theorem dX7_judge_16 : decode cX7_judge 16 = .ok (.getfield 40, 3) := by decide +kernel
theorem dX7_judge_19 : decode cX7_judge 19 = .ok (.iload_n 2, 1) := by decide +kernel
theorem dX7_judge_20 : decode cX7_judge 20 = .ok (.iload_n 1, 1) := by decide +kernel
theorem dX7_judge_21 : decode cX7_judge 21 = .ok (.invokevirtual 170, 3) := by decide +kernel
theorem dX7_judge_24 : decode cX7_judge 24 = .ok (.ifCond .ne 6, 3) := by decide +kernel
theorem dX7_judge_27 : decode cX7_judge 27 = .ok (.bipush (-2), 2) := by decide +kernel
theorem dX7_judge_29 : decode cX7_judge 29 = .ok (.ireturn, 1) := by decide +kernel
theorem dX7_judge_30 : decode cX7_judge 30 = .ok (.aload_n 0, 1) := by decide +kernel
theorem dX7_judge_31 : decode cX7_judge 31 = .ok (.getfield 40, 3) := by decide +kernel
theorem dX7_judge_34 : decode cX7_judge 34 = .ok (.aload_n 0, 1) := by decide +kernel
theorem dX7_judge_35 : decode cX7_judge 35 = .ok (.getfield 19, 3) := by decide +kernel
theorem dX7_judge_38 : decode cX7_judge 38 = .ok (.iload_n 1, 1) := by decide +kernel
theorem dX7_judge_39 : decode cX7_judge 39 = .ok (.invokevirtual 174, 3) := by decide +kernel
theorem dX7_judge_42 : decode cX7_judge 42 = .ok (.ireturn, 1) := by decide +kernel
theorem dX7_share_0 : decode cX7_share 0 = .ok (.aload_n 0, 1) := by decide +kernel
theorem dX7_share_1 : decode cX7_share 1 = .ok (.getfield 19, 3) := by decide +kernel
theorem dX7_share_4 : decode cX7_share 4 = .ok (.iload_n 1, 1) := by decide +kernel
theorem dX7_share_5 : decode cX7_share 5 = .ok (.invokevirtual 77, 3) := by decide +kernel
theorem dX7_share_8 : decode cX7_share 8 = .ok (.ifCond .ne 5, 3) := by decide +kernel
theorem dX7_share_11 : decode cX7_share 11 = .ok (.iconst (-1), 1) := by decide +kernel
theorem dX7_share_12 : decode cX7_share 12 = .ok (.ireturn, 1) := by decide +kernel
theorem dX7_share_13 : decode cX7_share 13 = .ok (.aload_n 0, 1) := by decide +kernel
theorem dX7_share_14 : decode cX7_share 14 = .ok (.getfield 40, 3) := by decide +kernel
theorem dX7_share_17 : decode cX7_share 17 = .ok (.aload_n 0, 1) := by decide +kernel
theorem dX7_share_18 : decode cX7_share 18 = .ok (.getfield 19, 3) := by decide +kernel
theorem dX7_share_21 : decode cX7_share 21 = .ok (.iload_n 1, 1) := by decide +kernel
theorem dX7_share_22 : decode cX7_share 22 = .ok (.invokevirtual 177, 3) := by decide +kernel
theorem dX7_share_25 : decode cX7_share 25 = .ok (.getstatic 180, 3) := by decide +kernel
theorem dX7_share_28 : decode cX7_share 28 = .ok (.aload_n 0, 1) := by decide +kernel
theorem dX7_share_29 : decode cX7_share 29 = .ok (.getfield 19, 3) := by decide +kernel
theorem dX7_share_32 : decode cX7_share 32 = .ok (.getfield 74, 3) := by decide +kernel
theorem dX7_share_35 : decode cX7_share 35 = .ok (.iaload, 1) := by decide +kernel
theorem dX7_share_36 : decode cX7_share 36 = .ok (.iload_n 2, 1) := by decide +kernel
theorem dX7_share_37 : decode cX7_share 37 = .ok (.invokestatic 183, 3) := by decide +kernel
theorem dX7_share_40 : decode cX7_share 40 = .ok (.ireturn, 1) := by decide +kernel
theorem dX7_gave_0 : decode cX7_gave 0 = .ok (.aload_n 0, 1) := by decide +kernel
theorem dX7_gave_1 : decode cX7_gave 1 = .ok (.getfield 19, 3) := by decide +kernel
theorem dX7_gave_4 : decode cX7_gave 4 = .ok (.iload_n 1, 1) := by decide +kernel
theorem dX7_gave_5 : decode cX7_gave 5 = .ok (.invokevirtual 104, 3) := by decide +kernel
theorem dX7_gave_8 : decode cX7_gave 8 = .ok (.ifCond .ne 5, 3) := by decide +kernel
theorem dX7_gave_11 : decode cX7_gave 11 = .ok (.iconst (-1), 1) := by decide +kernel
theorem dX7_gave_12 : decode cX7_gave 12 = .ok (.ireturn, 1) := by decide +kernel
theorem dX7_gave_13 : decode cX7_gave 13 = .ok (.aload_n 0, 1) := by decide +kernel
theorem dX7_gave_14 : decode cX7_gave 14 = .ok (.getfield 40, 3) := by decide +kernel
theorem dX7_gave_17 : decode cX7_gave 17 = .ok (.aload_n 0, 1) := by decide +kernel
theorem dX7_gave_18 : decode cX7_gave 18 = .ok (.getfield 19, 3) := by decide +kernel
theorem dX7_gave_21 : decode cX7_gave 21 = .ok (.iload_n 2, 1) := by decide +kernel
theorem dX7_gave_22 : decode cX7_gave 22 = .ok (.invokevirtual 187, 3) := by decide +kernel
theorem dX7_gave_25 : decode cX7_gave 25 = .ok (.ifCond .eq 12, 3) := by decide +kernel
theorem dX7_gave_28 : decode cX7_gave 28 = .ok (.iload_n 3, 1) := by decide +kernel
theorem dX7_gave_29 : decode cX7_gave 29 = .ok (.ifCond .lt 8, 3) := by decide +kernel
theorem dX7_gave_32 : decode cX7_gave 32 = .ok (.iload_n 3, 1) := by decide +kernel
theorem dX7_gave_33 : decode cX7_gave 33 = .ok (.iconst 2, 1) := by decide +kernel
theorem dX7_gave_34 : decode cX7_gave 34 = .ok (.if_icmp .le 6, 3) := by decide +kernel
theorem dX7_gave_37 : decode cX7_gave 37 = .ok (.bipush (-2), 2) := by decide +kernel
theorem dX7_gave_39 : decode cX7_gave 39 = .ok (.ireturn, 1) := by decide +kernel
theorem dX7_gave_40 : decode cX7_gave 40 = .ok (.aload_n 0, 1) := by decide +kernel
theorem dX7_gave_41 : decode cX7_gave 41 = .ok (.getfield 19, 3) := by decide +kernel
theorem dX7_gave_44 : decode cX7_gave 44 = .ok (.iload_n 1, 1) := by decide +kernel
theorem dX7_gave_45 : decode cX7_gave 45 = .ok (.invokevirtual 110, 3) := by decide +kernel
theorem dX7_gave_48 : decode cX7_gave 48 = .ok (.ifCond .eq 6, 3) := by decide +kernel
theorem dX7_gave_51 : decode cX7_gave 51 = .ok (.bipush (-3), 2) := by decide +kernel
theorem dX7_gave_53 : decode cX7_gave 53 = .ok (.ireturn, 1) := by decide +kernel
theorem dX7_gave_54 : decode cX7_gave 54 = .ok (.aload_n 0, 1) := by decide +kernel
theorem dX7_gave_55 : decode cX7_gave 55 = .ok (.getfield 47, 3) := by decide +kernel
theorem dX7_gave_58 : decode cX7_gave 58 = .ok (.aload_n 0, 1) := by decide +kernel
theorem dX7_gave_59 : decode cX7_gave 59 = .ok (.getfield 19, 3) := by decide +kernel
theorem dX7_gave_62 : decode cX7_gave 62 = .ok (.iload_n 1, 1) := by decide +kernel
theorem dX7_gave_63 : decode cX7_gave 63 = .ok (.iload_n 2, 1) := by decide +kernel
theorem dX7_gave_64 : decode cX7_gave 64 = .ok (.invokevirtual 191, 3) := by decide +kernel
theorem dX7_gave_67 : decode cX7_gave 67 = .ok (.iload_n 3, 1) := by decide +kernel
theorem dX7_gave_68 : decode cX7_gave 68 = .ok (.ifCond .ne 11, 3) := by decide +kernel
theorem dX7_gave_71 : decode cX7_gave 71 = .ok (.aload_n 0, 1) := by decide +kernel
theorem dX7_gave_72 : decode cX7_gave 72 = .ok (.getfield 47, 3) := by decide +kernel
theorem dX7_gave_75 : decode cX7_gave 75 = .ok (.getfield 195, 3) := by decide +kernel
theorem dX7_gave_78 : decode cX7_gave 78 = .ok (.ireturn, 1) := by decide +kernel
theorem dX7_gave_79 : decode cX7_gave 79 = .ok (.aload_n 0, 1) := by decide +kernel
theorem dX7_gave_80 : decode cX7_gave 80 = .ok (.getfield 47, 3) := by decide +kernel
theorem dX7_gave_83 : decode cX7_gave 83 = .ok (.getfield 195, 3) := by decide +kernel
theorem dX7_gave_86 : decode cX7_gave 86 = .ok (.ifCond .ne 6, 3) := by decide +kernel
theorem dX7_gave_89 : decode cX7_gave 89 = .ok (.bipush (-9), 2) := by decide +kernel
theorem dX7_gave_91 : decode cX7_gave 91 = .ok (.ireturn, 1) := by decide +kernel
theorem dX7_gave_92 : decode cX7_gave 92 = .ok (.iload_n 3, 1) := by decide +kernel
theorem dX7_gave_93 : decode cX7_gave 93 = .ok (.iconst 1, 1) := by decide +kernel
theorem dX7_gave_94 : decode cX7_gave 94 = .ok (.if_icmp .ne 13, 3) := by decide +kernel
theorem dX7_gave_97 : decode cX7_gave 97 = .ok (.aload_n 0, 1) := by decide +kernel
theorem dX7_gave_98 : decode cX7_gave 98 = .ok (.getfield 47, 3) := by decide +kernel
theorem dX7_gave_101 : decode cX7_gave 101 = .ok (.getfield 198, 3) := by decide +kernel
theorem dX7_gave_104 : decode cX7_gave 104 = .ok (.goto 10, 3) := by decide +kernel
theorem dX7_gave_107 : decode cX7_gave 107 = .ok (.aload_n 0, 1) := by decide +kernel
theorem dX7_gave_108 : decode cX7_gave 108 = .ok (.getfield 47, 3) := by decide +kernel
theorem dX7_gave_111 : decode cX7_gave 111 = .ok (.getfield 201, 3) := by decide +kernel
theorem dX7_gave_114 : decode cX7_gave 114 = .ok (.ireturn, 1) := by decide +kernel
theorem dX7_rests_0 : decode cX7_rests 0 = .ok (.aload_n 0, 1) := by decide +kernel
theorem dX7_rests_1 : decode cX7_rests 1 = .ok (.getfield 19, 3) := by decide +kernel
theorem dX7_rests_4 : decode cX7_rests 4 = .ok (.iload_n 1, 1) := by decide +kernel
theorem dX7_rests_5 : decode cX7_rests 5 = .ok (.invokevirtual 77, 3) := by decide +kernel
theorem dX7_rests_8 : decode cX7_rests 8 = .ok (.ifCond .eq 25, 3) := by decide +kernel
theorem dX7_rests_11 : decode cX7_rests 11 = .ok (.aload_n 0, 1) := by decide +kernel
theorem dX7_rests_12 : decode cX7_rests 12 = .ok (.getfield 19, 3) := by decide +kernel
theorem dX7_rests_15 : decode cX7_rests 15 = .ok (.iload_n 2, 1) := by decide +kernel
theorem dX7_rests_16 : decode cX7_rests 16 = .ok (.invokevirtual 77, 3) := by decide +kernel
theorem dX7_rests_19 : decode cX7_rests 19 = .ok (.ifCond .eq 14, 3) := by decide +kernel
theorem dX7_rests_22 : decode cX7_rests 22 = .ok (.aload_n 0, 1) := by decide +kernel
theorem dX7_rests_23 : decode cX7_rests 23 = .ok (.getfield 19, 3) := by decide +kernel
theorem dX7_rests_26 : decode cX7_rests 26 = .ok (.iload_n 3, 1) := by decide +kernel
theorem dX7_rests_27 : decode cX7_rests 27 = .ok (.invokevirtual 104, 3) := by decide +kernel
theorem dX7_rests_30 : decode cX7_rests 30 = .ok (.ifCond .ne 5, 3) := by decide +kernel
theorem dX7_rests_33 : decode cX7_rests 33 = .ok (.iconst (-1), 1) := by decide +kernel
theorem dX7_rests_34 : decode cX7_rests 34 = .ok (.ireturn, 1) := by decide +kernel
theorem dX7_rests_35 : decode cX7_rests 35 = .ok (.iload_n 1, 1) := by decide +kernel
theorem dX7_rests_36 : decode cX7_rests 36 = .ok (.iload_n 2, 1) := by decide +kernel
theorem dX7_rests_37 : decode cX7_rests 37 = .ok (.if_icmp .eq 14, 3) := by decide +kernel
theorem dX7_rests_40 : decode cX7_rests 40 = .ok (.iload 4, 2) := by decide +kernel
theorem dX7_rests_42 : decode cX7_rests 42 = .ok (.ifCond .lt 9, 3) := by decide +kernel
theorem dX7_rests_45 : decode cX7_rests 45 = .ok (.iload 4, 2) := by decide +kernel
theorem dX7_rests_47 : decode cX7_rests 47 = .ok (.iconst 1, 1) := by decide +kernel
theorem dX7_rests_48 : decode cX7_rests 48 = .ok (.if_icmp .le 6, 3) := by decide +kernel
theorem dX7_rests_51 : decode cX7_rests 51 = .ok (.bipush (-2), 2) := by decide +kernel
theorem dX7_rests_53 : decode cX7_rests 53 = .ok (.ireturn, 1) := by decide +kernel
theorem dX7_rests_54 : decode cX7_rests 54 = .ok (.aload_n 0, 1) := by decide +kernel
theorem dX7_rests_55 : decode cX7_rests 55 = .ok (.getfield 19, 3) := by decide +kernel
theorem dX7_rests_58 : decode cX7_rests 58 = .ok (.iload_n 3, 1) := by decide +kernel
theorem dX7_rests_59 : decode cX7_rests 59 = .ok (.invokevirtual 110, 3) := by decide +kernel
theorem dX7_rests_62 : decode cX7_rests 62 = .ok (.ifCond .eq 6, 3) := by decide +kernel
theorem dX7_rests_65 : decode cX7_rests 65 = .ok (.bipush (-3), 2) := by decide +kernel
theorem dX7_rests_67 : decode cX7_rests 67 = .ok (.ireturn, 1) := by decide +kernel
theorem dX7_rests_68 : decode cX7_rests 68 = .ok (.aload_n 0, 1) := by decide +kernel
theorem dX7_rests_69 : decode cX7_rests 69 = .ok (.getfield 47, 3) := by decide +kernel
theorem dX7_rests_72 : decode cX7_rests 72 = .ok (.aload_n 0, 1) := by decide +kernel
theorem dX7_rests_73 : decode cX7_rests 73 = .ok (.getfield 19, 3) := by decide +kernel
theorem dX7_rests_76 : decode cX7_rests 76 = .ok (.iload_n 1, 1) := by decide +kernel
theorem dX7_rests_77 : decode cX7_rests 77 = .ok (.iload_n 2, 1) := by decide +kernel
theorem dX7_rests_78 : decode cX7_rests 78 = .ok (.iload_n 3, 1) := by decide +kernel
theorem dX7_rests_79 : decode cX7_rests 79 = .ok (.invokevirtual 204, 3) := by decide +kernel
theorem dX7_rests_82 : decode cX7_rests 82 = .ok (.iload 4, 2) := by decide +kernel
theorem dX7_rests_84 : decode cX7_rests 84 = .ok (.ifCond .ne 13, 3) := by decide +kernel
theorem dX7_rests_87 : decode cX7_rests 87 = .ok (.aload_n 0, 1) := by decide +kernel
theorem dX7_rests_88 : decode cX7_rests 88 = .ok (.getfield 47, 3) := by decide +kernel
theorem dX7_rests_91 : decode cX7_rests 91 = .ok (.getfield 195, 3) := by decide +kernel
theorem dX7_rests_94 : decode cX7_rests 94 = .ok (.goto 10, 3) := by decide +kernel
theorem dX7_rests_97 : decode cX7_rests 97 = .ok (.aload_n 0, 1) := by decide +kernel
theorem dX7_rests_98 : decode cX7_rests 98 = .ok (.getfield 47, 3) := by decide +kernel
theorem dX7_rests_101 : decode cX7_rests 101 = .ok (.getfield 208, 3) := by decide +kernel
theorem dX7_rests_104 : decode cX7_rests 104 = .ok (.ireturn, 1) := by decide +kernel
theorem dX7_asleep_0 : decode cX7_asleep 0 = .ok (.aload_n 0, 1) := by decide +kernel
theorem dX7_asleep_1 : decode cX7_asleep 1 = .ok (.getfield 19, 3) := by decide +kernel
theorem dX7_asleep_4 : decode cX7_asleep 4 = .ok (.iload_n 1, 1) := by decide +kernel
theorem dX7_asleep_5 : decode cX7_asleep 5 = .ok (.invokevirtual 77, 3) := by decide +kernel
theorem dX7_asleep_8 : decode cX7_asleep 8 = .ok (.ifCond .ne 5, 3) := by decide +kernel
theorem dX7_asleep_11 : decode cX7_asleep 11 = .ok (.iconst (-1), 1) := by decide +kernel
theorem dX7_asleep_12 : decode cX7_asleep 12 = .ok (.ireturn, 1) := by decide +kernel
theorem dX7_asleep_13 : decode cX7_asleep 13 = .ok (.iload_n 2, 1) := by decide +kernel
theorem dX7_asleep_14 : decode cX7_asleep 14 = .ok (.ifCond .lt 24, 3) := by decide +kernel
theorem dX7_asleep_17 : decode cX7_asleep 17 = .ok (.iload_n 2, 1) := by decide +kernel
theorem dX7_asleep_18 : decode cX7_asleep 18 = .ok (.aload_n 0, 1) := by decide +kernel
theorem dX7_asleep_19 : decode cX7_asleep 19 = .ok (.getfield 19, 3) := by decide +kernel
theorem dX7_asleep_22 : decode cX7_asleep 22 = .ok (.getfield 74, 3) := by decide +kernel
theorem dX7_asleep_25 : decode cX7_asleep 25 = .ok (.if_icmp .ge 13, 3) := by decide +kernel
theorem dX7_asleep_28 : decode cX7_asleep 28 = .ok (.iload_n 3, 1) := by decide +kernel
theorem dX7_asleep_29 : decode cX7_asleep 29 = .ok (.ifCond .lt 9, 3) := by decide +kernel
theorem dX7_asleep_32 : decode cX7_asleep 32 = .ok (.iload_n 3, 1) := by decide +kernel
theorem dX7_asleep_33 : decode cX7_asleep 33 = .ok (.bipush 10, 2) := by decide +kernel
theorem dX7_asleep_35 : decode cX7_asleep 35 = .ok (.if_icmp .le 6, 3) := by decide +kernel
theorem dX7_asleep_38 : decode cX7_asleep 38 = .ok (.bipush (-2), 2) := by decide +kernel
theorem dX7_asleep_40 : decode cX7_asleep 40 = .ok (.ireturn, 1) := by decide +kernel
theorem dX7_asleep_41 : decode cX7_asleep 41 = .ok (.bipush 10, 2) := by decide +kernel
theorem dX7_asleep_43 : decode cX7_asleep 43 = .ok (.aload_n 0, 1) := by decide +kernel
theorem dX7_asleep_44 : decode cX7_asleep 44 = .ok (.getfield 19, 3) := by decide +kernel
theorem dX7_asleep_47 : decode cX7_asleep 47 = .ok (.invokevirtual 116, 3) := by decide +kernel
theorem dX7_asleep_50 : decode cX7_asleep 50 = .ok (.invokestatic 211, 3) := by decide +kernel
theorem dX7_asleep_53 : decode cX7_asleep 53 = .ok (.istore 5, 2) := by decide +kernel
theorem dX7_asleep_55 : decode cX7_asleep 55 = .ok (.aload_n 0, 1) := by decide +kernel
theorem dX7_asleep_56 : decode cX7_asleep 56 = .ok (.getfield 47, 3) := by decide +kernel
theorem dX7_asleep_59 : decode cX7_asleep 59 = .ok (.aload_n 0, 1) := by decide +kernel
theorem dX7_asleep_60 : decode cX7_asleep 60 = .ok (.getfield 19, 3) := by decide +kernel
theorem dX7_asleep_63 : decode cX7_asleep 63 = .ok (.iload_n 1, 1) := by decide +kernel
theorem dX7_asleep_64 : decode cX7_asleep 64 = .ok (.iload_n 2, 1) := by decide +kernel
theorem dX7_asleep_65 : decode cX7_asleep 65 = .ok (.iload_n 3, 1) := by decide +kernel
theorem dX7_asleep_66 : decode cX7_asleep 66 = .ok (.invokevirtual 214, 3) := by decide +kernel
theorem dX7_asleep_69 : decode cX7_asleep 69 = .ok (.iload 5, 2) := by decide +kernel
theorem dX7_asleep_71 : decode cX7_asleep 71 = .ok (.iload 4, 2) := by decide +kernel
theorem dX7_asleep_73 : decode cX7_asleep 73 = .ok (.invokestatic 183, 3) := by decide +kernel
theorem dX7_asleep_76 : decode cX7_asleep 76 = .ok (.ireturn, 1) := by decide +kernel
theorem dX7_seed_0 : decode cX7_seed 0 = .ok (.aload_n 0, 1) := by decide +kernel
theorem dX7_seed_1 : decode cX7_seed 1 = .ok (.getfield 218, 3) := by decide +kernel
theorem dX7_seed_4 : decode cX7_seed 4 = .ok (.lstore_n 3, 1) := by decide +kernel
theorem dX7_seed_5 : decode cX7_seed 5 = .ok (.aload_n 0, 1) := by decide +kernel
theorem dX7_seed_6 : decode cX7_seed 6 = .ok (.lload_n 1, 1) := by decide +kernel
theorem dX7_seed_7 : decode cX7_seed 7 = .ok (.putfield 218, 3) := by decide +kernel
theorem dX7_seed_10 : decode cX7_seed 10 = .ok (.lload_n 3, 1) := by decide +kernel
theorem dX7_seed_11 : decode cX7_seed 11 = .ok (.lreturn, 1) := by decide +kernel
theorem dX7_days_0 : decode cX7_days 0 = .ok (.aload_n 0, 1) := by decide +kernel
theorem dX7_days_1 : decode cX7_days 1 = .ok (.getfield 19, 3) := by decide +kernel
theorem dX7_days_4 : decode cX7_days 4 = .ok (.iload_n 1, 1) := by decide +kernel
theorem dX7_days_5 : decode cX7_days 5 = .ok (.invokevirtual 77, 3) := by decide +kernel
theorem dX7_days_8 : decode cX7_days 8 = .ok (.ifCond .ne 5, 3) := by decide +kernel
theorem dX7_days_11 : decode cX7_days 11 = .ok (.iconst (-1), 1) := by decide +kernel
theorem dX7_days_12 : decode cX7_days 12 = .ok (.ireturn, 1) := by decide +kernel
theorem dX7_days_13 : decode cX7_days 13 = .ok (.iload_n 2, 1) := by decide +kernel
theorem dX7_days_14 : decode cX7_days 14 = .ok (.iconst 1, 1) := by decide +kernel
theorem dX7_days_15 : decode cX7_days 15 = .ok (.if_icmp .lt 9, 3) := by decide +kernel
theorem dX7_days_18 : decode cX7_days 18 = .ok (.iload_n 2, 1) := by decide +kernel
theorem dX7_days_19 : decode cX7_days 19 = .ok (.bipush 30, 2) := by decide +kernel
theorem dX7_days_21 : decode cX7_days 21 = .ok (.if_icmp .le 6, 3) := by decide +kernel
theorem dX7_days_24 : decode cX7_days 24 = .ok (.bipush (-2), 2) := by decide +kernel
theorem dX7_days_26 : decode cX7_days 26 = .ok (.ireturn, 1) := by decide +kernel
theorem dX7_days_27 : decode cX7_days 27 = .ok (.iconst 0, 1) := by decide +kernel
theorem dX7_days_28 : decode cX7_days 28 = .ok (.istore_n 3, 1) := by decide +kernel
theorem dX7_days_29 : decode cX7_days 29 = .ok (.iconst 0, 1) := by decide +kernel
theorem dX7_days_30 : decode cX7_days 30 = .ok (.istore 4, 2) := by decide +kernel
theorem dX7_days_32 : decode cX7_days 32 = .ok (.iload 4, 2) := by decide +kernel
theorem dX7_days_34 : decode cX7_days 34 = .ok (.iload_n 2, 1) := by decide +kernel
theorem dX7_days_35 : decode cX7_days 35 = .ok (.if_icmp .ge 59, 3) := by decide +kernel
theorem dX7_days_38 : decode cX7_days 38 = .ok (.aload_n 0, 1) := by decide +kernel
theorem dX7_days_39 : decode cX7_days 39 = .ok (.aload_n 0, 1) := by decide +kernel
theorem dX7_days_40 : decode cX7_days 40 = .ok (.getfield 218, 3) := by decide +kernel
theorem dX7_days_43 : decode cX7_days 43 = .ok (.ldc2_w 222, 3) := by decide +kernel
theorem dX7_days_46 : decode cX7_days 46 = .ok (.lmul, 1) := by decide +kernel
theorem dX7_days_47 : decode cX7_days 47 = .ok (.ldc2_w 224, 3) := by decide +kernel
theorem dX7_days_50 : decode cX7_days 50 = .ok (.ladd, 1) := by decide +kernel
theorem dX7_days_51 : decode cX7_days 51 = .ok (.putfield 218, 3) := by decide +kernel
theorem dX7_days_54 : decode cX7_days 54 = .ok (.aload_n 0, 1) := by decide +kernel
theorem dX7_days_55 : decode cX7_days 55 = .ok (.getfield 218, 3) := by decide +kernel
theorem dX7_days_58 : decode cX7_days 58 = .ok (.bipush 33, 2) := by decide +kernel
theorem dX7_days_60 : decode cX7_days 60 = .ok (.lushr, 1) := by decide +kernel
theorem dX7_days_61 : decode cX7_days 61 = .ok (.ldc2_w 226, 3) := by decide +kernel
theorem dX7_days_64 : decode cX7_days 64 = .ok (.lrem, 1) := by decide +kernel
theorem dX7_days_65 : decode cX7_days 65 = .ok (.l2i, 1) := by decide +kernel
theorem dX7_days_66 : decode cX7_days 66 = .ok (.istore 5, 2) := by decide +kernel
theorem dX7_days_68 : decode cX7_days 68 = .ok (.aload_n 0, 1) := by decide +kernel
theorem dX7_days_69 : decode cX7_days 69 = .ok (.getfield 47, 3) := by decide +kernel
theorem dX7_days_72 : decode cX7_days 72 = .ok (.aload_n 0, 1) := by decide +kernel
theorem dX7_days_73 : decode cX7_days 73 = .ok (.getfield 19, 3) := by decide +kernel
theorem dX7_days_76 : decode cX7_days 76 = .ok (.iload_n 1, 1) := by decide +kernel
theorem dX7_days_77 : decode cX7_days 77 = .ok (.iload 5, 2) := by decide +kernel
theorem dX7_days_79 : decode cX7_days 79 = .ok (.invokevirtual 228, 3) := by decide +kernel
theorem dX7_days_82 : decode cX7_days 82 = .ok (.ifCond .eq 6, 3) := by decide +kernel
theorem dX7_days_85 : decode cX7_days 85 = .ok (.iinc 3 1, 3) := by decide +kernel
theorem dX7_days_88 : decode cX7_days 88 = .ok (.iinc 4 1, 3) := by decide +kernel
theorem dX7_days_91 : decode cX7_days 91 = .ok (.goto (-59), 3) := by decide +kernel
theorem dX7_days_94 : decode cX7_days 94 = .ok (.iload_n 3, 1) := by decide +kernel
theorem dX7_days_95 : decode cX7_days 95 = .ok (.ireturn, 1) := by decide +kernel
theorem dX7_keep_0 : decode cX7_keep 0 = .ok (.iload_n 1, 1) := by decide +kernel
theorem dX7_keep_1 : decode cX7_keep 1 = .ok (.ifCond .lt 8, 3) := by decide +kernel
theorem dX7_keep_4 : decode cX7_keep 4 = .ok (.iload_n 1, 1) := by decide +kernel
theorem dX7_keep_5 : decode cX7_keep 5 = .ok (.iconst 2, 1) := by decide +kernel
theorem dX7_keep_6 : decode cX7_keep 6 = .ok (.if_icmp .lt 5, 3) := by decide +kernel
theorem dX7_keep_9 : decode cX7_keep 9 = .ok (.iconst (-1), 1) := by decide +kernel
theorem dX7_keep_10 : decode cX7_keep 10 = .ok (.ireturn, 1) := by decide +kernel
theorem dX7_keep_11 : decode cX7_keep 11 = .ok (.aload_n 0, 1) := by decide +kernel
theorem dX7_keep_12 : decode cX7_keep 12 = .ok (.getfield 33, 3) := by decide +kernel
theorem dX7_keep_15 : decode cX7_keep 15 = .ok (.iload_n 1, 1) := by decide +kernel
theorem dX7_keep_16 : decode cX7_keep 16 = .ok (.aload_n 0, 1) := by decide +kernel
theorem dX7_keep_17 : decode cX7_keep 17 = .ok (.getfield 19, 3) := by decide +kernel
theorem dX7_keep_20 : decode cX7_keep 20 = .ok (.getfield 88, 3) := by decide +kernel
theorem dX7_keep_23 : decode cX7_keep 23 = .ok (.invokevirtual 232, 3) := by decide +kernel
theorem dX7_keep_26 : decode cX7_keep 26 = .ok (.aload_n 0, 1) := by decide +kernel
theorem dX7_keep_27 : decode cX7_keep 27 = .ok (.getfield 19, 3) := by decide +kernel
theorem dX7_keep_30 : decode cX7_keep 30 = .ok (.getfield 88, 3) := by decide +kernel
theorem dX7_keep_33 : decode cX7_keep 33 = .ok (.getfield 236, 3) := by decide +kernel
theorem dX7_keep_36 : decode cX7_keep 36 = .ok (.ireturn, 1) := by decide +kernel
theorem dX7_again_0 : decode cX7_again 0 = .ok (.iload_n 1, 1) := by decide +kernel
theorem dX7_again_1 : decode cX7_again 1 = .ok (.ifCond .lt 8, 3) := by decide +kernel
theorem dX7_again_4 : decode cX7_again 4 = .ok (.iload_n 1, 1) := by decide +kernel
theorem dX7_again_5 : decode cX7_again 5 = .ok (.iconst 2, 1) := by decide +kernel
theorem dX7_again_6 : decode cX7_again 6 = .ok (.if_icmp .lt 5, 3) := by decide +kernel
theorem dX7_again_9 : decode cX7_again 9 = .ok (.iconst (-1), 1) := by decide +kernel
theorem dX7_again_10 : decode cX7_again 10 = .ok (.ireturn, 1) := by decide +kernel
theorem dX7_again_11 : decode cX7_again 11 = .ok (.aload_n 0, 1) := by decide +kernel
theorem dX7_again_12 : decode cX7_again 12 = .ok (.getfield 33, 3) := by decide +kernel
theorem dX7_again_15 : decode cX7_again 15 = .ok (.getfield 239, 3) := by decide +kernel
theorem dX7_again_18 : decode cX7_again 18 = .ok (.iload_n 1, 1) := by decide +kernel
theorem dX7_again_19 : decode cX7_again 19 = .ok (.baload, 1) := by decide +kernel
theorem dX7_again_20 : decode cX7_again 20 = .ok (.ifCond .ne 6, 3) := by decide +kernel
theorem dX7_again_23 : decode cX7_again 23 = .ok (.bipush (-3), 2) := by decide +kernel
theorem dX7_again_25 : decode cX7_again 25 = .ok (.ireturn, 1) := by decide +kernel
theorem dX7_again_26 : decode cX7_again 26 = .ok (.aload_n 0, 1) := by decide +kernel
theorem dX7_again_27 : decode cX7_again 27 = .ok (.getfield 19, 3) := by decide +kernel
theorem dX7_again_30 : decode cX7_again 30 = .ok (.getfield 88, 3) := by decide +kernel
theorem dX7_again_33 : decode cX7_again 33 = .ok (.aload_n 0, 1) := by decide +kernel
theorem dX7_again_34 : decode cX7_again 34 = .ok (.getfield 33, 3) := by decide +kernel
theorem dX7_again_37 : decode cX7_again 37 = .ok (.getfield 243, 3) := by decide +kernel
theorem dX7_again_40 : decode cX7_again 40 = .ok (.iload_n 1, 1) := by decide +kernel
theorem dX7_again_41 : decode cX7_again 41 = .ok (.aaload, 1) := by decide +kernel
theorem dX7_again_42 : decode cX7_again 42 = .ok (.invokevirtual 247, 3) := by decide +kernel
theorem dX7_again_45 : decode cX7_again 45 = .ok (.aload_n 0, 1) := by decide +kernel
theorem dX7_again_46 : decode cX7_again 46 = .ok (.getfield 26, 3) := by decide +kernel
theorem dX7_again_49 : decode cX7_again 49 = .ok (.invokevirtual 67, 3) := by decide +kernel
theorem dX7_again_52 : decode cX7_again 52 = .ok (.aload_n 0, 1) := by decide +kernel
theorem dX7_again_53 : decode cX7_again 53 = .ok (.getfield 19, 3) := by decide +kernel
theorem dX7_again_56 : decode cX7_again 56 = .ok (.getfield 88, 3) := by decide +kernel
theorem dX7_again_59 : decode cX7_again 59 = .ok (.getfield 236, 3) := by decide +kernel
theorem dX7_again_62 : decode cX7_again 62 = .ok (.ireturn, 1) := by decide +kernel
theorem dX7_count_0 : decode cX7_count 0 = .ok (.iload_n 1, 1) := by decide +kernel
theorem dX7_count_1 : decode cX7_count 1 = .ok (.tableswitch 153 0 8 #[51, 59, 67, 75, 86, 97, 118, 134, 142], 51) := by decide +kernel
theorem dX7_count_52 : decode cX7_count 52 = .ok (.aload_n 0, 1) := by decide +kernel
theorem dX7_count_53 : decode cX7_count 53 = .ok (.getfield 10, 3) := by decide +kernel
theorem dX7_count_56 : decode cX7_count 56 = .ok (.getfield 51, 3) := by decide +kernel
theorem dX7_count_59 : decode cX7_count 59 = .ok (.ireturn, 1) := by decide +kernel
theorem dX7_count_60 : decode cX7_count 60 = .ok (.aload_n 0, 1) := by decide +kernel
theorem dX7_count_61 : decode cX7_count 61 = .ok (.getfield 19, 3) := by decide +kernel
theorem dX7_count_64 : decode cX7_count 64 = .ok (.getfield 71, 3) := by decide +kernel
theorem dX7_count_67 : decode cX7_count 67 = .ok (.ireturn, 1) := by decide +kernel
theorem dX7_count_68 : decode cX7_count 68 = .ok (.aload_n 0, 1) := by decide +kernel
theorem dX7_count_69 : decode cX7_count 69 = .ok (.getfield 19, 3) := by decide +kernel
theorem dX7_count_72 : decode cX7_count 72 = .ok (.getfield 74, 3) := by decide +kernel
theorem dX7_count_75 : decode cX7_count 75 = .ok (.ireturn, 1) := by decide +kernel
theorem dX7_count_76 : decode cX7_count 76 = .ok (.aload_n 0, 1) := by decide +kernel
theorem dX7_count_77 : decode cX7_count 77 = .ok (.getfield 19, 3) := by decide +kernel
theorem dX7_count_80 : decode cX7_count 80 = .ok (.getfield 88, 3) := by decide +kernel
theorem dX7_count_83 : decode cX7_count 83 = .ok (.getfield 236, 3) := by decide +kernel
theorem dX7_count_86 : decode cX7_count 86 = .ok (.ireturn, 1) := by decide +kernel
theorem dX7_count_87 : decode cX7_count 87 = .ok (.aload_n 0, 1) := by decide +kernel
theorem dX7_count_88 : decode cX7_count 88 = .ok (.getfield 19, 3) := by decide +kernel
theorem dX7_count_91 : decode cX7_count 91 = .ok (.getfield 88, 3) := by decide +kernel
theorem dX7_count_94 : decode cX7_count 94 = .ok (.invokevirtual 126, 3) := by decide +kernel
theorem dX7_count_97 : decode cX7_count 97 = .ok (.ireturn, 1) := by decide +kernel
theorem dX7_count_98 : decode cX7_count 98 = .ok (.aload_n 0, 1) := by decide +kernel
theorem dX7_count_99 : decode cX7_count 99 = .ok (.getfield 19, 3) := by decide +kernel
theorem dX7_count_102 : decode cX7_count 102 = .ok (.getfield 88, 3) := by decide +kernel
theorem dX7_count_105 : decode cX7_count 105 = .ok (.getfield 92, 3) := by decide +kernel
theorem dX7_count_108 : decode cX7_count 108 = .ok (.aload_n 0, 1) := by decide +kernel
theorem dX7_count_109 : decode cX7_count 109 = .ok (.getfield 19, 3) := by decide +kernel
theorem dX7_count_112 : decode cX7_count 112 = .ok (.getfield 74, 3) := by decide +kernel
theorem dX7_count_115 : decode cX7_count 115 = .ok (.invokestatic 250, 3) := by decide +kernel
theorem dX7_count_118 : decode cX7_count 118 = .ok (.ireturn, 1) := by decide +kernel
theorem dX7_count_119 : decode cX7_count 119 = .ok (.aload_n 0, 1) := by decide +kernel
theorem dX7_count_120 : decode cX7_count 120 = .ok (.getfield 19, 3) := by decide +kernel
theorem dX7_count_123 : decode cX7_count 123 = .ok (.getfield 88, 3) := by decide +kernel
theorem dX7_count_126 : decode cX7_count 126 = .ok (.getfield 254, 3) := by decide +kernel
theorem dX7_count_129 : decode cX7_count 129 = .ok (.bipush 30, 2) := by decide +kernel
theorem dX7_count_131 : decode cX7_count 131 = .ok (.invokestatic 250, 3) := by decide +kernel
theorem dX7_count_134 : decode cX7_count 134 = .ok (.ireturn, 1) := by decide +kernel
theorem dX7_count_135 : decode cX7_count 135 = .ok (.aload_n 0, 1) := by decide +kernel
theorem dX7_count_136 : decode cX7_count 136 = .ok (.getfield 26, 3) := by decide +kernel
theorem dX7_count_139 : decode cX7_count 139 = .ok (.getfield 140, 3) := by decide +kernel
theorem dX7_count_142 : decode cX7_count 142 = .ok (.ireturn, 1) := by decide +kernel
theorem dX7_count_143 : decode cX7_count 143 = .ok (.aload_n 0, 1) := by decide +kernel
theorem dX7_count_144 : decode cX7_count 144 = .ok (.getfield 19, 3) := by decide +kernel
theorem dX7_count_147 : decode cX7_count 147 = .ok (.invokevirtual 146, 3) := by decide +kernel
theorem dX7_count_150 : decode cX7_count 150 = .ok (.invokevirtual 257, 3) := by decide +kernel
theorem dX7_count_153 : decode cX7_count 153 = .ok (.ireturn, 1) := by decide +kernel
theorem dX7_count_154 : decode cX7_count 154 = .ok (.bipush (-2), 2) := by decide +kernel
theorem dX7_count_156 : decode cX7_count 156 = .ok (.ireturn, 1) := by decide +kernel
theorem dX7_refusalOfTwo_0 : decode cX7_refusalOfTwo 0 = .ok (.aload_n 0, 1) := by decide +kernel
theorem dX7_refusalOfTwo_1 : decode cX7_refusalOfTwo 1 = .ok (.getfield 19, 3) := by decide +kernel
theorem dX7_refusalOfTwo_4 : decode cX7_refusalOfTwo 4 = .ok (.iload_n 1, 1) := by decide +kernel
theorem dX7_refusalOfTwo_5 : decode cX7_refusalOfTwo 5 = .ok (.invokevirtual 77, 3) := by decide +kernel
theorem dX7_refusalOfTwo_8 : decode cX7_refusalOfTwo 8 = .ok (.ifCond .eq 14, 3) := by decide +kernel
theorem dX7_refusalOfTwo_11 : decode cX7_refusalOfTwo 11 = .ok (.aload_n 0, 1) := by decide +kernel
theorem dX7_refusalOfTwo_12 : decode cX7_refusalOfTwo 12 = .ok (.getfield 19, 3) := by decide +kernel
theorem dX7_refusalOfTwo_15 : decode cX7_refusalOfTwo 15 = .ok (.iload_n 2, 1) := by decide +kernel
theorem dX7_refusalOfTwo_16 : decode cX7_refusalOfTwo 16 = .ok (.invokevirtual 77, 3) := by decide +kernel
theorem dX7_refusalOfTwo_19 : decode cX7_refusalOfTwo 19 = .ok (.ifCond .ne 5, 3) := by decide +kernel
theorem dX7_refusalOfTwo_22 : decode cX7_refusalOfTwo 22 = .ok (.iconst (-1), 1) := by decide +kernel
theorem dX7_refusalOfTwo_23 : decode cX7_refusalOfTwo 23 = .ok (.ireturn, 1) := by decide +kernel
theorem dX7_refusalOfTwo_24 : decode cX7_refusalOfTwo 24 = .ok (.iload_n 1, 1) := by decide +kernel
theorem dX7_refusalOfTwo_25 : decode cX7_refusalOfTwo 25 = .ok (.iload_n 2, 1) := by decide +kernel
theorem dX7_refusalOfTwo_26 : decode cX7_refusalOfTwo 26 = .ok (.if_icmp .ne 8, 3) := by decide +kernel
theorem dX7_refusalOfTwo_29 : decode cX7_refusalOfTwo 29 = .ok (.bipush (-2), 2) := by decide +kernel
theorem dX7_refusalOfTwo_31 : decode cX7_refusalOfTwo 31 = .ok (.goto 4, 3) := by decide +kernel
theorem dX7_refusalOfTwo_34 : decode cX7_refusalOfTwo 34 = .ok (.iconst 0, 1) := by decide +kernel
theorem dX7_refusalOfTwo_35 : decode cX7_refusalOfTwo 35 = .ok (.ireturn, 1) := by decide +kernel
theorem dX7_sum_0 : decode cX7_sum 0 = .ok (.iconst 0, 1) := by decide +kernel
theorem dX7_sum_1 : decode cX7_sum 1 = .ok (.istore_n 2, 1) := by decide +kernel
theorem dX7_sum_2 : decode cX7_sum 2 = .ok (.iconst 0, 1) := by decide +kernel
theorem dX7_sum_3 : decode cX7_sum 3 = .ok (.istore_n 3, 1) := by decide +kernel
theorem dX7_sum_4 : decode cX7_sum 4 = .ok (.iload_n 3, 1) := by decide +kernel
theorem dX7_sum_5 : decode cX7_sum 5 = .ok (.iload_n 1, 1) := by decide +kernel
theorem dX7_sum_6 : decode cX7_sum 6 = .ok (.if_icmp .ge 21, 3) := by decide +kernel
theorem dX7_sum_9 : decode cX7_sum 9 = .ok (.iload_n 3, 1) := by decide +kernel
theorem dX7_sum_10 : decode cX7_sum 10 = .ok (.aload_n 0, 1) := by decide +kernel
theorem dX7_sum_11 : decode cX7_sum 11 = .ok (.arraylength, 1) := by decide +kernel
theorem dX7_sum_12 : decode cX7_sum 12 = .ok (.if_icmp .ge 15, 3) := by decide +kernel
theorem dX7_sum_15 : decode cX7_sum 15 = .ok (.iload_n 2, 1) := by decide +kernel
theorem dX7_sum_16 : decode cX7_sum 16 = .ok (.aload_n 0, 1) := by decide +kernel
theorem dX7_sum_17 : decode cX7_sum 17 = .ok (.iload_n 3, 1) := by decide +kernel
theorem dX7_sum_18 : decode cX7_sum 18 = .ok (.iaload, 1) := by decide +kernel
theorem dX7_sum_19 : decode cX7_sum 19 = .ok (.iadd, 1) := by decide +kernel
theorem dX7_sum_20 : decode cX7_sum 20 = .ok (.istore_n 2, 1) := by decide +kernel
theorem dX7_sum_21 : decode cX7_sum 21 = .ok (.iinc 3 1, 3) := by decide +kernel
theorem dX7_sum_24 : decode cX7_sum 24 = .ok (.goto (-20), 3) := by decide +kernel
theorem dX7_sum_27 : decode cX7_sum 27 = .ok (.iload_n 2, 1) := by decide +kernel
theorem dX7_sum_28 : decode cX7_sum 28 = .ok (.ireturn, 1) := by decide +kernel
theorem dX7_power_0 : decode cX7_power 0 = .ok (.iconst 1, 1) := by decide +kernel
theorem dX7_power_1 : decode cX7_power 1 = .ok (.istore_n 2, 1) := by decide +kernel
theorem dX7_power_2 : decode cX7_power 2 = .ok (.iconst 0, 1) := by decide +kernel
theorem dX7_power_3 : decode cX7_power 3 = .ok (.istore_n 3, 1) := by decide +kernel
theorem dX7_power_4 : decode cX7_power 4 = .ok (.iload_n 3, 1) := by decide +kernel
theorem dX7_power_5 : decode cX7_power 5 = .ok (.iload_n 1, 1) := by decide +kernel
theorem dX7_power_6 : decode cX7_power 6 = .ok (.if_icmp .ge 13, 3) := by decide +kernel
theorem dX7_power_9 : decode cX7_power 9 = .ok (.iload_n 2, 1) := by decide +kernel
theorem dX7_power_10 : decode cX7_power 10 = .ok (.iload_n 0, 1) := by decide +kernel
theorem dX7_power_11 : decode cX7_power 11 = .ok (.imul, 1) := by decide +kernel
theorem dX7_power_12 : decode cX7_power 12 = .ok (.istore_n 2, 1) := by decide +kernel
theorem dX7_power_13 : decode cX7_power 13 = .ok (.iinc 3 1, 3) := by decide +kernel
theorem dX7_power_16 : decode cX7_power 16 = .ok (.goto (-12), 3) := by decide +kernel
theorem dX7_power_19 : decode cX7_power 19 = .ok (.iload_n 2, 1) := by decide +kernel
theorem dX7_power_20 : decode cX7_power 20 = .ok (.ireturn, 1) := by decide +kernel
theorem dX7_tellFraction_0 : decode cX7_tellFraction 0 = .ok (.iload_n 0, 1) := by decide +kernel
theorem dX7_tellFraction_1 : decode cX7_tellFraction 1 = .ok (.invokestatic 260, 3) := by decide +kernel
theorem dX7_tellFraction_4 : decode cX7_tellFraction 4 = .ok (.iload_n 1, 1) := by decide +kernel
theorem dX7_tellFraction_5 : decode cX7_tellFraction 5 = .ok (.invokestatic 265, 3) := by decide +kernel
theorem dX7_tellFraction_8 : decode cX7_tellFraction 8 = .ok (.istore_n 3, 1) := by decide +kernel
theorem dX7_tellFraction_9 : decode cX7_tellFraction 9 = .ok (.iload_n 2, 1) := by decide +kernel
theorem dX7_tellFraction_10 : decode cX7_tellFraction 10 = .ok (.ifCond .eq 7, 3) := by decide +kernel
theorem dX7_tellFraction_13 : decode cX7_tellFraction 13 = .ok (.iload_n 0, 1) := by decide +kernel
theorem dX7_tellFraction_14 : decode cX7_tellFraction 14 = .ok (.goto 4, 3) := by decide +kernel
theorem dX7_tellFraction_17 : decode cX7_tellFraction 17 = .ok (.iload_n 1, 1) := by decide +kernel
theorem dX7_tellFraction_18 : decode cX7_tellFraction 18 = .ok (.istore 4, 2) := by decide +kernel
theorem dX7_tellFraction_20 : decode cX7_tellFraction 20 = .ok (.iload_n 3, 1) := by decide +kernel
theorem dX7_tellFraction_21 : decode cX7_tellFraction 21 = .ok (.iconst 1, 1) := by decide +kernel
theorem dX7_tellFraction_22 : decode cX7_tellFraction 22 = .ok (.if_icmp .le 10, 3) := by decide +kernel
theorem dX7_tellFraction_25 : decode cX7_tellFraction 25 = .ok (.iload 4, 2) := by decide +kernel
theorem dX7_tellFraction_27 : decode cX7_tellFraction 27 = .ok (.iload_n 3, 1) := by decide +kernel
theorem dX7_tellFraction_28 : decode cX7_tellFraction 28 = .ok (.idiv, 1) := by decide +kernel
theorem dX7_tellFraction_29 : decode cX7_tellFraction 29 = .ok (.goto 5, 3) := by decide +kernel
theorem dX7_tellFraction_32 : decode cX7_tellFraction 32 = .ok (.iload 4, 2) := by decide +kernel
theorem dX7_tellFraction_34 : decode cX7_tellFraction 34 = .ok (.ireturn, 1) := by decide +kernel
theorem dX7_greatestDivisor_0 : decode cX7_greatestDivisor 0 = .ok (.iload_n 0, 1) := by decide +kernel
theorem dX7_greatestDivisor_1 : decode cX7_greatestDivisor 1 = .ok (.istore_n 2, 1) := by decide +kernel
theorem dX7_greatestDivisor_2 : decode cX7_greatestDivisor 2 = .ok (.iload_n 1, 1) := by decide +kernel
theorem dX7_greatestDivisor_3 : decode cX7_greatestDivisor 3 = .ok (.istore_n 3, 1) := by decide +kernel
theorem dX7_greatestDivisor_4 : decode cX7_greatestDivisor 4 = .ok (.iconst 0, 1) := by decide +kernel
theorem dX7_greatestDivisor_5 : decode cX7_greatestDivisor 5 = .ok (.istore 4, 2) := by decide +kernel
theorem dX7_greatestDivisor_7 : decode cX7_greatestDivisor 7 = .ok (.iload 4, 2) := by decide +kernel
theorem dX7_greatestDivisor_9 : decode cX7_greatestDivisor 9 = .ok (.bipush 100, 2) := by decide +kernel
theorem dX7_greatestDivisor_11 : decode cX7_greatestDivisor 11 = .ok (.if_icmp .ge 23, 3) := by decide +kernel
theorem dX7_greatestDivisor_14 : decode cX7_greatestDivisor 14 = .ok (.iload_n 3, 1) := by decide +kernel
theorem dX7_greatestDivisor_15 : decode cX7_greatestDivisor 15 = .ok (.ifCond .eq 19, 3) := by decide +kernel
theorem dX7_greatestDivisor_18 : decode cX7_greatestDivisor 18 = .ok (.iload_n 2, 1) := by decide +kernel
theorem dX7_greatestDivisor_19 : decode cX7_greatestDivisor 19 = .ok (.iload_n 3, 1) := by decide +kernel
theorem dX7_greatestDivisor_20 : decode cX7_greatestDivisor 20 = .ok (.irem, 1) := by decide +kernel
theorem dX7_greatestDivisor_21 : decode cX7_greatestDivisor 21 = .ok (.istore 5, 2) := by decide +kernel
theorem dX7_greatestDivisor_23 : decode cX7_greatestDivisor 23 = .ok (.iload_n 3, 1) := by decide +kernel
theorem dX7_greatestDivisor_24 : decode cX7_greatestDivisor 24 = .ok (.istore_n 2, 1) := by decide +kernel
theorem dX7_greatestDivisor_25 : decode cX7_greatestDivisor 25 = .ok (.iload 5, 2) := by decide +kernel
theorem dX7_greatestDivisor_27 : decode cX7_greatestDivisor 27 = .ok (.istore_n 3, 1) := by decide +kernel
theorem dX7_greatestDivisor_28 : decode cX7_greatestDivisor 28 = .ok (.iinc 4 1, 3) := by decide +kernel
theorem dX7_greatestDivisor_31 : decode cX7_greatestDivisor 31 = .ok (.goto (-24), 3) := by decide +kernel
theorem dX7_greatestDivisor_34 : decode cX7_greatestDivisor 34 = .ok (.iload_n 2, 1) := by decide +kernel
theorem dX7_greatestDivisor_35 : decode cX7_greatestDivisor 35 = .ok (.ireturn, 1) := by decide +kernel
end
section
theorem dX8_init_0 : decode cX8_init 0 = .ok (.aload_n 0, 1) := by decide +kernel
theorem dX8_init_1 : decode cX8_init 1 = .ok (.invokespecial 1, 3) := by decide +kernel
theorem dX8_init_4 : decode cX8_init 4 = .ok (.aload_n 0, 1) := by decide +kernel
theorem dX8_init_5 : decode cX8_init 5 = .ok (.bipush 6, 2) := by decide +kernel
theorem dX8_init_7 : decode cX8_init 7 = .ok (.newarray .int, 2) := by decide +kernel
theorem dX8_init_9 : decode cX8_init 9 = .ok (.putfield 7, 3) := by decide +kernel
theorem dX8_init_12 : decode cX8_init 12 = .ok (.aload_n 0, 1) := by decide +kernel
theorem dX8_init_13 : decode cX8_init 13 = .ok (.bipush 6, 2) := by decide +kernel
theorem dX8_init_15 : decode cX8_init 15 = .ok (.newarray .int, 2) := by decide +kernel
theorem dX8_init_17 : decode cX8_init 17 = .ok (.putfield 13, 3) := by decide +kernel
theorem dX8_init_20 : decode cX8_init 20 = .ok (.aload_n 0, 1) := by decide +kernel
theorem dX8_init_21 : decode cX8_init 21 = .ok (.bipush 108, 2) := by decide +kernel
theorem dX8_init_23 : decode cX8_init 23 = .ok (.newarray .int, 2) := by decide +kernel
theorem dX8_init_25 : decode cX8_init 25 = .ok (.putfield 16, 3) := by decide +kernel
theorem dX8_init_28 : decode cX8_init 28 = .ok (.aload_n 0, 1) := by decide +kernel
theorem dX8_init_29 : decode cX8_init 29 = .ok (.iconst 5, 1) := by decide +kernel
theorem dX8_init_30 : decode cX8_init 30 = .ok (.newarray .int, 2) := by decide +kernel
theorem dX8_init_32 : decode cX8_init 32 = .ok (.putfield 19, 3) := by decide +kernel
theorem dX8_init_35 : decode cX8_init 35 = .ok (.aload_n 0, 1) := by decide +kernel
theorem dX8_init_36 : decode cX8_init 36 = .ok (.bipush 18, 2) := by decide +kernel
theorem dX8_init_38 : decode cX8_init 38 = .ok (.newarray .int, 2) := by decide +kernel
theorem dX8_init_40 : decode cX8_init 40 = .ok (.putfield 22, 3) := by decide +kernel
theorem dX8_init_43 : decode cX8_init 43 = .ok (.aload_n 0, 1) := by decide +kernel
theorem dX8_init_44 : decode cX8_init 44 = .ok (.bipush 40, 2) := by decide +kernel
theorem dX8_init_46 : decode cX8_init 46 = .ok (.newarray .int, 2) := by decide +kernel
theorem dX8_init_48 : decode cX8_init 48 = .ok (.putfield 25, 3) := by decide +kernel
theorem dX8_init_51 : decode cX8_init 51 = .ok (.aload_n 0, 1) := by decide +kernel
theorem dX8_init_52 : decode cX8_init 52 = .ok (.bipush 6, 2) := by decide +kernel
theorem dX8_init_54 : decode cX8_init 54 = .ok (.newarray .int, 2) := by decide +kernel
theorem dX8_init_56 : decode cX8_init 56 = .ok (.putfield 28, 3) := by decide +kernel
theorem dX8_init_59 : decode cX8_init 59 = .ok (.aload_n 0, 1) := by decide +kernel
theorem dX8_init_60 : decode cX8_init 60 = .ok (.sipush 756, 3) := by decide +kernel
theorem dX8_init_63 : decode cX8_init 63 = .ok (.newarray .int, 2) := by decide +kernel
theorem dX8_init_65 : decode cX8_init 65 = .ok (.putfield 31, 3) := by decide +kernel
theorem dX8_init_68 : decode cX8_init 68 = .ok (.aload_n 0, 1) := by decide +kernel
theorem dX8_init_69 : decode cX8_init 69 = .ok (.bipush 64, 2) := by decide +kernel
theorem dX8_init_71 : decode cX8_init 71 = .ok (.newarray .int, 2) := by decide +kernel
theorem dX8_init_73 : decode cX8_init 73 = .ok (.putfield 34, 3) := by decide +kernel
theorem dX8_init_76 : decode cX8_init 76 = .ok (.aload_n 0, 1) := by decide +kernel
theorem dX8_init_77 : decode cX8_init 77 = .ok (.bipush 16, 2) := by decide +kernel
theorem dX8_init_79 : decode cX8_init 79 = .ok (.newarray .int, 2) := by decide +kernel
theorem dX8_init_81 : decode cX8_init 81 = .ok (.putfield 37, 3) := by decide +kernel
theorem dX8_init_84 : decode cX8_init 84 = .ok (.aload_n 0, 1) := by decide +kernel
theorem dX8_init_85 : decode cX8_init 85 = .ok (.bipush 16, 2) := by decide +kernel
theorem dX8_init_87 : decode cX8_init 87 = .ok (.newarray .int, 2) := by decide +kernel
theorem dX8_init_89 : decode cX8_init 89 = .ok (.putfield 40, 3) := by decide +kernel
theorem dX8_init_92 : decode cX8_init 92 = .ok (.aload_n 0, 1) := by decide +kernel
theorem dX8_init_93 : decode cX8_init 93 = .ok (.iconst 2, 1) := by decide +kernel
theorem dX8_init_94 : decode cX8_init 94 = .ok (.newarray .boolean, 2) := by decide +kernel
theorem dX8_init_96 : decode cX8_init 96 = .ok (.putfield 43, 3) := by decide +kernel
theorem dX8_init_99 : decode cX8_init 99 = .ok (.aload_n 0, 1) := by decide +kernel
theorem dX8_init_100 : decode cX8_init 100 = .ok (.bipush 108, 2) := by decide +kernel
theorem dX8_init_102 : decode cX8_init 102 = .ok (.newarray .int, 2) := by decide +kernel
theorem dX8_init_104 : decode cX8_init 104 = .ok (.putfield 47, 3) := by decide +kernel
theorem dX8_init_107 : decode cX8_init 107 = .ok (.aload_n 0, 1) := by decide +kernel
theorem dX8_init_108 : decode cX8_init 108 = .ok (.iconst 0, 1) := by decide +kernel
theorem dX8_init_109 : decode cX8_init 109 = .ok (.putfield 50, 3) := by decide +kernel
theorem dX8_init_112 : decode cX8_init 112 = .ok (.return_, 1) := by decide +kernel
theorem dX8_in_0 : decode cX8_in 0 = .ok (.lload_n 0, 1) := by decide +kernel
theorem dX8_in_1 : decode cX8_in 1 = .ok (.lload_n 2, 1) := by decide +kernel
theorem dX8_in_2 : decode cX8_in 2 = .ok (.lcmp, 1) := by decide +kernel
theorem dX8_in_3 : decode cX8_in 3 = .ok (.ifCond .lt 14, 3) := by decide +kernel
theorem dX8_in_6 : decode cX8_in 6 = .ok (.lload_n 0, 1) := by decide +kernel
theorem dX8_in_7 : decode cX8_in 7 = .ok (.lload 4, 2) := by decide +kernel
theorem dX8_in_9 : decode cX8_in 9 = .ok (.lcmp, 1) := by decide +kernel
theorem dX8_in_10 : decode cX8_in 10 = .ok (.ifCond .gt 7, 3) := by decide +kernel
theorem dX8_in_13 : decode cX8_in 13 = .ok (.iconst 1, 1) := by decide +kernel
theorem dX8_in_14 : decode cX8_in 14 = .ok (.goto 4, 3) := by decide +kernel
theorem dX8_in_17 : decode cX8_in 17 = .ok (.iconst 0, 1) := by decide +kernel
theorem dX8_in_18 : decode cX8_in 18 = .ok (.ireturn, 1) := by decide +kernel
theorem dX8_has_0 : decode cX8_has 0 = .ok (.iload_n 0, 1) := by decide +kernel
theorem dX8_has_1 : decode cX8_has 1 = .ok (.iload_n 1, 1) := by decide +kernel
theorem dX8_has_2 : decode cX8_has 2 = .ok (.ishr, 1) := by decide +kernel
theorem dX8_has_3 : decode cX8_has 3 = .ok (.iconst 1, 1) := by decide +kernel
theorem dX8_has_4 : decode cX8_has 4 = .ok (.iand, 1) := by decide +kernel
theorem dX8_has_5 : decode cX8_has 5 = .ok (.iconst 1, 1) := by decide +kernel
theorem dX8_has_6 : decode cX8_has 6 = .ok (.if_icmp .ne 7, 3) := by decide +kernel
theorem dX8_has_9 : decode cX8_has 9 = .ok (.iconst 1, 1) := by decide +kernel
theorem dX8_has_10 : decode cX8_has 10 = .ok (.goto 4, 3) := by decide +kernel
theorem dX8_has_13 : decode cX8_has 13 = .ok (.iconst 0, 1) := by decide +kernel
theorem dX8_has_14 : decode cX8_has 14 = .ok (.ireturn, 1) := by decide +kernel
theorem dX8_ones_0 : decode cX8_ones 0 = .ok (.iconst 0, 1) := by decide +kernel
theorem dX8_ones_1 : decode cX8_ones 1 = .ok (.istore_n 1, 1) := by decide +kernel
theorem dX8_ones_2 : decode cX8_ones 2 = .ok (.iconst 0, 1) := by decide +kernel
theorem dX8_ones_3 : decode cX8_ones 3 = .ok (.istore_n 2, 1) := by decide +kernel
theorem dX8_ones_4 : decode cX8_ones 4 = .ok (.iload_n 2, 1) := by decide +kernel
theorem dX8_ones_5 : decode cX8_ones 5 = .ok (.bipush 6, 2) := by decide +kernel
theorem dX8_ones_7 : decode cX8_ones 7 = .ok (.if_icmp .ge 17, 3) := by decide +kernel
theorem dX8_ones_10 : decode cX8_ones 10 = .ok (.iload_n 1, 1) := by decide +kernel
theorem dX8_ones_11 : decode cX8_ones 11 = .ok (.iload_n 0, 1) := by decide +kernel
theorem dX8_ones_12 : decode cX8_ones 12 = .ok (.iload_n 2, 1) := by decide +kernel
theorem dX8_ones_13 : decode cX8_ones 13 = .ok (.ishr, 1) := by decide +kernel
theorem dX8_ones_14 : decode cX8_ones 14 = .ok (.iconst 1, 1) := by decide +kernel
theorem dX8_ones_15 : decode cX8_ones 15 = .ok (.iand, 1) := by decide +kernel
theorem dX8_ones_16 : decode cX8_ones 16 = .ok (.iadd, 1) := by decide +kernel
theorem dX8_ones_17 : decode cX8_ones 17 = .ok (.istore_n 1, 1) := by decide +kernel
theorem dX8_ones_18 : decode cX8_ones 18 = .ok (.iinc 2 1, 3) := by decide +kernel
theorem dX8_ones_21 : decode cX8_ones 21 = .ok (.goto (-17), 3) := by decide +kernel
theorem dX8_ones_24 : decode cX8_ones 24 = .ok (.iload_n 1, 1) := by decide +kernel
theorem dX8_ones_25 : decode cX8_ones 25 = .ok (.ireturn, 1) := by decide +kernel
theorem dX8_write_0 : decode cX8_write 0 = .ok (.iload_n 1, 1) := by decide +kernel
theorem dX8_write_1 : decode cX8_write 1 = .ok (.i2l, 1) := by decide +kernel
theorem dX8_write_2 : decode cX8_write 2 = .ok (.lconst 0, 1) := by decide +kernel
theorem dX8_write_3 : decode cX8_write 3 = .ok (.ldc2_w 54, 3) := by decide +kernel
theorem dX8_write_6 : decode cX8_write 6 = .ok (.invokestatic 56, 3) := by decide +kernel
theorem dX8_write_9 : decode cX8_write 9 = .ok (.ifCond .ne 6, 3) := by decide +kernel
theorem dX8_write_12 : decode cX8_write 12 = .ok (.bipush (-2), 2) := by decide +kernel
theorem dX8_write_14 : decode cX8_write 14 = .ok (.ireturn, 1) := by decide +kernel
theorem dX8_write_15 : decode cX8_write 15 = .ok (.aload_n 0, 1) := by decide +kernel
theorem dX8_write_16 : decode cX8_write 16 = .ok (.getfield 60, 3) := by decide +kernel
theorem dX8_write_19 : decode cX8_write 19 = .ok (.bipush 40, 2) := by decide +kernel
theorem dX8_write_21 : decode cX8_write 21 = .ok (.if_icmp .ne 6, 3) := by decide +kernel
theorem dX8_write_24 : decode cX8_write 24 = .ok (.bipush (-4), 2) := by decide +kernel
theorem dX8_write_26 : decode cX8_write 26 = .ok (.ireturn, 1) := by decide +kernel
theorem dX8_write_27 : decode cX8_write 27 = .ok (.aload_n 0, 1) := by decide +kernel
theorem dX8_write_28 : decode cX8_write 28 = .ok (.getfield 25, 3) := by decide +kernel
theorem dX8_write_31 : decode cX8_write 31 = .ok (.aload_n 0, 1) := by decide +kernel
theorem dX8_write_32 : decode cX8_write 32 = .ok (.getfield 60, 3) := by decide +kernel
theorem dX8_write_35 : decode cX8_write 35 = .ok (.iload_n 1, 1) := by decide +kernel
theorem dX8_write_36 : decode cX8_write 36 = .ok (.iastore, 1) := by decide +kernel
theorem dX8_write_37 : decode cX8_write 37 = .ok (.aload_n 0, 1) := by decide +kernel
theorem dX8_write_38 : decode cX8_write 38 = .ok (.dup, 1) := by decide +kernel
theorem dX8_write_39 : decode cX8_write 39 = .ok (.getfield 60, 3) := by decide +kernel
theorem dX8_write_42 : decode cX8_write 42 = .ok (.iconst 1, 1) := by decide +kernel
theorem dX8_write_43 : decode cX8_write 43 = .ok (.iadd, 1) := by decide +kernel
theorem dX8_write_44 : decode cX8_write 44 = .ok (.putfield 60, 3) := by decide +kernel
theorem dX8_write_47 : decode cX8_write 47 = .ok (.aload_n 0, 1) := by decide +kernel
theorem dX8_write_48 : decode cX8_write 48 = .ok (.getfield 60, 3) := by decide +kernel
theorem dX8_write_51 : decode cX8_write 51 = .ok (.ireturn, 1) := by decide +kernel
theorem dX8_wipe_0 : decode cX8_wipe 0 = .ok (.aload_n 0, 1) := by decide +kernel
theorem dX8_wipe_1 : decode cX8_wipe 1 = .ok (.getfield 60, 3) := by decide +kernel
theorem dX8_wipe_4 : decode cX8_wipe 4 = .ok (.istore_n 1, 1) := by decide +kernel
theorem dX8_wipe_5 : decode cX8_wipe 5 = .ok (.aload_n 0, 1) := by decide +kernel
theorem dX8_wipe_6 : decode cX8_wipe 6 = .ok (.iconst 0, 1) := by decide +kernel
theorem dX8_wipe_7 : decode cX8_wipe 7 = .ok (.putfield 60, 3) := by decide +kernel
theorem dX8_wipe_10 : decode cX8_wipe 10 = .ok (.iload_n 1, 1) := by decide +kernel
theorem dX8_wipe_11 : decode cX8_wipe 11 = .ok (.ireturn, 1) := by decide +kernel
theorem dX8_figure_0 : decode cX8_figure 0 = .ok (.aload_n 0, 1) := by decide +kernel
theorem dX8_figure_1 : decode cX8_figure 1 = .ok (.getfield 63, 3) := by decide +kernel
theorem dX8_figure_4 : decode cX8_figure 4 = .ok (.bipush (-9), 2) := by decide +kernel
theorem dX8_figure_6 : decode cX8_figure 6 = .ok (.if_icmp .ne 29, 3) := by decide +kernel
theorem dX8_figure_9 : decode cX8_figure 9 = .ok (.aload_n 0, 1) := by decide +kernel
theorem dX8_figure_10 : decode cX8_figure 10 = .ok (.getfield 66, 3) := by decide +kernel
theorem dX8_figure_13 : decode cX8_figure 13 = .ok (.aload_n 0, 1) := by decide +kernel
theorem dX8_figure_14 : decode cX8_figure 14 = .ok (.getfield 60, 3) := by decide +kernel
theorem dX8_figure_17 : decode cX8_figure 17 = .ok (.if_icmp .ge 18, 3) := by decide +kernel
theorem dX8_figure_20 : decode cX8_figure 20 = .ok (.aload_n 0, 1) := by decide +kernel
theorem dX8_figure_21 : decode cX8_figure 21 = .ok (.getfield 25, 3) := by decide +kernel
theorem dX8_figure_24 : decode cX8_figure 24 = .ok (.aload_n 0, 1) := by decide +kernel
theorem dX8_figure_25 : decode cX8_figure 25 = .ok (.getfield 66, 3) := by decide +kernel
theorem dX8_figure_28 : decode cX8_figure 28 = .ok (.iaload, 1) := by decide +kernel
theorem dX8_figure_29 : decode cX8_figure 29 = .ok (.bipush 48, 2) := by decide +kernel
theorem dX8_figure_31 : decode cX8_figure 31 = .ok (.isub, 1) := by decide +kernel
theorem dX8_figure_32 : decode cX8_figure 32 = .ok (.goto 5, 3) := by decide +kernel
theorem dX8_figure_35 : decode cX8_figure 35 = .ok (.bipush (-9), 2) := by decide +kernel
theorem dX8_figure_37 : decode cX8_figure 37 = .ok (.istore_n 3, 1) := by decide +kernel
theorem dX8_figure_38 : decode cX8_figure 38 = .ok (.iload_n 3, 1) := by decide +kernel
theorem dX8_figure_39 : decode cX8_figure 39 = .ok (.i2l, 1) := by decide +kernel
theorem dX8_figure_40 : decode cX8_figure 40 = .ok (.iload_n 1, 1) := by decide +kernel
theorem dX8_figure_41 : decode cX8_figure 41 = .ok (.i2l, 1) := by decide +kernel
theorem dX8_figure_42 : decode cX8_figure 42 = .ok (.iload_n 2, 1) := by decide +kernel
theorem dX8_figure_43 : decode cX8_figure 43 = .ok (.i2l, 1) := by decide +kernel
theorem dX8_figure_44 : decode cX8_figure 44 = .ok (.invokestatic 56, 3) := by decide +kernel
theorem dX8_figure_47 : decode cX8_figure 47 = .ok (.ifCond .ne 29, 3) := by decide +kernel
theorem dX8_figure_50 : decode cX8_figure 50 = .ok (.aload_n 0, 1) := by decide +kernel
theorem dX8_figure_51 : decode cX8_figure 51 = .ok (.aload_n 0, 1) := by decide +kernel
theorem dX8_figure_52 : decode cX8_figure 52 = .ok (.getfield 63, 3) := by decide +kernel
theorem dX8_figure_55 : decode cX8_figure 55 = .ok (.bipush (-9), 2) := by decide +kernel
theorem dX8_figure_57 : decode cX8_figure 57 = .ok (.if_icmp .ne 10, 3) := by decide +kernel
theorem dX8_figure_60 : decode cX8_figure 60 = .ok (.aload_n 0, 1) := by decide +kernel
theorem dX8_figure_61 : decode cX8_figure 61 = .ok (.getfield 66, 3) := by decide +kernel
theorem dX8_figure_64 : decode cX8_figure 64 = .ok (.goto 7, 3) := by decide +kernel
theorem dX8_figure_67 : decode cX8_figure 67 = .ok (.aload_n 0, 1) := by decide +kernel
theorem dX8_figure_68 : decode cX8_figure 68 = .ok (.getfield 63, 3) := by decide +kernel
theorem dX8_figure_71 : decode cX8_figure 71 = .ok (.putfield 63, 3) := by decide +kernel
theorem dX8_figure_74 : decode cX8_figure 74 = .ok (.iload_n 1, 1) := by decide +kernel
theorem dX8_figure_75 : decode cX8_figure 75 = .ok (.ireturn, 1) := by decide +kernel
theorem dX8_figure_76 : decode cX8_figure 76 = .ok (.aload_n 0, 1) := by decide +kernel
theorem dX8_figure_77 : decode cX8_figure 77 = .ok (.dup, 1) := by decide +kernel
theorem dX8_figure_78 : decode cX8_figure 78 = .ok (.getfield 66, 3) := by decide +kernel
theorem dX8_figure_81 : decode cX8_figure 81 = .ok (.iconst 1, 1) := by decide +kernel
theorem dX8_figure_82 : decode cX8_figure 82 = .ok (.iadd, 1) := by decide +kernel
theorem dX8_figure_83 : decode cX8_figure 83 = .ok (.putfield 66, 3) := by decide +kernel
theorem dX8_figure_86 : decode cX8_figure 86 = .ok (.iload_n 3, 1) := by decide +kernel
theorem dX8_figure_87 : decode cX8_figure 87 = .ok (.ireturn, 1) := by decide +kernel
theorem dX8_readText_0 : decode cX8_readText 0 = .ok (.aload_n 0, 1) := by decide +kernel
theorem dX8_readText_1 : decode cX8_readText 1 = .ok (.iconst 0, 1) := by decide +kernel
theorem dX8_readText_2 : decode cX8_readText 2 = .ok (.putfield 66, 3) := by decide +kernel
theorem dX8_readText_5 : decode cX8_readText 5 = .ok (.aload_n 0, 1) := by decide +kernel
theorem dX8_readText_6 : decode cX8_readText 6 = .ok (.bipush (-9), 2) := by decide +kernel
theorem dX8_readText_8 : decode cX8_readText 8 = .ok (.putfield 63, 3) := by decide +kernel
theorem dX8_readText_11 : decode cX8_readText 11 = .ok (.aload_n 0, 1) := by decide +kernel
theorem dX8_readText_12 : decode cX8_readText 12 = .ok (.iconst 0, 1) := by decide +kernel
theorem dX8_readText_13 : decode cX8_readText 13 = .ok (.putfield 69, 3) := by decide +kernel
theorem dX8_readText_16 : decode cX8_readText 16 = .ok (.aload_n 0, 1) := by decide +kernel
theorem dX8_readText_17 : decode cX8_readText 17 = .ok (.iconst 0, 1) := by decide +kernel
theorem dX8_readText_18 : decode cX8_readText 18 = .ok (.putfield 72, 3) := by decide +kernel
theorem dX8_readText_21 : decode cX8_readText 21 = .ok (.aload_n 0, 1) := by decide +kernel
theorem dX8_readText_22 : decode cX8_readText 22 = .ok (.getfield 60, 3) := by decide +kernel
theorem dX8_readText_25 : decode cX8_readText 25 = .ok (.ifCond .eq 14, 3) := by decide +kernel
theorem dX8_readText_28 : decode cX8_readText 28 = .ok (.aload_n 0, 1) := by decide +kernel
theorem dX8_readText_29 : decode cX8_readText 29 = .ok (.getfield 25, 3) := by decide +kernel
theorem dX8_readText_32 : decode cX8_readText 32 = .ok (.iconst 0, 1) := by decide +kernel
theorem dX8_readText_33 : decode cX8_readText 33 = .ok (.iaload, 1) := by decide +kernel
theorem dX8_readText_34 : decode cX8_readText 34 = .ok (.bipush 67, 2) := by decide +kernel
theorem dX8_readText_36 : decode cX8_readText 36 = .ok (.if_icmp .eq 5, 3) := by decide +kernel
theorem dX8_readText_39 : decode cX8_readText 39 = .ok (.iconst 0, 1) := by decide +kernel
theorem dX8_readText_40 : decode cX8_readText 40 = .ok (.ireturn, 1) := by decide +kernel
theorem dX8_readText_41 : decode cX8_readText 41 = .ok (.aload_n 0, 1) := by decide +kernel
theorem dX8_readText_42 : decode cX8_readText 42 = .ok (.iconst 1, 1) := by decide +kernel
theorem dX8_readText_43 : decode cX8_readText 43 = .ok (.putfield 66, 3) := by decide +kernel
theorem dX8_readText_46 : decode cX8_readText 46 = .ok (.aload_n 0, 1) := by decide +kernel
theorem dX8_readText_47 : decode cX8_readText 47 = .ok (.getfield 63, 3) := by decide +kernel
theorem dX8_readText_50 : decode cX8_readText 50 = .ok (.bipush (-9), 2) := by decide +kernel
theorem dX8_readText_52 : decode cX8_readText 52 = .ok (.if_icmp .ne 188, 3) := by decide +kernel
theorem dX8_readText_55 : decode cX8_readText 55 = .ok (.aload_n 0, 1) := by decide +kernel
theorem dX8_readText_56 : decode cX8_readText 56 = .ok (.getfield 66, 3) := by decide +kernel
theorem dX8_readText_59 : decode cX8_readText 59 = .ok (.aload_n 0, 1) := by decide +kernel
theorem dX8_readText_60 : decode cX8_readText 60 = .ok (.getfield 60, 3) := by decide +kernel
theorem dX8_readText_63 : decode cX8_readText 63 = .ok (.if_icmp .ge 177, 3) := by decide +kernel
theorem dX8_readText_66 : decode cX8_readText 66 = .ok (.aload_n 0, 1) := by decide +kernel
theorem dX8_readText_67 : decode cX8_readText 67 = .ok (.getfield 25, 3) := by decide +kernel
theorem dX8_readText_70 : decode cX8_readText 70 = .ok (.aload_n 0, 1) := by decide +kernel
theorem dX8_readText_71 : decode cX8_readText 71 = .ok (.getfield 66, 3) := by decide +kernel
theorem dX8_readText_74 : decode cX8_readText 74 = .ok (.iaload, 1) := by decide +kernel
theorem dX8_readText_75 : decode cX8_readText 75 = .ok (.bipush 75, 2) := by decide +kernel
theorem dX8_readText_77 : decode cX8_readText 77 = .ok (.if_icmp .ne 49, 3) := by decide +kernel
theorem dX8_readText_80 : decode cX8_readText 80 = .ok (.aload_n 0, 1) := by decide +kernel
theorem dX8_readText_81 : decode cX8_readText 81 = .ok (.getfield 69, 3) := by decide +kernel
theorem dX8_readText_84 : decode cX8_readText 84 = .ok (.iconst 5, 1) := by decide +kernel
theorem dX8_readText_85 : decode cX8_readText 85 = .ok (.if_icmp .ge 41, 3) := by decide +kernel
theorem dX8_readText_88 : decode cX8_readText 88 = .ok (.aload_n 0, 1) := by decide +kernel
theorem dX8_readText_89 : decode cX8_readText 89 = .ok (.dup, 1) := by decide +kernel
theorem dX8_readText_90 : decode cX8_readText 90 = .ok (.getfield 66, 3) := by decide +kernel
theorem dX8_readText_93 : decode cX8_readText 93 = .ok (.iconst 1, 1) := by decide +kernel
theorem dX8_readText_94 : decode cX8_readText 94 = .ok (.iadd, 1) := by decide +kernel
theorem dX8_readText_95 : decode cX8_readText 95 = .ok (.putfield 66, 3) := by decide +kernel
theorem dX8_readText_98 : decode cX8_readText 98 = .ok (.aload_n 0, 1) := by decide +kernel
theorem dX8_readText_99 : decode cX8_readText 99 = .ok (.getfield 19, 3) := by decide +kernel
theorem dX8_readText_102 : decode cX8_readText 102 = .ok (.aload_n 0, 1) := by decide +kernel
theorem dX8_readText_103 : decode cX8_readText 103 = .ok (.getfield 69, 3) := by decide +kernel
theorem dX8_readText_106 : decode cX8_readText 106 = .ok (.aload_n 0, 1) := by decide +kernel
theorem dX8_readText_107 : decode cX8_readText 107 = .ok (.iconst 0, 1) := by decide +kernel
theorem dX8_readText_108 : decode cX8_readText 108 = .ok (.iconst 3, 1) := by decide +kernel
theorem dX8_readText_109 : decode cX8_readText 109 = .ok (.invokevirtual 75, 3) := by decide +kernel
theorem dX8_readText_112 : decode cX8_readText 112 = .ok (.iastore, 1) := by decide +kernel
theorem dX8_readText_113 : decode cX8_readText 113 = .ok (.aload_n 0, 1) := by decide +kernel
theorem dX8_readText_114 : decode cX8_readText 114 = .ok (.dup, 1) := by decide +kernel
theorem dX8_readText_115 : decode cX8_readText 115 = .ok (.getfield 69, 3) := by decide +kernel
theorem dX8_readText_118 : decode cX8_readText 118 = .ok (.iconst 1, 1) := by decide +kernel
theorem dX8_readText_119 : decode cX8_readText 119 = .ok (.iadd, 1) := by decide +kernel
theorem dX8_readText_120 : decode cX8_readText 120 = .ok (.putfield 69, 3) := by decide +kernel
theorem dX8_readText_123 : decode cX8_readText 123 = .ok (.goto (-77), 3) := by decide +kernel
theorem dX8_readText_126 : decode cX8_readText 126 = .ok (.aload_n 0, 1) := by decide +kernel
theorem dX8_readText_127 : decode cX8_readText 127 = .ok (.getfield 25, 3) := by decide +kernel
theorem dX8_readText_130 : decode cX8_readText 130 = .ok (.aload_n 0, 1) := by decide +kernel
theorem dX8_readText_131 : decode cX8_readText 131 = .ok (.getfield 66, 3) := by decide +kernel
theorem dX8_readText_134 : decode cX8_readText 134 = .ok (.iaload, 1) := by decide +kernel
theorem dX8_readText_135 : decode cX8_readText 135 = .ok (.bipush 66, 2) := by decide +kernel
theorem dX8_readText_137 : decode cX8_readText 137 = .ok (.if_icmp .ne 92, 3) := by decide +kernel
theorem dX8_readText_140 : decode cX8_readText 140 = .ok (.aload_n 0, 1) := by decide +kernel
theorem dX8_readText_141 : decode cX8_readText 141 = .ok (.getfield 72, 3) := by decide +kernel
theorem dX8_readText_144 : decode cX8_readText 144 = .ok (.bipush 6, 2) := by decide +kernel
theorem dX8_readText_146 : decode cX8_readText 146 = .ok (.if_icmp .ge 83, 3) := by decide +kernel
theorem dX8_readText_149 : decode cX8_readText 149 = .ok (.aload_n 0, 1) := by decide +kernel
theorem dX8_readText_150 : decode cX8_readText 150 = .ok (.dup, 1) := by decide +kernel
theorem dX8_readText_151 : decode cX8_readText 151 = .ok (.getfield 66, 3) := by decide +kernel
theorem dX8_readText_154 : decode cX8_readText 154 = .ok (.iconst 1, 1) := by decide +kernel
theorem dX8_readText_155 : decode cX8_readText 155 = .ok (.iadd, 1) := by decide +kernel
theorem dX8_readText_156 : decode cX8_readText 156 = .ok (.putfield 66, 3) := by decide +kernel
theorem dX8_readText_159 : decode cX8_readText 159 = .ok (.aload_n 0, 1) := by decide +kernel
theorem dX8_readText_160 : decode cX8_readText 160 = .ok (.getfield 22, 3) := by decide +kernel
theorem dX8_readText_163 : decode cX8_readText 163 = .ok (.iconst 3, 1) := by decide +kernel
theorem dX8_readText_164 : decode cX8_readText 164 = .ok (.aload_n 0, 1) := by decide +kernel
theorem dX8_readText_165 : decode cX8_readText 165 = .ok (.getfield 72, 3) := by decide +kernel
theorem dX8_readText_168 : decode cX8_readText 168 = .ok (.imul, 1) := by decide +kernel
theorem dX8_readText_169 : decode cX8_readText 169 = .ok (.aload_n 0, 1) := by decide +kernel
theorem dX8_readText_170 : decode cX8_readText 170 = .ok (.iconst 1, 1) := by decide +kernel
theorem dX8_readText_171 : decode cX8_readText 171 = .ok (.iconst 2, 1) := by decide +kernel
theorem dX8_readText_172 : decode cX8_readText 172 = .ok (.invokevirtual 75, 3) := by decide +kernel
theorem dX8_readText_175 : decode cX8_readText 175 = .ok (.iastore, 1) := by decide +kernel
theorem dX8_readText_176 : decode cX8_readText 176 = .ok (.aload_n 0, 1) := by decide +kernel
theorem dX8_readText_177 : decode cX8_readText 177 = .ok (.getfield 22, 3) := by decide +kernel
theorem dX8_readText_180 : decode cX8_readText 180 = .ok (.iconst 3, 1) := by decide +kernel
theorem dX8_readText_181 : decode cX8_readText 181 = .ok (.aload_n 0, 1) := by decide +kernel
theorem dX8_readText_182 : decode cX8_readText 182 = .ok (.getfield 72, 3) := by decide +kernel
theorem dX8_readText_185 : decode cX8_readText 185 = .ok (.imul, 1) := by decide +kernel
theorem dX8_readText_186 : decode cX8_readText 186 = .ok (.iconst 1, 1) := by decide +kernel
theorem dX8_readText_187 : decode cX8_readText 187 = .ok (.iadd, 1) := by decide +kernel
theorem dX8_readText_188 : decode cX8_readText 188 = .ok (.aload_n 0, 1) := by decide +kernel
theorem dX8_readText_189 : decode cX8_readText 189 = .ok (.iconst 0, 1) := by decide +kernel
theorem dX8_readText_190 : decode cX8_readText 190 = .ok (.bipush 9, 2) := by decide +kernel
theorem dX8_readText_192 : decode cX8_readText 192 = .ok (.invokevirtual 75, 3) := by decide +kernel
theorem dX8_readText_195 : decode cX8_readText 195 = .ok (.iastore, 1) := by decide +kernel
theorem dX8_readText_196 : decode cX8_readText 196 = .ok (.aload_n 0, 1) := by decide +kernel
theorem dX8_readText_197 : decode cX8_readText 197 = .ok (.getfield 22, 3) := by decide +kernel
theorem dX8_readText_200 : decode cX8_readText 200 = .ok (.iconst 3, 1) := by decide +kernel
theorem dX8_readText_201 : decode cX8_readText 201 = .ok (.aload_n 0, 1) := by decide +kernel
theorem dX8_readText_202 : decode cX8_readText 202 = .ok (.getfield 72, 3) := by decide +kernel
theorem dX8_readText_205 : decode cX8_readText 205 = .ok (.imul, 1) := by decide +kernel
theorem dX8_readText_206 : decode cX8_readText 206 = .ok (.iconst 2, 1) := by decide +kernel
theorem dX8_readText_207 : decode cX8_readText 207 = .ok (.iadd, 1) := by decide +kernel
theorem dX8_readText_208 : decode cX8_readText 208 = .ok (.aload_n 0, 1) := by decide +kernel
theorem dX8_readText_209 : decode cX8_readText 209 = .ok (.iconst 0, 1) := by decide +kernel
theorem dX8_readText_210 : decode cX8_readText 210 = .ok (.bipush 9, 2) := by decide +kernel
theorem dX8_readText_212 : decode cX8_readText 212 = .ok (.invokevirtual 75, 3) := by decide +kernel
theorem dX8_readText_215 : decode cX8_readText 215 = .ok (.iastore, 1) := by decide +kernel
theorem dX8_readText_216 : decode cX8_readText 216 = .ok (.aload_n 0, 1) := by decide +kernel
theorem dX8_readText_217 : decode cX8_readText 217 = .ok (.dup, 1) := by decide +kernel
theorem dX8_readText_218 : decode cX8_readText 218 = .ok (.getfield 72, 3) := by decide +kernel
theorem dX8_readText_221 : decode cX8_readText 221 = .ok (.iconst 1, 1) := by decide +kernel
theorem dX8_readText_222 : decode cX8_readText 222 = .ok (.iadd, 1) := by decide +kernel
theorem dX8_readText_223 : decode cX8_readText 223 = .ok (.putfield 72, 3) := by decide +kernel
theorem dX8_readText_226 : decode cX8_readText 226 = .ok (.goto (-180), 3) := by decide +kernel
theorem dX8_readText_229 : decode cX8_readText 229 = .ok (.aload_n 0, 1) := by decide +kernel
theorem dX8_readText_230 : decode cX8_readText 230 = .ok (.aload_n 0, 1) := by decide +kernel
theorem dX8_readText_231 : decode cX8_readText 231 = .ok (.getfield 66, 3) := by decide +kernel
theorem dX8_readText_234 : decode cX8_readText 234 = .ok (.putfield 63, 3) := by decide +kernel
theorem dX8_readText_237 : decode cX8_readText 237 = .ok (.goto (-191), 3) := by decide +kernel
theorem dX8_readText_240 : decode cX8_readText 240 = .ok (.aload_n 0, 1) := by decide +kernel
theorem dX8_readText_241 : decode cX8_readText 241 = .ok (.getfield 63, 3) := by decide +kernel
theorem dX8_readText_244 : decode cX8_readText 244 = .ok (.ireturn, 1) := by decide +kernel
theorem dX8_fault_0 : decode cX8_fault 0 = .ok (.aload_n 0, 1) := by decide +kernel
theorem dX8_fault_1 : decode cX8_fault 1 = .ok (.invokevirtual 79, 3) := by decide +kernel
theorem dX8_fault_4 : decode cX8_fault 4 = .ok (.ireturn, 1) := by decide +kernel
theorem dX8_canal_0 : decode cX8_canal 0 = .ok (.aload_n 0, 1) := by decide +kernel
theorem dX8_canal_1 : decode cX8_canal 1 = .ok (.invokevirtual 79, 3) := by decide +kernel
theorem dX8_canal_4 : decode cX8_canal 4 = .ok (.bipush (-9), 2) := by decide +kernel
theorem dX8_canal_6 : decode cX8_canal 6 = .ok (.if_icmp .eq 6, 3) := by decide +kernel
theorem dX8_canal_9 : decode cX8_canal 9 = .ok (.bipush (-3), 2) := by decide +kernel
theorem dX8_canal_11 : decode cX8_canal 11 = .ok (.ireturn, 1) := by decide +kernel
theorem dX8_canal_12 : decode cX8_canal 12 = .ok (.aload_n 0, 1) := by decide +kernel
theorem dX8_canal_13 : decode cX8_canal 13 = .ok (.aload_n 0, 1) := by decide +kernel
theorem dX8_canal_14 : decode cX8_canal 14 = .ok (.getfield 69, 3) := by decide +kernel
theorem dX8_canal_17 : decode cX8_canal 17 = .ok (.putfield 50, 3) := by decide +kernel
theorem dX8_canal_20 : decode cX8_canal 20 = .ok (.aload_n 0, 1) := by decide +kernel
theorem dX8_canal_21 : decode cX8_canal 21 = .ok (.aload_n 0, 1) := by decide +kernel
theorem dX8_canal_22 : decode cX8_canal 22 = .ok (.getfield 72, 3) := by decide +kernel
theorem dX8_canal_25 : decode cX8_canal 25 = .ok (.putfield 83, 3) := by decide +kernel
theorem dX8_canal_28 : decode cX8_canal 28 = .ok (.iconst 0, 1) := by decide +kernel
theorem dX8_canal_29 : decode cX8_canal 29 = .ok (.istore_n 1, 1) := by decide +kernel
theorem dX8_canal_30 : decode cX8_canal 30 = .ok (.iload_n 1, 1) := by decide +kernel
theorem dX8_canal_31 : decode cX8_canal 31 = .ok (.bipush 54, 2) := by decide +kernel
theorem dX8_canal_33 : decode cX8_canal 33 = .ok (.if_icmp .ge 16, 3) := by decide +kernel
theorem dX8_canal_36 : decode cX8_canal 36 = .ok (.aload_n 0, 1) := by decide +kernel
theorem dX8_canal_37 : decode cX8_canal 37 = .ok (.getfield 16, 3) := by decide +kernel
theorem dX8_canal_40 : decode cX8_canal 40 = .ok (.iload_n 1, 1) := by decide +kernel
theorem dX8_canal_41 : decode cX8_canal 41 = .ok (.iconst 0, 1) := by decide +kernel
theorem dX8_canal_42 : decode cX8_canal 42 = .ok (.iastore, 1) := by decide +kernel
theorem dX8_canal_43 : decode cX8_canal 43 = .ok (.iinc 1 1, 3) := by decide +kernel
theorem dX8_canal_46 : decode cX8_canal 46 = .ok (.goto (-16), 3) := by decide +kernel
theorem dX8_canal_49 : decode cX8_canal 49 = .ok (.iconst 0, 1) := by decide +kernel
theorem dX8_canal_50 : decode cX8_canal 50 = .ok (.istore_n 1, 1) := by decide +kernel
theorem dX8_canal_51 : decode cX8_canal 51 = .ok (.iload_n 1, 1) := by decide +kernel
theorem dX8_canal_52 : decode cX8_canal 52 = .ok (.iconst 5, 1) := by decide +kernel
theorem dX8_canal_53 : decode cX8_canal 53 = .ok (.if_icmp .ge 24, 3) := by decide +kernel
theorem dX8_canal_56 : decode cX8_canal 56 = .ok (.aload_n 0, 1) := by decide +kernel
theorem dX8_canal_57 : decode cX8_canal 57 = .ok (.getfield 16, 3) := by decide +kernel
theorem dX8_canal_60 : decode cX8_canal 60 = .ok (.bipush 12, 2) := by decide +kernel
theorem dX8_canal_62 : decode cX8_canal 62 = .ok (.iload_n 1, 1) := by decide +kernel
theorem dX8_canal_63 : decode cX8_canal 63 = .ok (.iadd, 1) := by decide +kernel
theorem dX8_canal_64 : decode cX8_canal 64 = .ok (.aload_n 0, 1) := by decide +kernel
theorem dX8_canal_65 : decode cX8_canal 65 = .ok (.getfield 19, 3) := by decide +kernel
theorem dX8_canal_68 : decode cX8_canal 68 = .ok (.iload_n 1, 1) := by decide +kernel
theorem dX8_canal_69 : decode cX8_canal 69 = .ok (.iaload, 1) := by decide +kernel
theorem dX8_canal_70 : decode cX8_canal 70 = .ok (.iastore, 1) := by decide +kernel
theorem dX8_canal_71 : decode cX8_canal 71 = .ok (.iinc 1 1, 3) := by decide +kernel
theorem dX8_canal_74 : decode cX8_canal 74 = .ok (.goto (-23), 3) := by decide +kernel
theorem dX8_canal_77 : decode cX8_canal 77 = .ok (.iconst 0, 1) := by decide +kernel
theorem dX8_canal_78 : decode cX8_canal 78 = .ok (.istore_n 1, 1) := by decide +kernel
theorem dX8_canal_79 : decode cX8_canal 79 = .ok (.iload_n 1, 1) := by decide +kernel
theorem dX8_canal_80 : decode cX8_canal 80 = .ok (.bipush 6, 2) := by decide +kernel
theorem dX8_canal_82 : decode cX8_canal 82 = .ok (.if_icmp .ge 77, 3) := by decide +kernel
theorem dX8_canal_85 : decode cX8_canal 85 = .ok (.aload_n 0, 1) := by decide +kernel
theorem dX8_canal_86 : decode cX8_canal 86 = .ok (.getfield 16, 3) := by decide +kernel
theorem dX8_canal_89 : decode cX8_canal 89 = .ok (.iload_n 1, 1) := by decide +kernel
theorem dX8_canal_90 : decode cX8_canal 90 = .ok (.iload_n 1, 1) := by decide +kernel
theorem dX8_canal_91 : decode cX8_canal 91 = .ok (.iastore, 1) := by decide +kernel
theorem dX8_canal_92 : decode cX8_canal 92 = .ok (.aload_n 0, 1) := by decide +kernel
theorem dX8_canal_93 : decode cX8_canal 93 = .ok (.getfield 7, 3) := by decide +kernel
theorem dX8_canal_96 : decode cX8_canal 96 = .ok (.iload_n 1, 1) := by decide +kernel
theorem dX8_canal_97 : decode cX8_canal 97 = .ok (.aload_n 0, 1) := by decide +kernel
theorem dX8_canal_98 : decode cX8_canal 98 = .ok (.getfield 22, 3) := by decide +kernel
theorem dX8_canal_101 : decode cX8_canal 101 = .ok (.iconst 3, 1) := by decide +kernel
theorem dX8_canal_102 : decode cX8_canal 102 = .ok (.iload_n 1, 1) := by decide +kernel
theorem dX8_canal_103 : decode cX8_canal 103 = .ok (.imul, 1) := by decide +kernel
theorem dX8_canal_104 : decode cX8_canal 104 = .ok (.iaload, 1) := by decide +kernel
theorem dX8_canal_105 : decode cX8_canal 105 = .ok (.iastore, 1) := by decide +kernel
theorem dX8_canal_106 : decode cX8_canal 106 = .ok (.aload_n 0, 1) := by decide +kernel
theorem dX8_canal_107 : decode cX8_canal 107 = .ok (.getfield 13, 3) := by decide +kernel
theorem dX8_canal_110 : decode cX8_canal 110 = .ok (.iload_n 1, 1) := by decide +kernel
theorem dX8_canal_111 : decode cX8_canal 111 = .ok (.aload_n 0, 1) := by decide +kernel
theorem dX8_canal_112 : decode cX8_canal 112 = .ok (.getfield 22, 3) := by decide +kernel
theorem dX8_canal_115 : decode cX8_canal 115 = .ok (.iconst 3, 1) := by decide +kernel
theorem dX8_canal_116 : decode cX8_canal 116 = .ok (.iload_n 1, 1) := by decide +kernel
theorem dX8_canal_117 : decode cX8_canal 117 = .ok (.imul, 1) := by decide +kernel
theorem dX8_canal_118 : decode cX8_canal 118 = .ok (.iconst 1, 1) := by decide +kernel
theorem dX8_canal_119 : decode cX8_canal 119 = .ok (.iadd, 1) := by decide +kernel
theorem dX8_canal_120 : decode cX8_canal 120 = .ok (.iaload, 1) := by decide +kernel
theorem dX8_canal_121 : decode cX8_canal 121 = .ok (.iastore, 1) := by decide +kernel
theorem dX8_canal_122 : decode cX8_canal 122 = .ok (.aload_n 0, 1) := by decide +kernel
theorem dX8_canal_123 : decode cX8_canal 123 = .ok (.getfield 16, 3) := by decide +kernel
theorem dX8_canal_126 : decode cX8_canal 126 = .ok (.bipush 17, 2) := by decide +kernel
theorem dX8_canal_128 : decode cX8_canal 128 = .ok (.iload_n 1, 1) := by decide +kernel
theorem dX8_canal_129 : decode cX8_canal 129 = .ok (.iadd, 1) := by decide +kernel
theorem dX8_canal_130 : decode cX8_canal 130 = .ok (.iload_n 1, 1) := by decide +kernel
theorem dX8_canal_131 : decode cX8_canal 131 = .ok (.aload_n 0, 1) := by decide +kernel
theorem dX8_canal_132 : decode cX8_canal 132 = .ok (.getfield 83, 3) := by decide +kernel
theorem dX8_canal_135 : decode cX8_canal 135 = .ok (.if_icmp .ge 16, 3) := by decide +kernel
theorem dX8_canal_138 : decode cX8_canal 138 = .ok (.aload_n 0, 1) := by decide +kernel
theorem dX8_canal_139 : decode cX8_canal 139 = .ok (.getfield 22, 3) := by decide +kernel
theorem dX8_canal_142 : decode cX8_canal 142 = .ok (.iconst 3, 1) := by decide +kernel
theorem dX8_canal_143 : decode cX8_canal 143 = .ok (.iload_n 1, 1) := by decide +kernel
theorem dX8_canal_144 : decode cX8_canal 144 = .ok (.imul, 1) := by decide +kernel
theorem dX8_canal_145 : decode cX8_canal 145 = .ok (.iconst 2, 1) := by decide +kernel
theorem dX8_canal_146 : decode cX8_canal 146 = .ok (.iadd, 1) := by decide +kernel
theorem dX8_canal_147 : decode cX8_canal 147 = .ok (.iaload, 1) := by decide +kernel
theorem dX8_canal_148 : decode cX8_canal 148 = .ok (.goto 4, 3) := by decide +kernel
theorem dX8_canal_151 : decode cX8_canal 151 = .ok (.iconst 0, 1) := by decide +kernel
theorem dX8_canal_152 : decode cX8_canal 152 = .ok (.iastore, 1) := by decide +kernel
theorem dX8_canal_153 : decode cX8_canal 153 = .ok (.iinc 1 1, 3) := by decide +kernel
theorem dX8_canal_156 : decode cX8_canal 156 = .ok (.goto (-77), 3) := by decide +kernel
theorem dX8_canal_159 : decode cX8_canal 159 = .ok (.aload_n 0, 1) := by decide +kernel
theorem dX8_canal_160 : decode cX8_canal 160 = .ok (.iconst 0, 1) := by decide +kernel
theorem dX8_canal_161 : decode cX8_canal 161 = .ok (.putfield 86, 3) := by decide +kernel
theorem dX8_canal_164 : decode cX8_canal 164 = .ok (.aload_n 0, 1) := by decide +kernel
theorem dX8_canal_165 : decode cX8_canal 165 = .ok (.getfield 43, 3) := by decide +kernel
theorem dX8_canal_168 : decode cX8_canal 168 = .ok (.iconst 0, 1) := by decide +kernel
theorem dX8_canal_169 : decode cX8_canal 169 = .ok (.iconst 0, 1) := by decide +kernel
theorem dX8_canal_170 : decode cX8_canal 170 = .ok (.bastore, 1) := by decide +kernel
theorem dX8_canal_171 : decode cX8_canal 171 = .ok (.aload_n 0, 1) := by decide +kernel
theorem dX8_canal_172 : decode cX8_canal 172 = .ok (.getfield 43, 3) := by decide +kernel
theorem dX8_canal_175 : decode cX8_canal 175 = .ok (.iconst 1, 1) := by decide +kernel
theorem dX8_canal_176 : decode cX8_canal 176 = .ok (.iconst 0, 1) := by decide +kernel
theorem dX8_canal_177 : decode cX8_canal 177 = .ok (.bastore, 1) := by decide +kernel
theorem dX8_canal_178 : decode cX8_canal 178 = .ok (.bipush 10, 2) := by decide +kernel
theorem dX8_canal_180 : decode cX8_canal 180 = .ok (.aload_n 0, 1) := by decide +kernel
theorem dX8_canal_181 : decode cX8_canal 181 = .ok (.getfield 50, 3) := by decide +kernel
theorem dX8_canal_184 : decode cX8_canal 184 = .ok (.imul, 1) := by decide +kernel
theorem dX8_canal_185 : decode cX8_canal 185 = .ok (.aload_n 0, 1) := by decide +kernel
theorem dX8_canal_186 : decode cX8_canal 186 = .ok (.getfield 83, 3) := by decide +kernel
theorem dX8_canal_189 : decode cX8_canal 189 = .ok (.iadd, 1) := by decide +kernel
theorem dX8_canal_190 : decode cX8_canal 190 = .ok (.ireturn, 1) := by decide +kernel
theorem dX8_isBarge_0 : decode cX8_isBarge 0 = .ok (.iload_n 1, 1) := by decide +kernel
theorem dX8_isBarge_1 : decode cX8_isBarge 1 = .ok (.i2l, 1) := by decide +kernel
theorem dX8_isBarge_2 : decode cX8_isBarge 2 = .ok (.lconst 0, 1) := by decide +kernel
theorem dX8_isBarge_3 : decode cX8_isBarge 3 = .ok (.aload_n 0, 1) := by decide +kernel
theorem dX8_isBarge_4 : decode cX8_isBarge 4 = .ok (.getfield 83, 3) := by decide +kernel
theorem dX8_isBarge_7 : decode cX8_isBarge 7 = .ok (.iconst 1, 1) := by decide +kernel
theorem dX8_isBarge_8 : decode cX8_isBarge 8 = .ok (.isub, 1) := by decide +kernel
theorem dX8_isBarge_9 : decode cX8_isBarge 9 = .ok (.i2l, 1) := by decide +kernel
theorem dX8_isBarge_10 : decode cX8_isBarge 10 = .ok (.invokestatic 56, 3) := by decide +kernel
theorem dX8_isBarge_13 : decode cX8_isBarge 13 = .ok (.ireturn, 1) := by decide +kernel
theorem dX8_isLock_0 : decode cX8_isLock 0 = .ok (.iload_n 1, 1) := by decide +kernel
theorem dX8_isLock_1 : decode cX8_isLock 1 = .ok (.i2l, 1) := by decide +kernel
theorem dX8_isLock_2 : decode cX8_isLock 2 = .ok (.lconst 0, 1) := by decide +kernel
theorem dX8_isLock_3 : decode cX8_isLock 3 = .ok (.aload_n 0, 1) := by decide +kernel
theorem dX8_isLock_4 : decode cX8_isLock 4 = .ok (.getfield 50, 3) := by decide +kernel
theorem dX8_isLock_7 : decode cX8_isLock 7 = .ok (.iconst 1, 1) := by decide +kernel
theorem dX8_isLock_8 : decode cX8_isLock 8 = .ok (.isub, 1) := by decide +kernel
theorem dX8_isLock_9 : decode cX8_isLock 9 = .ok (.i2l, 1) := by decide +kernel
theorem dX8_isLock_10 : decode cX8_isLock 10 = .ok (.invokestatic 56, 3) := by decide +kernel
theorem dX8_isLock_13 : decode cX8_isLock 13 = .ok (.ireturn, 1) := by decide +kernel
theorem dX8_placeOf_0 : decode cX8_placeOf 0 = .ok (.bipush (-9), 2) := by decide +kernel
theorem dX8_placeOf_2 : decode cX8_placeOf 2 = .ok (.istore 4, 2) := by decide +kernel
theorem dX8_placeOf_4 : decode cX8_placeOf 4 = .ok (.iconst 0, 1) := by decide +kernel
theorem dX8_placeOf_5 : decode cX8_placeOf 5 = .ok (.istore 5, 2) := by decide +kernel
theorem dX8_placeOf_7 : decode cX8_placeOf 7 = .ok (.iload 5, 2) := by decide +kernel
theorem dX8_placeOf_9 : decode cX8_placeOf 9 = .ok (.iload_n 3, 1) := by decide +kernel
theorem dX8_placeOf_10 : decode cX8_placeOf 10 = .ok (.if_icmp .ge 34, 3) := by decide +kernel
theorem dX8_placeOf_13 : decode cX8_placeOf 13 = .ok (.aload_n 0, 1) := by decide +kernel
theorem dX8_placeOf_14 : decode cX8_placeOf 14 = .ok (.getfield 16, 3) := by decide +kernel
theorem dX8_placeOf_17 : decode cX8_placeOf 17 = .ok (.bipush 54, 2) := by decide +kernel
theorem dX8_placeOf_19 : decode cX8_placeOf 19 = .ok (.iload_n 1, 1) := by decide +kernel
theorem dX8_placeOf_20 : decode cX8_placeOf 20 = .ok (.imul, 1) := by decide +kernel
theorem dX8_placeOf_21 : decode cX8_placeOf 21 = .ok (.iload 5, 2) := by decide +kernel
theorem dX8_placeOf_23 : decode cX8_placeOf 23 = .ok (.iadd, 1) := by decide +kernel
theorem dX8_placeOf_24 : decode cX8_placeOf 24 = .ok (.iaload, 1) := by decide +kernel
theorem dX8_placeOf_25 : decode cX8_placeOf 25 = .ok (.iload_n 2, 1) := by decide +kernel
theorem dX8_placeOf_26 : decode cX8_placeOf 26 = .ok (.if_icmp .ne 8, 3) := by decide +kernel
theorem dX8_placeOf_29 : decode cX8_placeOf 29 = .ok (.iload 5, 2) := by decide +kernel
theorem dX8_placeOf_31 : decode cX8_placeOf 31 = .ok (.goto 5, 3) := by decide +kernel
theorem dX8_placeOf_34 : decode cX8_placeOf 34 = .ok (.iload 4, 2) := by decide +kernel
theorem dX8_placeOf_36 : decode cX8_placeOf 36 = .ok (.istore 4, 2) := by decide +kernel
theorem dX8_placeOf_38 : decode cX8_placeOf 38 = .ok (.iinc 5 1, 3) := by decide +kernel
theorem dX8_placeOf_41 : decode cX8_placeOf 41 = .ok (.goto (-34), 3) := by decide +kernel
theorem dX8_placeOf_44 : decode cX8_placeOf 44 = .ok (.iload 4, 2) := by decide +kernel
theorem dX8_placeOf_46 : decode cX8_placeOf 46 = .ok (.ireturn, 1) := by decide +kernel
theorem dX8_barge_0 : decode cX8_barge 0 = .ok (.aload_n 0, 1) := by decide +kernel
theorem dX8_barge_1 : decode cX8_barge 1 = .ok (.iload_n 1, 1) := by decide +kernel
theorem dX8_barge_2 : decode cX8_barge 2 = .ok (.invokevirtual 89, 3) := by decide +kernel
theorem dX8_barge_5 : decode cX8_barge 5 = .ok (.ifCond .ne 5, 3) := by decide +kernel
theorem dX8_barge_8 : decode cX8_barge 8 = .ok (.iconst (-1), 1) := by decide +kernel
theorem dX8_barge_9 : decode cX8_barge 9 = .ok (.ireturn, 1) := by decide +kernel
theorem dX8_barge_10 : decode cX8_barge 10 = .ok (.iload_n 2, 1) := by decide +kernel
theorem dX8_barge_11 : decode cX8_barge 11 = .ok (.tableswitch 78 0 4 #[33, 40, 47, 57, 68], 33) := by decide +kernel
theorem dX8_barge_44 : decode cX8_barge 44 = .ok (.aload_n 0, 1) := by decide +kernel
theorem dX8_barge_45 : decode cX8_barge 45 = .ok (.getfield 7, 3) := by decide +kernel
theorem dX8_barge_48 : decode cX8_barge 48 = .ok (.iload_n 1, 1) := by decide +kernel
theorem dX8_barge_49 : decode cX8_barge 49 = .ok (.iaload, 1) := by decide +kernel
theorem dX8_barge_50 : decode cX8_barge 50 = .ok (.ireturn, 1) := by decide +kernel
theorem dX8_barge_51 : decode cX8_barge 51 = .ok (.aload_n 0, 1) := by decide +kernel
theorem dX8_barge_52 : decode cX8_barge 52 = .ok (.getfield 13, 3) := by decide +kernel
theorem dX8_barge_55 : decode cX8_barge 55 = .ok (.iload_n 1, 1) := by decide +kernel
theorem dX8_barge_56 : decode cX8_barge 56 = .ok (.iaload, 1) := by decide +kernel
theorem dX8_barge_57 : decode cX8_barge 57 = .ok (.ireturn, 1) := by decide +kernel
theorem dX8_barge_58 : decode cX8_barge 58 = .ok (.aload_n 0, 1) := by decide +kernel
theorem dX8_barge_59 : decode cX8_barge 59 = .ok (.getfield 16, 3) := by decide +kernel
theorem dX8_barge_62 : decode cX8_barge 62 = .ok (.bipush 17, 2) := by decide +kernel
theorem dX8_barge_64 : decode cX8_barge 64 = .ok (.iload_n 1, 1) := by decide +kernel
theorem dX8_barge_65 : decode cX8_barge 65 = .ok (.iadd, 1) := by decide +kernel
theorem dX8_barge_66 : decode cX8_barge 66 = .ok (.iaload, 1) := by decide +kernel
theorem dX8_barge_67 : decode cX8_barge 67 = .ok (.ireturn, 1) := by decide +kernel
theorem dX8_barge_68 : decode cX8_barge 68 = .ok (.aload_n 0, 1) := by decide +kernel
theorem dX8_barge_69 : decode cX8_barge 69 = .ok (.iconst 0, 1) := by decide +kernel
theorem dX8_barge_70 : decode cX8_barge 70 = .ok (.iload_n 1, 1) := by decide +kernel
theorem dX8_barge_71 : decode cX8_barge 71 = .ok (.aload_n 0, 1) := by decide +kernel
theorem dX8_barge_72 : decode cX8_barge 72 = .ok (.getfield 83, 3) := by decide +kernel
theorem dX8_barge_75 : decode cX8_barge 75 = .ok (.invokevirtual 93, 3) := by decide +kernel
theorem dX8_barge_78 : decode cX8_barge 78 = .ok (.ireturn, 1) := by decide +kernel
theorem dX8_barge_79 : decode cX8_barge 79 = .ok (.aload_n 0, 1) := by decide +kernel
theorem dX8_barge_80 : decode cX8_barge 80 = .ok (.getfield 16, 3) := by decide +kernel
theorem dX8_barge_83 : decode cX8_barge 83 = .ok (.bipush 6, 2) := by decide +kernel
theorem dX8_barge_85 : decode cX8_barge 85 = .ok (.iload_n 1, 1) := by decide +kernel
theorem dX8_barge_86 : decode cX8_barge 86 = .ok (.iadd, 1) := by decide +kernel
theorem dX8_barge_87 : decode cX8_barge 87 = .ok (.iaload, 1) := by decide +kernel
theorem dX8_barge_88 : decode cX8_barge 88 = .ok (.ireturn, 1) := by decide +kernel
theorem dX8_barge_89 : decode cX8_barge 89 = .ok (.bipush (-2), 2) := by decide +kernel
theorem dX8_barge_91 : decode cX8_barge 91 = .ok (.ireturn, 1) := by decide +kernel
theorem dX8_givenAt_0 : decode cX8_givenAt 0 = .ok (.iconst 0, 1) := by decide +kernel
theorem dX8_givenAt_1 : decode cX8_givenAt 1 = .ok (.istore_n 2, 1) := by decide +kernel
theorem dX8_givenAt_2 : decode cX8_givenAt 2 = .ok (.iconst 0, 1) := by decide +kernel
theorem dX8_givenAt_3 : decode cX8_givenAt 3 = .ok (.istore_n 3, 1) := by decide +kernel
theorem dX8_givenAt_4 : decode cX8_givenAt 4 = .ok (.iload_n 3, 1) := by decide +kernel
theorem dX8_givenAt_5 : decode cX8_givenAt 5 = .ok (.bipush 6, 2) := by decide +kernel
theorem dX8_givenAt_7 : decode cX8_givenAt 7 = .ok (.if_icmp .ge 26, 3) := by decide +kernel
theorem dX8_givenAt_10 : decode cX8_givenAt 10 = .ok (.iload_n 2, 1) := by decide +kernel
theorem dX8_givenAt_11 : decode cX8_givenAt 11 = .ok (.aload_n 0, 1) := by decide +kernel
theorem dX8_givenAt_12 : decode cX8_givenAt 12 = .ok (.getfield 16, 3) := by decide +kernel
theorem dX8_givenAt_15 : decode cX8_givenAt 15 = .ok (.bipush 23, 2) := by decide +kernel
theorem dX8_givenAt_17 : decode cX8_givenAt 17 = .ok (.bipush 6, 2) := by decide +kernel
theorem dX8_givenAt_19 : decode cX8_givenAt 19 = .ok (.iload_n 1, 1) := by decide +kernel
theorem dX8_givenAt_20 : decode cX8_givenAt 20 = .ok (.imul, 1) := by decide +kernel
theorem dX8_givenAt_21 : decode cX8_givenAt 21 = .ok (.iadd, 1) := by decide +kernel
theorem dX8_givenAt_22 : decode cX8_givenAt 22 = .ok (.iload_n 3, 1) := by decide +kernel
theorem dX8_givenAt_23 : decode cX8_givenAt 23 = .ok (.iadd, 1) := by decide +kernel
theorem dX8_givenAt_24 : decode cX8_givenAt 24 = .ok (.iaload, 1) := by decide +kernel
theorem dX8_givenAt_25 : decode cX8_givenAt 25 = .ok (.iadd, 1) := by decide +kernel
theorem dX8_givenAt_26 : decode cX8_givenAt 26 = .ok (.istore_n 2, 1) := by decide +kernel
theorem dX8_givenAt_27 : decode cX8_givenAt 27 = .ok (.iinc 3 1, 3) := by decide +kernel
theorem dX8_givenAt_30 : decode cX8_givenAt 30 = .ok (.goto (-26), 3) := by decide +kernel
theorem dX8_givenAt_33 : decode cX8_givenAt 33 = .ok (.iload_n 2, 1) := by decide +kernel
theorem dX8_givenAt_34 : decode cX8_givenAt 34 = .ok (.ireturn, 1) := by decide +kernel
theorem dX8_lock_0 : decode cX8_lock 0 = .ok (.aload_n 0, 1) := by decide +kernel
theorem dX8_lock_1 : decode cX8_lock 1 = .ok (.iload_n 1, 1) := by decide +kernel
theorem dX8_lock_2 : decode cX8_lock 2 = .ok (.invokevirtual 97, 3) := by decide +kernel
theorem dX8_lock_5 : decode cX8_lock 5 = .ok (.ifCond .ne 5, 3) := by decide +kernel
theorem dX8_lock_8 : decode cX8_lock 8 = .ok (.iconst (-1), 1) := by decide +kernel
theorem dX8_lock_9 : decode cX8_lock 9 = .ok (.ireturn, 1) := by decide +kernel
theorem dX8_lock_10 : decode cX8_lock 10 = .ok (.iload_n 2, 1) := by decide +kernel
theorem dX8_lock_11 : decode cX8_lock 11 = .ok (.tableswitch 58 0 2 #[25, 35, 52], 25) := by decide +kernel
theorem dX8_lock_36 : decode cX8_lock 36 = .ok (.aload_n 0, 1) := by decide +kernel
theorem dX8_lock_37 : decode cX8_lock 37 = .ok (.getfield 16, 3) := by decide +kernel
theorem dX8_lock_40 : decode cX8_lock 40 = .ok (.bipush 12, 2) := by decide +kernel
theorem dX8_lock_42 : decode cX8_lock 42 = .ok (.iload_n 1, 1) := by decide +kernel
theorem dX8_lock_43 : decode cX8_lock 43 = .ok (.iadd, 1) := by decide +kernel
theorem dX8_lock_44 : decode cX8_lock 44 = .ok (.iaload, 1) := by decide +kernel
theorem dX8_lock_45 : decode cX8_lock 45 = .ok (.ireturn, 1) := by decide +kernel
theorem dX8_lock_46 : decode cX8_lock 46 = .ok (.iload_n 1, 1) := by decide +kernel
theorem dX8_lock_47 : decode cX8_lock 47 = .ok (.aload_n 0, 1) := by decide +kernel
theorem dX8_lock_48 : decode cX8_lock 48 = .ok (.getfield 16, 3) := by decide +kernel
theorem dX8_lock_51 : decode cX8_lock 51 = .ok (.bipush 53, 2) := by decide +kernel
theorem dX8_lock_53 : decode cX8_lock 53 = .ok (.iaload, 1) := by decide +kernel
theorem dX8_lock_54 : decode cX8_lock 54 = .ok (.if_icmp .ge 7, 3) := by decide +kernel
theorem dX8_lock_57 : decode cX8_lock 57 = .ok (.iconst 1, 1) := by decide +kernel
theorem dX8_lock_58 : decode cX8_lock 58 = .ok (.goto 4, 3) := by decide +kernel
theorem dX8_lock_61 : decode cX8_lock 61 = .ok (.iconst 0, 1) := by decide +kernel
theorem dX8_lock_62 : decode cX8_lock 62 = .ok (.ireturn, 1) := by decide +kernel
theorem dX8_lock_63 : decode cX8_lock 63 = .ok (.aload_n 0, 1) := by decide +kernel
theorem dX8_lock_64 : decode cX8_lock 64 = .ok (.iload_n 1, 1) := by decide +kernel
theorem dX8_lock_65 : decode cX8_lock 65 = .ok (.invokevirtual 100, 3) := by decide +kernel
theorem dX8_lock_68 : decode cX8_lock 68 = .ok (.ireturn, 1) := by decide +kernel
theorem dX8_lock_69 : decode cX8_lock 69 = .ok (.bipush (-2), 2) := by decide +kernel
theorem dX8_lock_71 : decode cX8_lock 71 = .ok (.ireturn, 1) := by decide +kernel
theorem dX8_isChanged_0 : decode cX8_isChanged 0 = .ok (.bipush 54, 2) := by decide +kernel
theorem dX8_isChanged_2 : decode cX8_isChanged 2 = .ok (.iload_n 1, 1) := by decide +kernel
theorem dX8_isChanged_3 : decode cX8_isChanged 3 = .ok (.imul, 1) := by decide +kernel
theorem dX8_isChanged_4 : decode cX8_isChanged 4 = .ok (.istore 5, 2) := by decide +kernel
theorem dX8_isChanged_6 : decode cX8_isChanged 6 = .ok (.aload_n 0, 1) := by decide +kernel
theorem dX8_isChanged_7 : decode cX8_isChanged 7 = .ok (.getfield 16, 3) := by decide +kernel
theorem dX8_isChanged_10 : decode cX8_isChanged 10 = .ok (.iload 5, 2) := by decide +kernel
theorem dX8_isChanged_12 : decode cX8_isChanged 12 = .ok (.bipush 12, 2) := by decide +kernel
theorem dX8_isChanged_14 : decode cX8_isChanged 14 = .ok (.iadd, 1) := by decide +kernel
theorem dX8_isChanged_15 : decode cX8_isChanged 15 = .ok (.iload_n 2, 1) := by decide +kernel
theorem dX8_isChanged_16 : decode cX8_isChanged 16 = .ok (.iadd, 1) := by decide +kernel
theorem dX8_isChanged_17 : decode cX8_isChanged 17 = .ok (.iaload, 1) := by decide +kernel
theorem dX8_isChanged_18 : decode cX8_isChanged 18 = .ok (.tableswitch 52 0 2 #[26, 28, 30], 26) := by decide +kernel
theorem dX8_isChanged_44 : decode cX8_isChanged 44 = .ok (.iconst 0, 1) := by decide +kernel
theorem dX8_isChanged_45 : decode cX8_isChanged 45 = .ok (.ireturn, 1) := by decide +kernel
theorem dX8_isChanged_46 : decode cX8_isChanged 46 = .ok (.iconst 1, 1) := by decide +kernel
theorem dX8_isChanged_47 : decode cX8_isChanged 47 = .ok (.ireturn, 1) := by decide +kernel
theorem dX8_isChanged_48 : decode cX8_isChanged 48 = .ok (.aload_n 0, 1) := by decide +kernel
theorem dX8_isChanged_49 : decode cX8_isChanged 49 = .ok (.getfield 13, 3) := by decide +kernel
theorem dX8_isChanged_52 : decode cX8_isChanged 52 = .ok (.iload 4, 2) := by decide +kernel
theorem dX8_isChanged_54 : decode cX8_isChanged 54 = .ok (.iaload, 1) := by decide +kernel
theorem dX8_isChanged_55 : decode cX8_isChanged 55 = .ok (.aload_n 0, 1) := by decide +kernel
theorem dX8_isChanged_56 : decode cX8_isChanged 56 = .ok (.getfield 13, 3) := by decide +kernel
theorem dX8_isChanged_59 : decode cX8_isChanged 59 = .ok (.iload_n 3, 1) := by decide +kernel
theorem dX8_isChanged_60 : decode cX8_isChanged 60 = .ok (.iaload, 1) := by decide +kernel
theorem dX8_isChanged_61 : decode cX8_isChanged 61 = .ok (.if_icmp .ge 7, 3) := by decide +kernel
theorem dX8_isChanged_64 : decode cX8_isChanged 64 = .ok (.iconst 1, 1) := by decide +kernel
theorem dX8_isChanged_65 : decode cX8_isChanged 65 = .ok (.goto 4, 3) := by decide +kernel
theorem dX8_isChanged_68 : decode cX8_isChanged 68 = .ok (.iconst 0, 1) := by decide +kernel
theorem dX8_isChanged_69 : decode cX8_isChanged 69 = .ok (.ireturn, 1) := by decide +kernel
theorem dX8_isChanged_70 : decode cX8_isChanged 70 = .ok (.aload_n 0, 1) := by decide +kernel
theorem dX8_isChanged_71 : decode cX8_isChanged 71 = .ok (.getfield 16, 3) := by decide +kernel
theorem dX8_isChanged_74 : decode cX8_isChanged 74 = .ok (.iload 5, 2) := by decide +kernel
theorem dX8_isChanged_76 : decode cX8_isChanged 76 = .ok (.bipush 23, 2) := by decide +kernel
theorem dX8_isChanged_78 : decode cX8_isChanged 78 = .ok (.iadd, 1) := by decide +kernel
theorem dX8_isChanged_79 : decode cX8_isChanged 79 = .ok (.bipush 6, 2) := by decide +kernel
theorem dX8_isChanged_81 : decode cX8_isChanged 81 = .ok (.iload_n 2, 1) := by decide +kernel
theorem dX8_isChanged_82 : decode cX8_isChanged 82 = .ok (.imul, 1) := by decide +kernel
theorem dX8_isChanged_83 : decode cX8_isChanged 83 = .ok (.iadd, 1) := by decide +kernel
theorem dX8_isChanged_84 : decode cX8_isChanged 84 = .ok (.iload 4, 2) := by decide +kernel
theorem dX8_isChanged_86 : decode cX8_isChanged 86 = .ok (.iadd, 1) := by decide +kernel
theorem dX8_isChanged_87 : decode cX8_isChanged 87 = .ok (.iaload, 1) := by decide +kernel
theorem dX8_isChanged_88 : decode cX8_isChanged 88 = .ok (.aload_n 0, 1) := by decide +kernel
theorem dX8_isChanged_89 : decode cX8_isChanged 89 = .ok (.getfield 16, 3) := by decide +kernel
theorem dX8_isChanged_92 : decode cX8_isChanged 92 = .ok (.iload 5, 2) := by decide +kernel
theorem dX8_isChanged_94 : decode cX8_isChanged 94 = .ok (.bipush 23, 2) := by decide +kernel
theorem dX8_isChanged_96 : decode cX8_isChanged 96 = .ok (.iadd, 1) := by decide +kernel
theorem dX8_isChanged_97 : decode cX8_isChanged 97 = .ok (.bipush 6, 2) := by decide +kernel
theorem dX8_isChanged_99 : decode cX8_isChanged 99 = .ok (.iload_n 2, 1) := by decide +kernel
theorem dX8_isChanged_100 : decode cX8_isChanged 100 = .ok (.imul, 1) := by decide +kernel
theorem dX8_isChanged_101 : decode cX8_isChanged 101 = .ok (.iadd, 1) := by decide +kernel
theorem dX8_isChanged_102 : decode cX8_isChanged 102 = .ok (.iload_n 3, 1) := by decide +kernel
theorem dX8_isChanged_103 : decode cX8_isChanged 103 = .ok (.iadd, 1) := by decide +kernel
theorem dX8_isChanged_104 : decode cX8_isChanged 104 = .ok (.iaload, 1) := by decide +kernel
theorem dX8_isChanged_105 : decode cX8_isChanged 105 = .ok (.if_icmp .le 7, 3) := by decide +kernel
theorem dX8_isChanged_108 : decode cX8_isChanged 108 = .ok (.iconst 1, 1) := by decide +kernel
theorem dX8_isChanged_109 : decode cX8_isChanged 109 = .ok (.goto 4, 3) := by decide +kernel
theorem dX8_isChanged_112 : decode cX8_isChanged 112 = .ok (.iconst 0, 1) := by decide +kernel
theorem dX8_isChanged_113 : decode cX8_isChanged 113 = .ok (.ireturn, 1) := by decide +kernel
theorem dX8_more_0 : decode cX8_more 0 = .ok (.iload_n 0, 1) := by decide +kernel
theorem dX8_more_1 : decode cX8_more 1 = .ok (.iload_n 1, 1) := by decide +kernel
theorem dX8_more_2 : decode cX8_more 2 = .ok (.if_icmp .le 7, 3) := by decide +kernel
theorem dX8_more_5 : decode cX8_more 5 = .ok (.iload_n 0, 1) := by decide +kernel
theorem dX8_more_6 : decode cX8_more 6 = .ok (.goto 4, 3) := by decide +kernel
theorem dX8_more_9 : decode cX8_more 9 = .ok (.iload_n 1, 1) := by decide +kernel
theorem dX8_more_10 : decode cX8_more 10 = .ok (.ireturn, 1) := by decide +kernel
theorem dX8_passOn_0 : decode cX8_passOn 0 = .ok (.bipush 54, 2) := by decide +kernel
theorem dX8_passOn_2 : decode cX8_passOn 2 = .ok (.iload_n 1, 1) := by decide +kernel
theorem dX8_passOn_3 : decode cX8_passOn 3 = .ok (.imul, 1) := by decide +kernel
theorem dX8_passOn_4 : decode cX8_passOn 4 = .ok (.istore_n 3, 1) := by decide +kernel
theorem dX8_passOn_5 : decode cX8_passOn 5 = .ok (.aload_n 0, 1) := by decide +kernel
theorem dX8_passOn_6 : decode cX8_passOn 6 = .ok (.getfield 16, 3) := by decide +kernel
theorem dX8_passOn_9 : decode cX8_passOn 9 = .ok (.iload_n 3, 1) := by decide +kernel
theorem dX8_passOn_10 : decode cX8_passOn 10 = .ok (.bipush 53, 2) := by decide +kernel
theorem dX8_passOn_12 : decode cX8_passOn 12 = .ok (.iadd, 1) := by decide +kernel
theorem dX8_passOn_13 : decode cX8_passOn 13 = .ok (.iaload, 1) := by decide +kernel
theorem dX8_passOn_14 : decode cX8_passOn 14 = .ok (.istore 4, 2) := by decide +kernel
theorem dX8_passOn_16 : decode cX8_passOn 16 = .ok (.iconst 0, 1) := by decide +kernel
theorem dX8_passOn_17 : decode cX8_passOn 17 = .ok (.istore 5, 2) := by decide +kernel
theorem dX8_passOn_19 : decode cX8_passOn 19 = .ok (.iconst 0, 1) := by decide +kernel
theorem dX8_passOn_20 : decode cX8_passOn 20 = .ok (.istore 6, 2) := by decide +kernel
theorem dX8_passOn_22 : decode cX8_passOn 22 = .ok (.iload 6, 2) := by decide +kernel
theorem dX8_passOn_24 : decode cX8_passOn 24 = .ok (.iload_n 2, 1) := by decide +kernel
theorem dX8_passOn_25 : decode cX8_passOn 25 = .ok (.if_icmp .ge 255, 3) := by decide +kernel
theorem dX8_passOn_28 : decode cX8_passOn 28 = .ok (.aload_n 0, 1) := by decide +kernel
theorem dX8_passOn_29 : decode cX8_passOn 29 = .ok (.getfield 16, 3) := by decide +kernel
theorem dX8_passOn_32 : decode cX8_passOn 32 = .ok (.iload_n 3, 1) := by decide +kernel
theorem dX8_passOn_33 : decode cX8_passOn 33 = .ok (.iload 6, 2) := by decide +kernel
theorem dX8_passOn_35 : decode cX8_passOn 35 = .ok (.iadd, 1) := by decide +kernel
theorem dX8_passOn_36 : decode cX8_passOn 36 = .ok (.iaload, 1) := by decide +kernel
theorem dX8_passOn_37 : decode cX8_passOn 37 = .ok (.istore 7, 2) := by decide +kernel
theorem dX8_passOn_39 : decode cX8_passOn 39 = .ok (.aload_n 0, 1) := by decide +kernel
theorem dX8_passOn_40 : decode cX8_passOn 40 = .ok (.getfield 7, 3) := by decide +kernel
theorem dX8_passOn_43 : decode cX8_passOn 43 = .ok (.iload 7, 2) := by decide +kernel
theorem dX8_passOn_45 : decode cX8_passOn 45 = .ok (.iaload, 1) := by decide +kernel
theorem dX8_passOn_46 : decode cX8_passOn 46 = .ok (.iconst 1, 1) := by decide +kernel
theorem dX8_passOn_47 : decode cX8_passOn 47 = .ok (.if_icmp .ne 35, 3) := by decide +kernel
theorem dX8_passOn_50 : decode cX8_passOn 50 = .ok (.iload 6, 2) := by decide +kernel
theorem dX8_passOn_52 : decode cX8_passOn 52 = .ok (.iconst 1, 1) := by decide +kernel
theorem dX8_passOn_53 : decode cX8_passOn 53 = .ok (.iadd, 1) := by decide +kernel
theorem dX8_passOn_54 : decode cX8_passOn 54 = .ok (.iload_n 2, 1) := by decide +kernel
theorem dX8_passOn_55 : decode cX8_passOn 55 = .ok (.if_icmp .ge 27, 3) := by decide +kernel
theorem dX8_passOn_58 : decode cX8_passOn 58 = .ok (.aload_n 0, 1) := by decide +kernel
theorem dX8_passOn_59 : decode cX8_passOn 59 = .ok (.getfield 7, 3) := by decide +kernel
theorem dX8_passOn_62 : decode cX8_passOn 62 = .ok (.aload_n 0, 1) := by decide +kernel
theorem dX8_passOn_63 : decode cX8_passOn 63 = .ok (.getfield 16, 3) := by decide +kernel
theorem dX8_passOn_66 : decode cX8_passOn 66 = .ok (.iload_n 3, 1) := by decide +kernel
theorem dX8_passOn_67 : decode cX8_passOn 67 = .ok (.iload 6, 2) := by decide +kernel
theorem dX8_passOn_69 : decode cX8_passOn 69 = .ok (.iadd, 1) := by decide +kernel
theorem dX8_passOn_70 : decode cX8_passOn 70 = .ok (.iconst 1, 1) := by decide +kernel
theorem dX8_passOn_71 : decode cX8_passOn 71 = .ok (.iadd, 1) := by decide +kernel
theorem dX8_passOn_72 : decode cX8_passOn 72 = .ok (.iaload, 1) := by decide +kernel
theorem dX8_passOn_73 : decode cX8_passOn 73 = .ok (.iaload, 1) := by decide +kernel
theorem dX8_passOn_74 : decode cX8_passOn 74 = .ok (.iconst 1, 1) := by decide +kernel
theorem dX8_passOn_75 : decode cX8_passOn 75 = .ok (.if_icmp .ne 7, 3) := by decide +kernel
theorem dX8_passOn_78 : decode cX8_passOn 78 = .ok (.iconst 1, 1) := by decide +kernel
theorem dX8_passOn_79 : decode cX8_passOn 79 = .ok (.goto 4, 3) := by decide +kernel
theorem dX8_passOn_82 : decode cX8_passOn 82 = .ok (.iconst 0, 1) := by decide +kernel
theorem dX8_passOn_83 : decode cX8_passOn 83 = .ok (.istore 8, 2) := by decide +kernel
theorem dX8_passOn_85 : decode cX8_passOn 85 = .ok (.iload 8, 2) := by decide +kernel
theorem dX8_passOn_87 : decode cX8_passOn 87 = .ok (.ifCond .eq 17, 3) := by decide +kernel
theorem dX8_passOn_90 : decode cX8_passOn 90 = .ok (.aload_n 0, 1) := by decide +kernel
theorem dX8_passOn_91 : decode cX8_passOn 91 = .ok (.getfield 16, 3) := by decide +kernel
theorem dX8_passOn_94 : decode cX8_passOn 94 = .ok (.iload_n 3, 1) := by decide +kernel
theorem dX8_passOn_95 : decode cX8_passOn 95 = .ok (.iload 6, 2) := by decide +kernel
theorem dX8_passOn_97 : decode cX8_passOn 97 = .ok (.iadd, 1) := by decide +kernel
theorem dX8_passOn_98 : decode cX8_passOn 98 = .ok (.iconst 1, 1) := by decide +kernel
theorem dX8_passOn_99 : decode cX8_passOn 99 = .ok (.iadd, 1) := by decide +kernel
theorem dX8_passOn_100 : decode cX8_passOn 100 = .ok (.iaload, 1) := by decide +kernel
theorem dX8_passOn_101 : decode cX8_passOn 101 = .ok (.goto 5, 3) := by decide +kernel
theorem dX8_passOn_104 : decode cX8_passOn 104 = .ok (.iload 7, 2) := by decide +kernel
theorem dX8_passOn_106 : decode cX8_passOn 106 = .ok (.istore 9, 2) := by decide +kernel
theorem dX8_passOn_108 : decode cX8_passOn 108 = .ok (.iconst 1, 1) := by decide +kernel
theorem dX8_passOn_109 : decode cX8_passOn 109 = .ok (.iload 5, 2) := by decide +kernel
theorem dX8_passOn_111 : decode cX8_passOn 111 = .ok (.aload_n 0, 1) := by decide +kernel
theorem dX8_passOn_112 : decode cX8_passOn 112 = .ok (.getfield 16, 3) := by decide +kernel
theorem dX8_passOn_115 : decode cX8_passOn 115 = .ok (.iload_n 3, 1) := by decide +kernel
theorem dX8_passOn_116 : decode cX8_passOn 116 = .ok (.bipush 6, 2) := by decide +kernel
theorem dX8_passOn_118 : decode cX8_passOn 118 = .ok (.iadd, 1) := by decide +kernel
theorem dX8_passOn_119 : decode cX8_passOn 119 = .ok (.iload 7, 2) := by decide +kernel
theorem dX8_passOn_121 : decode cX8_passOn 121 = .ok (.iadd, 1) := by decide +kernel
theorem dX8_passOn_122 : decode cX8_passOn 122 = .ok (.iaload, 1) := by decide +kernel
theorem dX8_passOn_123 : decode cX8_passOn 123 = .ok (.aload_n 0, 1) := by decide +kernel
theorem dX8_passOn_124 : decode cX8_passOn 124 = .ok (.getfield 16, 3) := by decide +kernel
theorem dX8_passOn_127 : decode cX8_passOn 127 = .ok (.iload_n 3, 1) := by decide +kernel
theorem dX8_passOn_128 : decode cX8_passOn 128 = .ok (.bipush 6, 2) := by decide +kernel
theorem dX8_passOn_130 : decode cX8_passOn 130 = .ok (.iadd, 1) := by decide +kernel
theorem dX8_passOn_131 : decode cX8_passOn 131 = .ok (.iload 9, 2) := by decide +kernel
theorem dX8_passOn_133 : decode cX8_passOn 133 = .ok (.iadd, 1) := by decide +kernel
theorem dX8_passOn_134 : decode cX8_passOn 134 = .ok (.iaload, 1) := by decide +kernel
theorem dX8_passOn_135 : decode cX8_passOn 135 = .ok (.invokestatic 104, 3) := by decide +kernel
theorem dX8_passOn_138 : decode cX8_passOn 138 = .ok (.invokestatic 104, 3) := by decide +kernel
theorem dX8_passOn_141 : decode cX8_passOn 141 = .ok (.iadd, 1) := by decide +kernel
theorem dX8_passOn_142 : decode cX8_passOn 142 = .ok (.istore 5, 2) := by decide +kernel
theorem dX8_passOn_144 : decode cX8_passOn 144 = .ok (.aload_n 0, 1) := by decide +kernel
theorem dX8_passOn_145 : decode cX8_passOn 145 = .ok (.getfield 16, 3) := by decide +kernel
theorem dX8_passOn_148 : decode cX8_passOn 148 = .ok (.iload_n 3, 1) := by decide +kernel
theorem dX8_passOn_149 : decode cX8_passOn 149 = .ok (.bipush 6, 2) := by decide +kernel
theorem dX8_passOn_151 : decode cX8_passOn 151 = .ok (.iadd, 1) := by decide +kernel
theorem dX8_passOn_152 : decode cX8_passOn 152 = .ok (.iload 7, 2) := by decide +kernel
theorem dX8_passOn_154 : decode cX8_passOn 154 = .ok (.iadd, 1) := by decide +kernel
theorem dX8_passOn_155 : decode cX8_passOn 155 = .ok (.iload 5, 2) := by decide +kernel
theorem dX8_passOn_157 : decode cX8_passOn 157 = .ok (.iastore, 1) := by decide +kernel
theorem dX8_passOn_158 : decode cX8_passOn 158 = .ok (.aload_n 0, 1) := by decide +kernel
theorem dX8_passOn_159 : decode cX8_passOn 159 = .ok (.getfield 16, 3) := by decide +kernel
theorem dX8_passOn_162 : decode cX8_passOn 162 = .ok (.iload_n 3, 1) := by decide +kernel
theorem dX8_passOn_163 : decode cX8_passOn 163 = .ok (.bipush 6, 2) := by decide +kernel
theorem dX8_passOn_165 : decode cX8_passOn 165 = .ok (.iadd, 1) := by decide +kernel
theorem dX8_passOn_166 : decode cX8_passOn 166 = .ok (.iload 9, 2) := by decide +kernel
theorem dX8_passOn_168 : decode cX8_passOn 168 = .ok (.iadd, 1) := by decide +kernel
theorem dX8_passOn_169 : decode cX8_passOn 169 = .ok (.iload 5, 2) := by decide +kernel
theorem dX8_passOn_171 : decode cX8_passOn 171 = .ok (.iastore, 1) := by decide +kernel
theorem dX8_passOn_172 : decode cX8_passOn 172 = .ok (.iload 8, 2) := by decide +kernel
theorem dX8_passOn_174 : decode cX8_passOn 174 = .ok (.ifCond .eq 88, 3) := by decide +kernel
theorem dX8_passOn_177 : decode cX8_passOn 177 = .ok (.aload_n 0, 1) := by decide +kernel
theorem dX8_passOn_178 : decode cX8_passOn 178 = .ok (.getfield 28, 3) := by decide +kernel
theorem dX8_passOn_181 : decode cX8_passOn 181 = .ok (.iload 7, 2) := by decide +kernel
theorem dX8_passOn_183 : decode cX8_passOn 183 = .ok (.dup2, 1) := by decide +kernel
theorem dX8_passOn_184 : decode cX8_passOn 184 = .ok (.iaload, 1) := by decide +kernel
theorem dX8_passOn_185 : decode cX8_passOn 185 = .ok (.iconst 1, 1) := by decide +kernel
theorem dX8_passOn_186 : decode cX8_passOn 186 = .ok (.iload 9, 2) := by decide +kernel
theorem dX8_passOn_188 : decode cX8_passOn 188 = .ok (.ishl, 1) := by decide +kernel
theorem dX8_passOn_189 : decode cX8_passOn 189 = .ok (.ior, 1) := by decide +kernel
theorem dX8_passOn_190 : decode cX8_passOn 190 = .ok (.iastore, 1) := by decide +kernel
theorem dX8_passOn_191 : decode cX8_passOn 191 = .ok (.aload_n 0, 1) := by decide +kernel
theorem dX8_passOn_192 : decode cX8_passOn 192 = .ok (.getfield 28, 3) := by decide +kernel
theorem dX8_passOn_195 : decode cX8_passOn 195 = .ok (.iload 9, 2) := by decide +kernel
theorem dX8_passOn_197 : decode cX8_passOn 197 = .ok (.dup2, 1) := by decide +kernel
theorem dX8_passOn_198 : decode cX8_passOn 198 = .ok (.iaload, 1) := by decide +kernel
theorem dX8_passOn_199 : decode cX8_passOn 199 = .ok (.iconst 1, 1) := by decide +kernel
theorem dX8_passOn_200 : decode cX8_passOn 200 = .ok (.iload 7, 2) := by decide +kernel
theorem dX8_passOn_202 : decode cX8_passOn 202 = .ok (.ishl, 1) := by decide +kernel
theorem dX8_passOn_203 : decode cX8_passOn 203 = .ok (.ior, 1) := by decide +kernel
theorem dX8_passOn_204 : decode cX8_passOn 204 = .ok (.iastore, 1) := by decide +kernel
theorem dX8_passOn_205 : decode cX8_passOn 205 = .ok (.aload_n 0, 1) := by decide +kernel
theorem dX8_passOn_206 : decode cX8_passOn 206 = .ok (.iload_n 1, 1) := by decide +kernel
theorem dX8_passOn_207 : decode cX8_passOn 207 = .ok (.iload 4, 2) := by decide +kernel
theorem dX8_passOn_209 : decode cX8_passOn 209 = .ok (.iload 7, 2) := by decide +kernel
theorem dX8_passOn_211 : decode cX8_passOn 211 = .ok (.iload 9, 2) := by decide +kernel
theorem dX8_passOn_213 : decode cX8_passOn 213 = .ok (.invokevirtual 107, 3) := by decide +kernel
theorem dX8_passOn_216 : decode cX8_passOn 216 = .ok (.istore 10, 2) := by decide +kernel
theorem dX8_passOn_218 : decode cX8_passOn 218 = .ok (.aload_n 0, 1) := by decide +kernel
theorem dX8_passOn_219 : decode cX8_passOn 219 = .ok (.getfield 16, 3) := by decide +kernel
theorem dX8_passOn_222 : decode cX8_passOn 222 = .ok (.iload_n 3, 1) := by decide +kernel
theorem dX8_passOn_223 : decode cX8_passOn 223 = .ok (.iload 6, 2) := by decide +kernel
theorem dX8_passOn_225 : decode cX8_passOn 225 = .ok (.iadd, 1) := by decide +kernel
theorem dX8_passOn_226 : decode cX8_passOn 226 = .ok (.iload 10, 2) := by decide +kernel
theorem dX8_passOn_228 : decode cX8_passOn 228 = .ok (.ifCond .eq 8, 3) := by decide +kernel
theorem dX8_passOn_231 : decode cX8_passOn 231 = .ok (.iload 9, 2) := by decide +kernel
theorem dX8_passOn_233 : decode cX8_passOn 233 = .ok (.goto 5, 3) := by decide +kernel
theorem dX8_passOn_236 : decode cX8_passOn 236 = .ok (.iload 7, 2) := by decide +kernel
theorem dX8_passOn_238 : decode cX8_passOn 238 = .ok (.iastore, 1) := by decide +kernel
theorem dX8_passOn_239 : decode cX8_passOn 239 = .ok (.aload_n 0, 1) := by decide +kernel
theorem dX8_passOn_240 : decode cX8_passOn 240 = .ok (.getfield 16, 3) := by decide +kernel
theorem dX8_passOn_243 : decode cX8_passOn 243 = .ok (.iload_n 3, 1) := by decide +kernel
theorem dX8_passOn_244 : decode cX8_passOn 244 = .ok (.iload 6, 2) := by decide +kernel
theorem dX8_passOn_246 : decode cX8_passOn 246 = .ok (.iadd, 1) := by decide +kernel
theorem dX8_passOn_247 : decode cX8_passOn 247 = .ok (.iconst 1, 1) := by decide +kernel
theorem dX8_passOn_248 : decode cX8_passOn 248 = .ok (.iadd, 1) := by decide +kernel
theorem dX8_passOn_249 : decode cX8_passOn 249 = .ok (.iload 10, 2) := by decide +kernel
theorem dX8_passOn_251 : decode cX8_passOn 251 = .ok (.ifCond .eq 8, 3) := by decide +kernel
theorem dX8_passOn_254 : decode cX8_passOn 254 = .ok (.iload 7, 2) := by decide +kernel
theorem dX8_passOn_256 : decode cX8_passOn 256 = .ok (.goto 5, 3) := by decide +kernel
theorem dX8_passOn_259 : decode cX8_passOn 259 = .ok (.iload 9, 2) := by decide +kernel
theorem dX8_passOn_261 : decode cX8_passOn 261 = .ok (.iastore, 1) := by decide +kernel
theorem dX8_passOn_262 : decode cX8_passOn 262 = .ok (.iload 6, 2) := by decide +kernel
theorem dX8_passOn_264 : decode cX8_passOn 264 = .ok (.iload 8, 2) := by decide +kernel
theorem dX8_passOn_266 : decode cX8_passOn 266 = .ok (.ifCond .eq 7, 3) := by decide +kernel
theorem dX8_passOn_269 : decode cX8_passOn 269 = .ok (.iconst 2, 1) := by decide +kernel
theorem dX8_passOn_270 : decode cX8_passOn 270 = .ok (.goto 4, 3) := by decide +kernel
theorem dX8_passOn_273 : decode cX8_passOn 273 = .ok (.iconst 1, 1) := by decide +kernel
theorem dX8_passOn_274 : decode cX8_passOn 274 = .ok (.iadd, 1) := by decide +kernel
theorem dX8_passOn_275 : decode cX8_passOn 275 = .ok (.istore 6, 2) := by decide +kernel
theorem dX8_passOn_277 : decode cX8_passOn 277 = .ok (.goto (-255), 3) := by decide +kernel
theorem dX8_passOn_280 : decode cX8_passOn 280 = .ok (.aload_n 0, 1) := by decide +kernel
theorem dX8_passOn_281 : decode cX8_passOn 281 = .ok (.getfield 16, 3) := by decide +kernel
theorem dX8_passOn_284 : decode cX8_passOn 284 = .ok (.iload_n 3, 1) := by decide +kernel
theorem dX8_passOn_285 : decode cX8_passOn 285 = .ok (.bipush 53, 2) := by decide +kernel
theorem dX8_passOn_287 : decode cX8_passOn 287 = .ok (.iadd, 1) := by decide +kernel
theorem dX8_passOn_288 : decode cX8_passOn 288 = .ok (.dup2, 1) := by decide +kernel
theorem dX8_passOn_289 : decode cX8_passOn 289 = .ok (.iaload, 1) := by decide +kernel
theorem dX8_passOn_290 : decode cX8_passOn 290 = .ok (.iconst 1, 1) := by decide +kernel
theorem dX8_passOn_291 : decode cX8_passOn 291 = .ok (.iadd, 1) := by decide +kernel
theorem dX8_passOn_292 : decode cX8_passOn 292 = .ok (.iastore, 1) := by decide +kernel
theorem dX8_passOn_293 : decode cX8_passOn 293 = .ok (.return_, 1) := by decide +kernel
theorem dX8_figuresOf_0 : decode cX8_figuresOf 0 = .ok (.iconst 0, 1) := by decide +kernel
theorem dX8_figuresOf_1 : decode cX8_figuresOf 1 = .ok (.istore_n 3, 1) := by decide +kernel
theorem dX8_figuresOf_2 : decode cX8_figuresOf 2 = .ok (.iconst 0, 1) := by decide +kernel
theorem dX8_figuresOf_3 : decode cX8_figuresOf 3 = .ok (.istore 4, 2) := by decide +kernel
theorem dX8_figuresOf_5 : decode cX8_figuresOf 5 = .ok (.iload 4, 2) := by decide +kernel
theorem dX8_figuresOf_7 : decode cX8_figuresOf 7 = .ok (.iload_n 2, 1) := by decide +kernel
theorem dX8_figuresOf_8 : decode cX8_figuresOf 8 = .ok (.if_icmp .ge 29, 3) := by decide +kernel
theorem dX8_figuresOf_11 : decode cX8_figuresOf 11 = .ok (.bipush 10, 2) := by decide +kernel
theorem dX8_figuresOf_13 : decode cX8_figuresOf 13 = .ok (.iload_n 3, 1) := by decide +kernel
theorem dX8_figuresOf_14 : decode cX8_figuresOf 14 = .ok (.imul, 1) := by decide +kernel
theorem dX8_figuresOf_15 : decode cX8_figuresOf 15 = .ok (.aload_n 0, 1) := by decide +kernel
theorem dX8_figuresOf_16 : decode cX8_figuresOf 16 = .ok (.getfield 16, 3) := by decide +kernel
theorem dX8_figuresOf_19 : decode cX8_figuresOf 19 = .ok (.bipush 54, 2) := by decide +kernel
theorem dX8_figuresOf_21 : decode cX8_figuresOf 21 = .ok (.iload_n 1, 1) := by decide +kernel
theorem dX8_figuresOf_22 : decode cX8_figuresOf 22 = .ok (.imul, 1) := by decide +kernel
theorem dX8_figuresOf_23 : decode cX8_figuresOf 23 = .ok (.iload 4, 2) := by decide +kernel
theorem dX8_figuresOf_25 : decode cX8_figuresOf 25 = .ok (.iadd, 1) := by decide +kernel
theorem dX8_figuresOf_26 : decode cX8_figuresOf 26 = .ok (.iaload, 1) := by decide +kernel
theorem dX8_figuresOf_27 : decode cX8_figuresOf 27 = .ok (.iadd, 1) := by decide +kernel
theorem dX8_figuresOf_28 : decode cX8_figuresOf 28 = .ok (.iconst 1, 1) := by decide +kernel
theorem dX8_figuresOf_29 : decode cX8_figuresOf 29 = .ok (.iadd, 1) := by decide +kernel
theorem dX8_figuresOf_30 : decode cX8_figuresOf 30 = .ok (.istore_n 3, 1) := by decide +kernel
theorem dX8_figuresOf_31 : decode cX8_figuresOf 31 = .ok (.iinc 4 1, 3) := by decide +kernel
theorem dX8_figuresOf_34 : decode cX8_figuresOf 34 = .ok (.goto (-29), 3) := by decide +kernel
theorem dX8_figuresOf_37 : decode cX8_figuresOf 37 = .ok (.iload_n 3, 1) := by decide +kernel
theorem dX8_figuresOf_38 : decode cX8_figuresOf 38 = .ok (.ireturn, 1) := by decide +kernel
theorem dX8_keepAct_0 : decode cX8_keepAct 0 = .ok (.iconst 0, 1) := by decide +kernel
theorem dX8_keepAct_1 : decode cX8_keepAct 1 = .ok (.istore_n 1, 1) := by decide +kernel
theorem dX8_keepAct_2 : decode cX8_keepAct 2 = .ok (.iload_n 1, 1) := by decide +kernel
theorem dX8_keepAct_3 : decode cX8_keepAct 3 = .ok (.bipush 54, 2) := by decide +kernel
theorem dX8_keepAct_5 : decode cX8_keepAct 5 = .ok (.if_icmp .ge 29, 3) := by decide +kernel
theorem dX8_keepAct_8 : decode cX8_keepAct 8 = .ok (.aload_n 0, 1) := by decide +kernel
theorem dX8_keepAct_9 : decode cX8_keepAct 9 = .ok (.getfield 31, 3) := by decide +kernel
theorem dX8_keepAct_12 : decode cX8_keepAct 12 = .ok (.bipush 54, 2) := by decide +kernel
theorem dX8_keepAct_14 : decode cX8_keepAct 14 = .ok (.aload_n 0, 1) := by decide +kernel
theorem dX8_keepAct_15 : decode cX8_keepAct 15 = .ok (.getfield 111, 3) := by decide +kernel
theorem dX8_keepAct_18 : decode cX8_keepAct 18 = .ok (.imul, 1) := by decide +kernel
theorem dX8_keepAct_19 : decode cX8_keepAct 19 = .ok (.iload_n 1, 1) := by decide +kernel
theorem dX8_keepAct_20 : decode cX8_keepAct 20 = .ok (.iadd, 1) := by decide +kernel
theorem dX8_keepAct_21 : decode cX8_keepAct 21 = .ok (.aload_n 0, 1) := by decide +kernel
theorem dX8_keepAct_22 : decode cX8_keepAct 22 = .ok (.getfield 16, 3) := by decide +kernel
theorem dX8_keepAct_25 : decode cX8_keepAct 25 = .ok (.iload_n 1, 1) := by decide +kernel
theorem dX8_keepAct_26 : decode cX8_keepAct 26 = .ok (.iaload, 1) := by decide +kernel
theorem dX8_keepAct_27 : decode cX8_keepAct 27 = .ok (.iastore, 1) := by decide +kernel
theorem dX8_keepAct_28 : decode cX8_keepAct 28 = .ok (.iinc 1 1, 3) := by decide +kernel
theorem dX8_keepAct_31 : decode cX8_keepAct 31 = .ok (.goto (-29), 3) := by decide +kernel
theorem dX8_keepAct_34 : decode cX8_keepAct 34 = .ok (.aload_n 0, 1) := by decide +kernel
theorem dX8_keepAct_35 : decode cX8_keepAct 35 = .ok (.aload_n 0, 1) := by decide +kernel
theorem dX8_keepAct_36 : decode cX8_keepAct 36 = .ok (.getfield 111, 3) := by decide +kernel
theorem dX8_keepAct_39 : decode cX8_keepAct 39 = .ok (.iconst 1, 1) := by decide +kernel
theorem dX8_keepAct_40 : decode cX8_keepAct 40 = .ok (.iadd, 1) := by decide +kernel
theorem dX8_keepAct_41 : decode cX8_keepAct 41 = .ok (.bipush 14, 2) := by decide +kernel
theorem dX8_keepAct_43 : decode cX8_keepAct 43 = .ok (.irem, 1) := by decide +kernel
theorem dX8_keepAct_44 : decode cX8_keepAct 44 = .ok (.putfield 111, 3) := by decide +kernel
theorem dX8_keepAct_47 : decode cX8_keepAct 47 = .ok (.aload_n 0, 1) := by decide +kernel
theorem dX8_keepAct_48 : decode cX8_keepAct 48 = .ok (.aload_n 0, 1) := by decide +kernel
theorem dX8_keepAct_49 : decode cX8_keepAct 49 = .ok (.getfield 86, 3) := by decide +kernel
theorem dX8_keepAct_52 : decode cX8_keepAct 52 = .ok (.bipush 14, 2) := by decide +kernel
theorem dX8_keepAct_54 : decode cX8_keepAct 54 = .ok (.if_icmp .ge 12, 3) := by decide +kernel
theorem dX8_keepAct_57 : decode cX8_keepAct 57 = .ok (.aload_n 0, 1) := by decide +kernel
theorem dX8_keepAct_58 : decode cX8_keepAct 58 = .ok (.getfield 86, 3) := by decide +kernel
theorem dX8_keepAct_61 : decode cX8_keepAct 61 = .ok (.iconst 1, 1) := by decide +kernel
theorem dX8_keepAct_62 : decode cX8_keepAct 62 = .ok (.iadd, 1) := by decide +kernel
theorem dX8_keepAct_63 : decode cX8_keepAct 63 = .ok (.goto 5, 3) := by decide +kernel
theorem dX8_keepAct_66 : decode cX8_keepAct 66 = .ok (.bipush 14, 2) := by decide +kernel
theorem dX8_keepAct_68 : decode cX8_keepAct 68 = .ok (.putfield 86, 3) := by decide +kernel
theorem dX8_keepAct_71 : decode cX8_keepAct 71 = .ok (.return_, 1) := by decide +kernel
theorem dX8_pass_0 : decode cX8_pass 0 = .ok (.aload_n 0, 1) := by decide +kernel
theorem dX8_pass_1 : decode cX8_pass 1 = .ok (.getfield 16, 3) := by decide +kernel
theorem dX8_pass_4 : decode cX8_pass 4 = .ok (.bipush 53, 2) := by decide +kernel
theorem dX8_pass_6 : decode cX8_pass 6 = .ok (.iaload, 1) := by decide +kernel
theorem dX8_pass_7 : decode cX8_pass 7 = .ok (.aload_n 0, 1) := by decide +kernel
theorem dX8_pass_8 : decode cX8_pass 8 = .ok (.getfield 50, 3) := by decide +kernel
theorem dX8_pass_11 : decode cX8_pass 11 = .ok (.if_icmp .ne 6, 3) := by decide +kernel
theorem dX8_pass_14 : decode cX8_pass 14 = .ok (.bipush (-3), 2) := by decide +kernel
theorem dX8_pass_16 : decode cX8_pass 16 = .ok (.ireturn, 1) := by decide +kernel
theorem dX8_pass_17 : decode cX8_pass 17 = .ok (.aload_n 0, 1) := by decide +kernel
theorem dX8_pass_18 : decode cX8_pass 18 = .ok (.invokevirtual 114, 3) := by decide +kernel
theorem dX8_pass_21 : decode cX8_pass 21 = .ok (.aload_n 0, 1) := by decide +kernel
theorem dX8_pass_22 : decode cX8_pass 22 = .ok (.iconst 0, 1) := by decide +kernel
theorem dX8_pass_23 : decode cX8_pass 23 = .ok (.aload_n 0, 1) := by decide +kernel
theorem dX8_pass_24 : decode cX8_pass 24 = .ok (.getfield 83, 3) := by decide +kernel
theorem dX8_pass_27 : decode cX8_pass 27 = .ok (.invokevirtual 117, 3) := by decide +kernel
theorem dX8_pass_30 : decode cX8_pass 30 = .ok (.aload_n 0, 1) := by decide +kernel
theorem dX8_pass_31 : decode cX8_pass 31 = .ok (.iconst 0, 1) := by decide +kernel
theorem dX8_pass_32 : decode cX8_pass 32 = .ok (.aload_n 0, 1) := by decide +kernel
theorem dX8_pass_33 : decode cX8_pass 33 = .ok (.getfield 83, 3) := by decide +kernel
theorem dX8_pass_36 : decode cX8_pass 36 = .ok (.invokevirtual 121, 3) := by decide +kernel
theorem dX8_pass_39 : decode cX8_pass 39 = .ok (.ireturn, 1) := by decide +kernel
theorem dX8_give_0 : decode cX8_give 0 = .ok (.aload_n 0, 1) := by decide +kernel
theorem dX8_give_1 : decode cX8_give 1 = .ok (.iload_n 1, 1) := by decide +kernel
theorem dX8_give_2 : decode cX8_give 2 = .ok (.invokevirtual 89, 3) := by decide +kernel
theorem dX8_give_5 : decode cX8_give 5 = .ok (.ifCond .eq 11, 3) := by decide +kernel
theorem dX8_give_8 : decode cX8_give 8 = .ok (.aload_n 0, 1) := by decide +kernel
theorem dX8_give_9 : decode cX8_give 9 = .ok (.iload_n 2, 1) := by decide +kernel
theorem dX8_give_10 : decode cX8_give 10 = .ok (.invokevirtual 97, 3) := by decide +kernel
theorem dX8_give_13 : decode cX8_give 13 = .ok (.ifCond .ne 5, 3) := by decide +kernel
theorem dX8_give_16 : decode cX8_give 16 = .ok (.iconst (-1), 1) := by decide +kernel
theorem dX8_give_17 : decode cX8_give 17 = .ok (.ireturn, 1) := by decide +kernel
theorem dX8_give_18 : decode cX8_give 18 = .ok (.aload_n 0, 1) := by decide +kernel
theorem dX8_give_19 : decode cX8_give 19 = .ok (.getfield 16, 3) := by decide +kernel
theorem dX8_give_22 : decode cX8_give 22 = .ok (.bipush 17, 2) := by decide +kernel
theorem dX8_give_24 : decode cX8_give 24 = .ok (.iload_n 1, 1) := by decide +kernel
theorem dX8_give_25 : decode cX8_give 25 = .ok (.iadd, 1) := by decide +kernel
theorem dX8_give_26 : decode cX8_give 26 = .ok (.iaload, 1) := by decide +kernel
theorem dX8_give_27 : decode cX8_give 27 = .ok (.ifCond .eq 14, 3) := by decide +kernel
theorem dX8_give_30 : decode cX8_give 30 = .ok (.iload_n 2, 1) := by decide +kernel
theorem dX8_give_31 : decode cX8_give 31 = .ok (.aload_n 0, 1) := by decide +kernel
theorem dX8_give_32 : decode cX8_give 32 = .ok (.getfield 16, 3) := by decide +kernel
theorem dX8_give_35 : decode cX8_give 35 = .ok (.bipush 53, 2) := by decide +kernel
theorem dX8_give_37 : decode cX8_give 37 = .ok (.iaload, 1) := by decide +kernel
theorem dX8_give_38 : decode cX8_give 38 = .ok (.if_icmp .ge 6, 3) := by decide +kernel
theorem dX8_give_41 : decode cX8_give 41 = .ok (.bipush (-3), 2) := by decide +kernel
theorem dX8_give_43 : decode cX8_give 43 = .ok (.ireturn, 1) := by decide +kernel
theorem dX8_give_44 : decode cX8_give 44 = .ok (.aload_n 0, 1) := by decide +kernel
theorem dX8_give_45 : decode cX8_give 45 = .ok (.invokevirtual 114, 3) := by decide +kernel
theorem dX8_give_48 : decode cX8_give 48 = .ok (.aload_n 0, 1) := by decide +kernel
theorem dX8_give_49 : decode cX8_give 49 = .ok (.getfield 16, 3) := by decide +kernel
theorem dX8_give_52 : decode cX8_give 52 = .ok (.bipush 17, 2) := by decide +kernel
theorem dX8_give_54 : decode cX8_give 54 = .ok (.iload_n 1, 1) := by decide +kernel
theorem dX8_give_55 : decode cX8_give 55 = .ok (.iadd, 1) := by decide +kernel
theorem dX8_give_56 : decode cX8_give 56 = .ok (.dup2, 1) := by decide +kernel
theorem dX8_give_57 : decode cX8_give 57 = .ok (.iaload, 1) := by decide +kernel
theorem dX8_give_58 : decode cX8_give 58 = .ok (.iconst 1, 1) := by decide +kernel
theorem dX8_give_59 : decode cX8_give 59 = .ok (.isub, 1) := by decide +kernel
theorem dX8_give_60 : decode cX8_give 60 = .ok (.iastore, 1) := by decide +kernel
theorem dX8_give_61 : decode cX8_give 61 = .ok (.aload_n 0, 1) := by decide +kernel
theorem dX8_give_62 : decode cX8_give 62 = .ok (.getfield 16, 3) := by decide +kernel
theorem dX8_give_65 : decode cX8_give 65 = .ok (.bipush 23, 2) := by decide +kernel
theorem dX8_give_67 : decode cX8_give 67 = .ok (.bipush 6, 2) := by decide +kernel
theorem dX8_give_69 : decode cX8_give 69 = .ok (.iload_n 2, 1) := by decide +kernel
theorem dX8_give_70 : decode cX8_give 70 = .ok (.imul, 1) := by decide +kernel
theorem dX8_give_71 : decode cX8_give 71 = .ok (.iadd, 1) := by decide +kernel
theorem dX8_give_72 : decode cX8_give 72 = .ok (.iload_n 1, 1) := by decide +kernel
theorem dX8_give_73 : decode cX8_give 73 = .ok (.iadd, 1) := by decide +kernel
theorem dX8_give_74 : decode cX8_give 74 = .ok (.dup2, 1) := by decide +kernel
theorem dX8_give_75 : decode cX8_give 75 = .ok (.iaload, 1) := by decide +kernel
theorem dX8_give_76 : decode cX8_give 76 = .ok (.iconst 1, 1) := by decide +kernel
theorem dX8_give_77 : decode cX8_give 77 = .ok (.iadd, 1) := by decide +kernel
theorem dX8_give_78 : decode cX8_give 78 = .ok (.iastore, 1) := by decide +kernel
theorem dX8_give_79 : decode cX8_give 79 = .ok (.aload_n 0, 1) := by decide +kernel
theorem dX8_give_80 : decode cX8_give 80 = .ok (.getfield 16, 3) := by decide +kernel
theorem dX8_give_83 : decode cX8_give 83 = .ok (.bipush 23, 2) := by decide +kernel
theorem dX8_give_85 : decode cX8_give 85 = .ok (.bipush 6, 2) := by decide +kernel
theorem dX8_give_87 : decode cX8_give 87 = .ok (.iload_n 2, 1) := by decide +kernel
theorem dX8_give_88 : decode cX8_give 88 = .ok (.imul, 1) := by decide +kernel
theorem dX8_give_89 : decode cX8_give 89 = .ok (.iadd, 1) := by decide +kernel
theorem dX8_give_90 : decode cX8_give 90 = .ok (.iload_n 1, 1) := by decide +kernel
theorem dX8_give_91 : decode cX8_give 91 = .ok (.iadd, 1) := by decide +kernel
theorem dX8_give_92 : decode cX8_give 92 = .ok (.iaload, 1) := by decide +kernel
theorem dX8_give_93 : decode cX8_give 93 = .ok (.ireturn, 1) := by decide +kernel
theorem dX8_letBy_0 : decode cX8_letBy 0 = .ok (.aload_n 0, 1) := by decide +kernel
theorem dX8_letBy_1 : decode cX8_letBy 1 = .ok (.iload_n 1, 1) := by decide +kernel
theorem dX8_letBy_2 : decode cX8_letBy 2 = .ok (.invokevirtual 89, 3) := by decide +kernel
theorem dX8_letBy_5 : decode cX8_letBy 5 = .ok (.ifCond .ne 5, 3) := by decide +kernel
theorem dX8_letBy_8 : decode cX8_letBy 8 = .ok (.iconst (-1), 1) := by decide +kernel
theorem dX8_letBy_9 : decode cX8_letBy 9 = .ok (.ireturn, 1) := by decide +kernel
theorem dX8_letBy_10 : decode cX8_letBy 10 = .ok (.aload_n 0, 1) := by decide +kernel
theorem dX8_letBy_11 : decode cX8_letBy 11 = .ok (.iconst 0, 1) := by decide +kernel
theorem dX8_letBy_12 : decode cX8_letBy 12 = .ok (.iload_n 1, 1) := by decide +kernel
theorem dX8_letBy_13 : decode cX8_letBy 13 = .ok (.aload_n 0, 1) := by decide +kernel
theorem dX8_letBy_14 : decode cX8_letBy 14 = .ok (.getfield 83, 3) := by decide +kernel
theorem dX8_letBy_17 : decode cX8_letBy 17 = .ok (.invokevirtual 93, 3) := by decide +kernel
theorem dX8_letBy_20 : decode cX8_letBy 20 = .ok (.istore_n 2, 1) := by decide +kernel
theorem dX8_letBy_21 : decode cX8_letBy 21 = .ok (.iload_n 2, 1) := by decide +kernel
theorem dX8_letBy_22 : decode cX8_letBy 22 = .ok (.aload_n 0, 1) := by decide +kernel
theorem dX8_letBy_23 : decode cX8_letBy 23 = .ok (.getfield 83, 3) := by decide +kernel
theorem dX8_letBy_26 : decode cX8_letBy 26 = .ok (.iconst 1, 1) := by decide +kernel
theorem dX8_letBy_27 : decode cX8_letBy 27 = .ok (.isub, 1) := by decide +kernel
theorem dX8_letBy_28 : decode cX8_letBy 28 = .ok (.if_icmp .ne 6, 3) := by decide +kernel
theorem dX8_letBy_31 : decode cX8_letBy 31 = .ok (.bipush (-3), 2) := by decide +kernel
theorem dX8_letBy_33 : decode cX8_letBy 33 = .ok (.ireturn, 1) := by decide +kernel
theorem dX8_letBy_34 : decode cX8_letBy 34 = .ok (.aload_n 0, 1) := by decide +kernel
theorem dX8_letBy_35 : decode cX8_letBy 35 = .ok (.invokevirtual 114, 3) := by decide +kernel
theorem dX8_letBy_38 : decode cX8_letBy 38 = .ok (.aload_n 0, 1) := by decide +kernel
theorem dX8_letBy_39 : decode cX8_letBy 39 = .ok (.getfield 16, 3) := by decide +kernel
theorem dX8_letBy_42 : decode cX8_letBy 42 = .ok (.iload_n 2, 1) := by decide +kernel
theorem dX8_letBy_43 : decode cX8_letBy 43 = .ok (.aload_n 0, 1) := by decide +kernel
theorem dX8_letBy_44 : decode cX8_letBy 44 = .ok (.getfield 16, 3) := by decide +kernel
theorem dX8_letBy_47 : decode cX8_letBy 47 = .ok (.iload_n 2, 1) := by decide +kernel
theorem dX8_letBy_48 : decode cX8_letBy 48 = .ok (.iconst 1, 1) := by decide +kernel
theorem dX8_letBy_49 : decode cX8_letBy 49 = .ok (.iadd, 1) := by decide +kernel
theorem dX8_letBy_50 : decode cX8_letBy 50 = .ok (.iaload, 1) := by decide +kernel
theorem dX8_letBy_51 : decode cX8_letBy 51 = .ok (.iastore, 1) := by decide +kernel
theorem dX8_letBy_52 : decode cX8_letBy 52 = .ok (.aload_n 0, 1) := by decide +kernel
theorem dX8_letBy_53 : decode cX8_letBy 53 = .ok (.getfield 16, 3) := by decide +kernel
theorem dX8_letBy_56 : decode cX8_letBy 56 = .ok (.iload_n 2, 1) := by decide +kernel
theorem dX8_letBy_57 : decode cX8_letBy 57 = .ok (.iconst 1, 1) := by decide +kernel
theorem dX8_letBy_58 : decode cX8_letBy 58 = .ok (.iadd, 1) := by decide +kernel
theorem dX8_letBy_59 : decode cX8_letBy 59 = .ok (.iload_n 1, 1) := by decide +kernel
theorem dX8_letBy_60 : decode cX8_letBy 60 = .ok (.iastore, 1) := by decide +kernel
theorem dX8_letBy_61 : decode cX8_letBy 61 = .ok (.iload_n 2, 1) := by decide +kernel
theorem dX8_letBy_62 : decode cX8_letBy 62 = .ok (.iconst 1, 1) := by decide +kernel
theorem dX8_letBy_63 : decode cX8_letBy 63 = .ok (.iadd, 1) := by decide +kernel
theorem dX8_letBy_64 : decode cX8_letBy 64 = .ok (.ireturn, 1) := by decide +kernel
theorem dX8_learn_0 : decode cX8_learn 0 = .ok (.aload_n 0, 1) := by decide +kernel
theorem dX8_learn_1 : decode cX8_learn 1 = .ok (.iload_n 1, 1) := by decide +kernel
theorem dX8_learn_2 : decode cX8_learn 2 = .ok (.invokevirtual 97, 3) := by decide +kernel
theorem dX8_learn_5 : decode cX8_learn 5 = .ok (.ifCond .ne 5, 3) := by decide +kernel
theorem dX8_learn_8 : decode cX8_learn 8 = .ok (.iconst (-1), 1) := by decide +kernel
theorem dX8_learn_9 : decode cX8_learn 9 = .ok (.ireturn, 1) := by decide +kernel
theorem dX8_learn_10 : decode cX8_learn 10 = .ok (.iload_n 2, 1) := by decide +kernel
theorem dX8_learn_11 : decode cX8_learn 11 = .ok (.i2l, 1) := by decide +kernel
theorem dX8_learn_12 : decode cX8_learn 12 = .ok (.lconst 0, 1) := by decide +kernel
theorem dX8_learn_13 : decode cX8_learn 13 = .ok (.ldc2_w 124, 3) := by decide +kernel
theorem dX8_learn_16 : decode cX8_learn 16 = .ok (.invokestatic 56, 3) := by decide +kernel
theorem dX8_learn_19 : decode cX8_learn 19 = .ok (.ifCond .ne 6, 3) := by decide +kernel
theorem dX8_learn_22 : decode cX8_learn 22 = .ok (.bipush (-2), 2) := by decide +kernel
theorem dX8_learn_24 : decode cX8_learn 24 = .ok (.ireturn, 1) := by decide +kernel
theorem dX8_learn_25 : decode cX8_learn 25 = .ok (.iload_n 1, 1) := by decide +kernel
theorem dX8_learn_26 : decode cX8_learn 26 = .ok (.aload_n 0, 1) := by decide +kernel
theorem dX8_learn_27 : decode cX8_learn 27 = .ok (.getfield 16, 3) := by decide +kernel
theorem dX8_learn_30 : decode cX8_learn 30 = .ok (.bipush 53, 2) := by decide +kernel
theorem dX8_learn_32 : decode cX8_learn 32 = .ok (.iaload, 1) := by decide +kernel
theorem dX8_learn_33 : decode cX8_learn 33 = .ok (.if_icmp .lt 16, 3) := by decide +kernel
theorem dX8_learn_36 : decode cX8_learn 36 = .ok (.aload_n 0, 1) := by decide +kernel
theorem dX8_learn_37 : decode cX8_learn 37 = .ok (.getfield 16, 3) := by decide +kernel
theorem dX8_learn_40 : decode cX8_learn 40 = .ok (.bipush 12, 2) := by decide +kernel
theorem dX8_learn_42 : decode cX8_learn 42 = .ok (.iload_n 1, 1) := by decide +kernel
theorem dX8_learn_43 : decode cX8_learn 43 = .ok (.iadd, 1) := by decide +kernel
theorem dX8_learn_44 : decode cX8_learn 44 = .ok (.iaload, 1) := by decide +kernel
theorem dX8_learn_45 : decode cX8_learn 45 = .ok (.iload_n 2, 1) := by decide +kernel
theorem dX8_learn_46 : decode cX8_learn 46 = .ok (.if_icmp .ne 6, 3) := by decide +kernel
theorem dX8_learn_49 : decode cX8_learn 49 = .ok (.bipush (-3), 2) := by decide +kernel
theorem dX8_learn_51 : decode cX8_learn 51 = .ok (.ireturn, 1) := by decide +kernel
theorem dX8_learn_52 : decode cX8_learn 52 = .ok (.aload_n 0, 1) := by decide +kernel
theorem dX8_learn_53 : decode cX8_learn 53 = .ok (.invokevirtual 114, 3) := by decide +kernel
theorem dX8_learn_56 : decode cX8_learn 56 = .ok (.aload_n 0, 1) := by decide +kernel
theorem dX8_learn_57 : decode cX8_learn 57 = .ok (.getfield 16, 3) := by decide +kernel
theorem dX8_learn_60 : decode cX8_learn 60 = .ok (.bipush 12, 2) := by decide +kernel
theorem dX8_learn_62 : decode cX8_learn 62 = .ok (.iload_n 1, 1) := by decide +kernel
theorem dX8_learn_63 : decode cX8_learn 63 = .ok (.iadd, 1) := by decide +kernel
theorem dX8_learn_64 : decode cX8_learn 64 = .ok (.iaload, 1) := by decide +kernel
theorem dX8_learn_65 : decode cX8_learn 65 = .ok (.istore_n 3, 1) := by decide +kernel
theorem dX8_learn_66 : decode cX8_learn 66 = .ok (.aload_n 0, 1) := by decide +kernel
theorem dX8_learn_67 : decode cX8_learn 67 = .ok (.getfield 16, 3) := by decide +kernel
theorem dX8_learn_70 : decode cX8_learn 70 = .ok (.bipush 12, 2) := by decide +kernel
theorem dX8_learn_72 : decode cX8_learn 72 = .ok (.iload_n 1, 1) := by decide +kernel
theorem dX8_learn_73 : decode cX8_learn 73 = .ok (.iadd, 1) := by decide +kernel
theorem dX8_learn_74 : decode cX8_learn 74 = .ok (.iload_n 2, 1) := by decide +kernel
theorem dX8_learn_75 : decode cX8_learn 75 = .ok (.iastore, 1) := by decide +kernel
theorem dX8_learn_76 : decode cX8_learn 76 = .ok (.iload_n 3, 1) := by decide +kernel
theorem dX8_learn_77 : decode cX8_learn 77 = .ok (.ireturn, 1) := by decide +kernel
theorem dX8_undo_0 : decode cX8_undo 0 = .ok (.aload_n 0, 1) := by decide +kernel
theorem dX8_undo_1 : decode cX8_undo 1 = .ok (.getfield 86, 3) := by decide +kernel
theorem dX8_undo_4 : decode cX8_undo 4 = .ok (.ifCond .ne 6, 3) := by decide +kernel
theorem dX8_undo_7 : decode cX8_undo 7 = .ok (.bipush (-3), 2) := by decide +kernel
theorem dX8_undo_9 : decode cX8_undo 9 = .ok (.ireturn, 1) := by decide +kernel
theorem dX8_undo_10 : decode cX8_undo 10 = .ok (.aload_n 0, 1) := by decide +kernel
theorem dX8_undo_11 : decode cX8_undo 11 = .ok (.dup, 1) := by decide +kernel
theorem dX8_undo_12 : decode cX8_undo 12 = .ok (.getfield 86, 3) := by decide +kernel
theorem dX8_undo_15 : decode cX8_undo 15 = .ok (.iconst 1, 1) := by decide +kernel
theorem dX8_undo_16 : decode cX8_undo 16 = .ok (.isub, 1) := by decide +kernel
theorem dX8_undo_17 : decode cX8_undo 17 = .ok (.putfield 86, 3) := by decide +kernel
theorem dX8_undo_20 : decode cX8_undo 20 = .ok (.aload_n 0, 1) := by decide +kernel
theorem dX8_undo_21 : decode cX8_undo 21 = .ok (.aload_n 0, 1) := by decide +kernel
theorem dX8_undo_22 : decode cX8_undo 22 = .ok (.getfield 111, 3) := by decide +kernel
theorem dX8_undo_25 : decode cX8_undo 25 = .ok (.bipush 13, 2) := by decide +kernel
theorem dX8_undo_27 : decode cX8_undo 27 = .ok (.iadd, 1) := by decide +kernel
theorem dX8_undo_28 : decode cX8_undo 28 = .ok (.bipush 14, 2) := by decide +kernel
theorem dX8_undo_30 : decode cX8_undo 30 = .ok (.irem, 1) := by decide +kernel
theorem dX8_undo_31 : decode cX8_undo 31 = .ok (.putfield 111, 3) := by decide +kernel
theorem dX8_undo_34 : decode cX8_undo 34 = .ok (.iconst 0, 1) := by decide +kernel
theorem dX8_undo_35 : decode cX8_undo 35 = .ok (.istore_n 1, 1) := by decide +kernel
theorem dX8_undo_36 : decode cX8_undo 36 = .ok (.iload_n 1, 1) := by decide +kernel
theorem dX8_undo_37 : decode cX8_undo 37 = .ok (.bipush 54, 2) := by decide +kernel
theorem dX8_undo_39 : decode cX8_undo 39 = .ok (.if_icmp .ge 29, 3) := by decide +kernel
theorem dX8_undo_42 : decode cX8_undo 42 = .ok (.aload_n 0, 1) := by decide +kernel
theorem dX8_undo_43 : decode cX8_undo 43 = .ok (.getfield 16, 3) := by decide +kernel
theorem dX8_undo_46 : decode cX8_undo 46 = .ok (.iload_n 1, 1) := by decide +kernel
theorem dX8_undo_47 : decode cX8_undo 47 = .ok (.aload_n 0, 1) := by decide +kernel
theorem dX8_undo_48 : decode cX8_undo 48 = .ok (.getfield 31, 3) := by decide +kernel
theorem dX8_undo_51 : decode cX8_undo 51 = .ok (.bipush 54, 2) := by decide +kernel
theorem dX8_undo_53 : decode cX8_undo 53 = .ok (.aload_n 0, 1) := by decide +kernel
theorem dX8_undo_54 : decode cX8_undo 54 = .ok (.getfield 111, 3) := by decide +kernel
theorem dX8_undo_57 : decode cX8_undo 57 = .ok (.imul, 1) := by decide +kernel
theorem dX8_undo_58 : decode cX8_undo 58 = .ok (.iload_n 1, 1) := by decide +kernel
theorem dX8_undo_59 : decode cX8_undo 59 = .ok (.iadd, 1) := by decide +kernel
theorem dX8_undo_60 : decode cX8_undo 60 = .ok (.iaload, 1) := by decide +kernel
theorem dX8_undo_61 : decode cX8_undo 61 = .ok (.iastore, 1) := by decide +kernel
theorem dX8_undo_62 : decode cX8_undo 62 = .ok (.iinc 1 1, 3) := by decide +kernel
theorem dX8_undo_65 : decode cX8_undo 65 = .ok (.goto (-29), 3) := by decide +kernel
theorem dX8_undo_68 : decode cX8_undo 68 = .ok (.aload_n 0, 1) := by decide +kernel
theorem dX8_undo_69 : decode cX8_undo 69 = .ok (.getfield 86, 3) := by decide +kernel
theorem dX8_undo_72 : decode cX8_undo 72 = .ok (.ireturn, 1) := by decide +kernel
theorem dX8_layTrial_0 : decode cX8_layTrial 0 = .ok (.iconst 0, 1) := by decide +kernel
theorem dX8_layTrial_1 : decode cX8_layTrial 1 = .ok (.istore_n 1, 1) := by decide +kernel
theorem dX8_layTrial_2 : decode cX8_layTrial 2 = .ok (.iload_n 1, 1) := by decide +kernel
theorem dX8_layTrial_3 : decode cX8_layTrial 3 = .ok (.bipush 54, 2) := by decide +kernel
theorem dX8_layTrial_5 : decode cX8_layTrial 5 = .ok (.if_icmp .ge 24, 3) := by decide +kernel
theorem dX8_layTrial_8 : decode cX8_layTrial 8 = .ok (.aload_n 0, 1) := by decide +kernel
theorem dX8_layTrial_9 : decode cX8_layTrial 9 = .ok (.getfield 16, 3) := by decide +kernel
theorem dX8_layTrial_12 : decode cX8_layTrial 12 = .ok (.bipush 54, 2) := by decide +kernel
theorem dX8_layTrial_14 : decode cX8_layTrial 14 = .ok (.iload_n 1, 1) := by decide +kernel
theorem dX8_layTrial_15 : decode cX8_layTrial 15 = .ok (.iadd, 1) := by decide +kernel
theorem dX8_layTrial_16 : decode cX8_layTrial 16 = .ok (.aload_n 0, 1) := by decide +kernel
theorem dX8_layTrial_17 : decode cX8_layTrial 17 = .ok (.getfield 16, 3) := by decide +kernel
theorem dX8_layTrial_20 : decode cX8_layTrial 20 = .ok (.iload_n 1, 1) := by decide +kernel
theorem dX8_layTrial_21 : decode cX8_layTrial 21 = .ok (.iaload, 1) := by decide +kernel
theorem dX8_layTrial_22 : decode cX8_layTrial 22 = .ok (.iastore, 1) := by decide +kernel
theorem dX8_layTrial_23 : decode cX8_layTrial 23 = .ok (.iinc 1 1, 3) := by decide +kernel
theorem dX8_layTrial_26 : decode cX8_layTrial 26 = .ok (.goto (-24), 3) := by decide +kernel
theorem dX8_layTrial_29 : decode cX8_layTrial 29 = .ok (.iconst 0, 1) := by decide +kernel
theorem dX8_layTrial_30 : decode cX8_layTrial 30 = .ok (.istore_n 1, 1) := by decide +kernel
theorem dX8_layTrial_31 : decode cX8_layTrial 31 = .ok (.iload_n 1, 1) := by decide +kernel
theorem dX8_layTrial_32 : decode cX8_layTrial 32 = .ok (.bipush 6, 2) := by decide +kernel
theorem dX8_layTrial_34 : decode cX8_layTrial 34 = .ok (.if_icmp .ge 16, 3) := by decide +kernel
theorem dX8_layTrial_37 : decode cX8_layTrial 37 = .ok (.aload_n 0, 1) := by decide +kernel
theorem dX8_layTrial_38 : decode cX8_layTrial 38 = .ok (.getfield 28, 3) := by decide +kernel
theorem dX8_layTrial_41 : decode cX8_layTrial 41 = .ok (.iload_n 1, 1) := by decide +kernel
theorem dX8_layTrial_42 : decode cX8_layTrial 42 = .ok (.iconst 0, 1) := by decide +kernel
theorem dX8_layTrial_43 : decode cX8_layTrial 43 = .ok (.iastore, 1) := by decide +kernel
theorem dX8_layTrial_44 : decode cX8_layTrial 44 = .ok (.iinc 1 1, 3) := by decide +kernel
theorem dX8_layTrial_47 : decode cX8_layTrial 47 = .ok (.goto (-16), 3) := by decide +kernel
theorem dX8_layTrial_50 : decode cX8_layTrial 50 = .ok (.return_, 1) := by decide +kernel
theorem dX8_passAll_0 : decode cX8_passAll 0 = .ok (.aload_n 0, 1) := by decide +kernel
theorem dX8_passAll_1 : decode cX8_passAll 1 = .ok (.getfield 16, 3) := by decide +kernel
theorem dX8_passAll_4 : decode cX8_passAll 4 = .ok (.bipush 107, 2) := by decide +kernel
theorem dX8_passAll_6 : decode cX8_passAll 6 = .ok (.iaload, 1) := by decide +kernel
theorem dX8_passAll_7 : decode cX8_passAll 7 = .ok (.aload_n 0, 1) := by decide +kernel
theorem dX8_passAll_8 : decode cX8_passAll 8 = .ok (.getfield 50, 3) := by decide +kernel
theorem dX8_passAll_11 : decode cX8_passAll 11 = .ok (.if_icmp .ge 12, 3) := by decide +kernel
theorem dX8_passAll_14 : decode cX8_passAll 14 = .ok (.aload_n 0, 1) := by decide +kernel
theorem dX8_passAll_15 : decode cX8_passAll 15 = .ok (.iconst 1, 1) := by decide +kernel
theorem dX8_passAll_16 : decode cX8_passAll 16 = .ok (.iload_n 1, 1) := by decide +kernel
theorem dX8_passAll_17 : decode cX8_passAll 17 = .ok (.invokevirtual 117, 3) := by decide +kernel
theorem dX8_passAll_20 : decode cX8_passAll 20 = .ok (.goto (-20), 3) := by decide +kernel
theorem dX8_passAll_23 : decode cX8_passAll 23 = .ok (.return_, 1) := by decide +kernel
theorem dX8_layBasin_0 : decode cX8_layBasin 0 = .ok (.aload_n 0, 1) := by decide +kernel
theorem dX8_layBasin_1 : decode cX8_layBasin 1 = .ok (.invokevirtual 126, 3) := by decide +kernel
theorem dX8_layBasin_4 : decode cX8_layBasin 4 = .ok (.aload_n 0, 1) := by decide +kernel
theorem dX8_layBasin_5 : decode cX8_layBasin 5 = .ok (.aload_n 0, 1) := by decide +kernel
theorem dX8_layBasin_6 : decode cX8_layBasin 6 = .ok (.getfield 83, 3) := by decide +kernel
theorem dX8_layBasin_9 : decode cX8_layBasin 9 = .ok (.invokevirtual 129, 3) := by decide +kernel
theorem dX8_layBasin_12 : decode cX8_layBasin 12 = .ok (.return_, 1) := by decide +kernel
theorem dX8_basin_0 : decode cX8_basin 0 = .ok (.aload_n 0, 1) := by decide +kernel
theorem dX8_basin_1 : decode cX8_basin 1 = .ok (.invokevirtual 133, 3) := by decide +kernel
theorem dX8_basin_4 : decode cX8_basin 4 = .ok (.aload_n 0, 1) := by decide +kernel
theorem dX8_basin_5 : decode cX8_basin 5 = .ok (.iconst 1, 1) := by decide +kernel
theorem dX8_basin_6 : decode cX8_basin 6 = .ok (.aload_n 0, 1) := by decide +kernel
theorem dX8_basin_7 : decode cX8_basin 7 = .ok (.getfield 83, 3) := by decide +kernel
theorem dX8_basin_10 : decode cX8_basin 10 = .ok (.invokevirtual 121, 3) := by decide +kernel
theorem dX8_basin_13 : decode cX8_basin 13 = .ok (.ireturn, 1) := by decide +kernel
theorem dX8_hour_0 : decode cX8_hour 0 = .ok (.aload_n 0, 1) := by decide +kernel
theorem dX8_hour_1 : decode cX8_hour 1 = .ok (.iload_n 1, 1) := by decide +kernel
theorem dX8_hour_2 : decode cX8_hour 2 = .ok (.invokevirtual 89, 3) := by decide +kernel
theorem dX8_hour_5 : decode cX8_hour 5 = .ok (.ifCond .ne 5, 3) := by decide +kernel
theorem dX8_hour_8 : decode cX8_hour 8 = .ok (.iconst (-1), 1) := by decide +kernel
theorem dX8_hour_9 : decode cX8_hour 9 = .ok (.ireturn, 1) := by decide +kernel
theorem dX8_hour_10 : decode cX8_hour 10 = .ok (.aload_n 0, 1) := by decide +kernel
theorem dX8_hour_11 : decode cX8_hour 11 = .ok (.invokevirtual 133, 3) := by decide +kernel
theorem dX8_hour_14 : decode cX8_hour 14 = .ok (.aload_n 0, 1) := by decide +kernel
theorem dX8_hour_15 : decode cX8_hour 15 = .ok (.getfield 16, 3) := by decide +kernel
theorem dX8_hour_18 : decode cX8_hour 18 = .ok (.bipush 60, 2) := by decide +kernel
theorem dX8_hour_20 : decode cX8_hour 20 = .ok (.iload_n 1, 1) := by decide +kernel
theorem dX8_hour_21 : decode cX8_hour 21 = .ok (.iadd, 1) := by decide +kernel
theorem dX8_hour_22 : decode cX8_hour 22 = .ok (.iaload, 1) := by decide +kernel
theorem dX8_hour_23 : decode cX8_hour 23 = .ok (.ireturn, 1) := by decide +kernel
theorem dX8_gains_0 : decode cX8_gains 0 = .ok (.aload_n 0, 1) := by decide +kernel
theorem dX8_gains_1 : decode cX8_gains 1 = .ok (.iload_n 1, 1) := by decide +kernel
theorem dX8_gains_2 : decode cX8_gains 2 = .ok (.invokevirtual 89, 3) := by decide +kernel
theorem dX8_gains_5 : decode cX8_gains 5 = .ok (.ifCond .ne 5, 3) := by decide +kernel
theorem dX8_gains_8 : decode cX8_gains 8 = .ok (.iconst (-1), 1) := by decide +kernel
theorem dX8_gains_9 : decode cX8_gains 9 = .ok (.ireturn, 1) := by decide +kernel
theorem dX8_gains_10 : decode cX8_gains 10 = .ok (.aload_n 0, 1) := by decide +kernel
theorem dX8_gains_11 : decode cX8_gains 11 = .ok (.invokevirtual 126, 3) := by decide +kernel
theorem dX8_gains_14 : decode cX8_gains 14 = .ok (.iconst 0, 1) := by decide +kernel
theorem dX8_gains_15 : decode cX8_gains 15 = .ok (.istore_n 2, 1) := by decide +kernel
theorem dX8_gains_16 : decode cX8_gains 16 = .ok (.aload_n 0, 1) := by decide +kernel
theorem dX8_gains_17 : decode cX8_gains 17 = .ok (.getfield 16, 3) := by decide +kernel
theorem dX8_gains_20 : decode cX8_gains 20 = .ok (.bipush 107, 2) := by decide +kernel
theorem dX8_gains_22 : decode cX8_gains 22 = .ok (.iaload, 1) := by decide +kernel
theorem dX8_gains_23 : decode cX8_gains 23 = .ok (.aload_n 0, 1) := by decide +kernel
theorem dX8_gains_24 : decode cX8_gains 24 = .ok (.getfield 50, 3) := by decide +kernel
theorem dX8_gains_27 : decode cX8_gains 27 = .ok (.if_icmp .ge 60, 3) := by decide +kernel
theorem dX8_gains_30 : decode cX8_gains 30 = .ok (.aload_n 0, 1) := by decide +kernel
theorem dX8_gains_31 : decode cX8_gains 31 = .ok (.getfield 16, 3) := by decide +kernel
theorem dX8_gains_34 : decode cX8_gains 34 = .ok (.bipush 107, 2) := by decide +kernel
theorem dX8_gains_36 : decode cX8_gains 36 = .ok (.iaload, 1) := by decide +kernel
theorem dX8_gains_37 : decode cX8_gains 37 = .ok (.istore_n 3, 1) := by decide +kernel
theorem dX8_gains_38 : decode cX8_gains 38 = .ok (.aload_n 0, 1) := by decide +kernel
theorem dX8_gains_39 : decode cX8_gains 39 = .ok (.iconst 1, 1) := by decide +kernel
theorem dX8_gains_40 : decode cX8_gains 40 = .ok (.iload_n 1, 1) := by decide +kernel
theorem dX8_gains_41 : decode cX8_gains 41 = .ok (.aload_n 0, 1) := by decide +kernel
theorem dX8_gains_42 : decode cX8_gains 42 = .ok (.getfield 83, 3) := by decide +kernel
theorem dX8_gains_45 : decode cX8_gains 45 = .ok (.invokevirtual 93, 3) := by decide +kernel
theorem dX8_gains_48 : decode cX8_gains 48 = .ok (.istore 4, 2) := by decide +kernel
theorem dX8_gains_50 : decode cX8_gains 50 = .ok (.aload_n 0, 1) := by decide +kernel
theorem dX8_gains_51 : decode cX8_gains 51 = .ok (.iconst 1, 1) := by decide +kernel
theorem dX8_gains_52 : decode cX8_gains 52 = .ok (.aload_n 0, 1) := by decide +kernel
theorem dX8_gains_53 : decode cX8_gains 53 = .ok (.getfield 83, 3) := by decide +kernel
theorem dX8_gains_56 : decode cX8_gains 56 = .ok (.invokevirtual 117, 3) := by decide +kernel
theorem dX8_gains_59 : decode cX8_gains 59 = .ok (.iload_n 2, 1) := by decide +kernel
theorem dX8_gains_60 : decode cX8_gains 60 = .ok (.aload_n 0, 1) := by decide +kernel
theorem dX8_gains_61 : decode cX8_gains 61 = .ok (.iconst 1, 1) := by decide +kernel
theorem dX8_gains_62 : decode cX8_gains 62 = .ok (.iload_n 1, 1) := by decide +kernel
theorem dX8_gains_63 : decode cX8_gains 63 = .ok (.aload_n 0, 1) := by decide +kernel
theorem dX8_gains_64 : decode cX8_gains 64 = .ok (.getfield 83, 3) := by decide +kernel
theorem dX8_gains_67 : decode cX8_gains 67 = .ok (.invokevirtual 93, 3) := by decide +kernel
theorem dX8_gains_70 : decode cX8_gains 70 = .ok (.iload 4, 2) := by decide +kernel
theorem dX8_gains_72 : decode cX8_gains 72 = .ok (.if_icmp .ge 9, 3) := by decide +kernel
theorem dX8_gains_75 : decode cX8_gains 75 = .ok (.iconst 1, 1) := by decide +kernel
theorem dX8_gains_76 : decode cX8_gains 76 = .ok (.iload_n 3, 1) := by decide +kernel
theorem dX8_gains_77 : decode cX8_gains 77 = .ok (.ishl, 1) := by decide +kernel
theorem dX8_gains_78 : decode cX8_gains 78 = .ok (.goto 4, 3) := by decide +kernel
theorem dX8_gains_81 : decode cX8_gains 81 = .ok (.iconst 0, 1) := by decide +kernel
theorem dX8_gains_82 : decode cX8_gains 82 = .ok (.ior, 1) := by decide +kernel
theorem dX8_gains_83 : decode cX8_gains 83 = .ok (.istore_n 2, 1) := by decide +kernel
theorem dX8_gains_84 : decode cX8_gains 84 = .ok (.goto (-68), 3) := by decide +kernel
theorem dX8_gains_87 : decode cX8_gains 87 = .ok (.iload_n 2, 1) := by decide +kernel
theorem dX8_gains_88 : decode cX8_gains 88 = .ok (.ireturn, 1) := by decide +kernel
theorem dX8_mates_0 : decode cX8_mates 0 = .ok (.aload_n 0, 1) := by decide +kernel
theorem dX8_mates_1 : decode cX8_mates 1 = .ok (.iload_n 1, 1) := by decide +kernel
theorem dX8_mates_2 : decode cX8_mates 2 = .ok (.invokevirtual 89, 3) := by decide +kernel
theorem dX8_mates_5 : decode cX8_mates 5 = .ok (.ifCond .ne 5, 3) := by decide +kernel
theorem dX8_mates_8 : decode cX8_mates 8 = .ok (.iconst (-1), 1) := by decide +kernel
theorem dX8_mates_9 : decode cX8_mates 9 = .ok (.ireturn, 1) := by decide +kernel
theorem dX8_mates_10 : decode cX8_mates 10 = .ok (.aload_n 0, 1) := by decide +kernel
theorem dX8_mates_11 : decode cX8_mates 11 = .ok (.invokevirtual 133, 3) := by decide +kernel
theorem dX8_mates_14 : decode cX8_mates 14 = .ok (.aload_n 0, 1) := by decide +kernel
theorem dX8_mates_15 : decode cX8_mates 15 = .ok (.getfield 28, 3) := by decide +kernel
theorem dX8_mates_18 : decode cX8_mates 18 = .ok (.iload_n 1, 1) := by decide +kernel
theorem dX8_mates_19 : decode cX8_mates 19 = .ok (.iaload, 1) := by decide +kernel
theorem dX8_mates_20 : decode cX8_mates 20 = .ok (.ireturn, 1) := by decide +kernel
theorem dX8_isSo_0 : decode cX8_isSo 0 = .ok (.aload_n 0, 1) := by decide +kernel
theorem dX8_isSo_1 : decode cX8_isSo 1 = .ok (.aload_n 0, 1) := by decide +kernel
theorem dX8_isSo_2 : decode cX8_isSo 2 = .ok (.getfield 83, 3) := by decide +kernel
theorem dX8_isSo_5 : decode cX8_isSo 5 = .ok (.invokevirtual 129, 3) := by decide +kernel
theorem dX8_isSo_8 : decode cX8_isSo 8 = .ok (.aload_n 0, 1) := by decide +kernel
theorem dX8_isSo_9 : decode cX8_isSo 9 = .ok (.getfield 16, 3) := by decide +kernel
theorem dX8_isSo_12 : decode cX8_isSo 12 = .ok (.bipush 54, 2) := by decide +kernel
theorem dX8_isSo_14 : decode cX8_isSo 14 = .ok (.iaload, 1) := by decide +kernel
theorem dX8_isSo_15 : decode cX8_isSo 15 = .ok (.iload_n 1, 1) := by decide +kernel
theorem dX8_isSo_16 : decode cX8_isSo 16 = .ok (.if_icmp .ne 25, 3) := by decide +kernel
theorem dX8_isSo_19 : decode cX8_isSo 19 = .ok (.aload_n 0, 1) := by decide +kernel
theorem dX8_isSo_20 : decode cX8_isSo 20 = .ok (.getfield 16, 3) := by decide +kernel
theorem dX8_isSo_23 : decode cX8_isSo 23 = .ok (.bipush 54, 2) := by decide +kernel
theorem dX8_isSo_25 : decode cX8_isSo 25 = .ok (.aload_n 0, 1) := by decide +kernel
theorem dX8_isSo_26 : decode cX8_isSo 26 = .ok (.getfield 83, 3) := by decide +kernel
theorem dX8_isSo_29 : decode cX8_isSo 29 = .ok (.iadd, 1) := by decide +kernel
theorem dX8_isSo_30 : decode cX8_isSo 30 = .ok (.iconst 1, 1) := by decide +kernel
theorem dX8_isSo_31 : decode cX8_isSo 31 = .ok (.isub, 1) := by decide +kernel
theorem dX8_isSo_32 : decode cX8_isSo 32 = .ok (.iaload, 1) := by decide +kernel
theorem dX8_isSo_33 : decode cX8_isSo 33 = .ok (.iload_n 2, 1) := by decide +kernel
theorem dX8_isSo_34 : decode cX8_isSo 34 = .ok (.if_icmp .eq 7, 3) := by decide +kernel
theorem dX8_isSo_37 : decode cX8_isSo 37 = .ok (.iconst 1, 1) := by decide +kernel
theorem dX8_isSo_38 : decode cX8_isSo 38 = .ok (.goto 4, 3) := by decide +kernel
theorem dX8_isSo_41 : decode cX8_isSo 41 = .ok (.iconst 0, 1) := by decide +kernel
theorem dX8_isSo_42 : decode cX8_isSo 42 = .ok (.ireturn, 1) := by decide +kernel
theorem dX8_factorial_0 : decode cX8_factorial 0 = .ok (.iconst 1, 1) := by decide +kernel
theorem dX8_factorial_1 : decode cX8_factorial 1 = .ok (.istore_n 1, 1) := by decide +kernel
theorem dX8_factorial_2 : decode cX8_factorial 2 = .ok (.iconst 2, 1) := by decide +kernel
theorem dX8_factorial_3 : decode cX8_factorial 3 = .ok (.istore_n 2, 1) := by decide +kernel
theorem dX8_factorial_4 : decode cX8_factorial 4 = .ok (.iload_n 2, 1) := by decide +kernel
theorem dX8_factorial_5 : decode cX8_factorial 5 = .ok (.iload_n 0, 1) := by decide +kernel
theorem dX8_factorial_6 : decode cX8_factorial 6 = .ok (.if_icmp .gt 13, 3) := by decide +kernel
theorem dX8_factorial_9 : decode cX8_factorial 9 = .ok (.iload_n 1, 1) := by decide +kernel
theorem dX8_factorial_10 : decode cX8_factorial 10 = .ok (.iload_n 2, 1) := by decide +kernel
theorem dX8_factorial_11 : decode cX8_factorial 11 = .ok (.imul, 1) := by decide +kernel
theorem dX8_factorial_12 : decode cX8_factorial 12 = .ok (.istore_n 1, 1) := by decide +kernel
theorem dX8_factorial_13 : decode cX8_factorial 13 = .ok (.iinc 2 1, 3) := by decide +kernel
theorem dX8_factorial_16 : decode cX8_factorial 16 = .ok (.goto (-12), 3) := by decide +kernel
theorem dX8_factorial_19 : decode cX8_factorial 19 = .ok (.iload_n 1, 1) := by decide +kernel
theorem dX8_factorial_20 : decode cX8_factorial 20 = .ok (.ireturn, 1) := by decide +kernel
theorem dX8_layOrder_0 : decode cX8_layOrder 0 = .ok (.iconst 1, 1) := by decide +kernel
theorem dX8_layOrder_1 : decode cX8_layOrder 1 = .ok (.aload_n 0, 1) := by decide +kernel
theorem dX8_layOrder_2 : decode cX8_layOrder 2 = .ok (.getfield 83, 3) := by decide +kernel
theorem dX8_layOrder_5 : decode cX8_layOrder 5 = .ok (.ishl, 1) := by decide +kernel
theorem dX8_layOrder_6 : decode cX8_layOrder 6 = .ok (.iconst 1, 1) := by decide +kernel
theorem dX8_layOrder_7 : decode cX8_layOrder 7 = .ok (.isub, 1) := by decide +kernel
theorem dX8_layOrder_8 : decode cX8_layOrder 8 = .ok (.istore_n 2, 1) := by decide +kernel
theorem dX8_layOrder_9 : decode cX8_layOrder 9 = .ok (.iload_n 1, 1) := by decide +kernel
theorem dX8_layOrder_10 : decode cX8_layOrder 10 = .ok (.istore_n 3, 1) := by decide +kernel
theorem dX8_layOrder_11 : decode cX8_layOrder 11 = .ok (.iconst 0, 1) := by decide +kernel
theorem dX8_layOrder_12 : decode cX8_layOrder 12 = .ok (.istore 4, 2) := by decide +kernel
theorem dX8_layOrder_14 : decode cX8_layOrder 14 = .ok (.iload 4, 2) := by decide +kernel
theorem dX8_layOrder_16 : decode cX8_layOrder 16 = .ok (.aload_n 0, 1) := by decide +kernel
theorem dX8_layOrder_17 : decode cX8_layOrder 17 = .ok (.getfield 83, 3) := by decide +kernel
theorem dX8_layOrder_20 : decode cX8_layOrder 20 = .ok (.if_icmp .ge 119, 3) := by decide +kernel
theorem dX8_layOrder_23 : decode cX8_layOrder 23 = .ok (.aload_n 0, 1) := by decide +kernel
theorem dX8_layOrder_24 : decode cX8_layOrder 24 = .ok (.getfield 83, 3) := by decide +kernel
theorem dX8_layOrder_27 : decode cX8_layOrder 27 = .ok (.iconst 1, 1) := by decide +kernel
theorem dX8_layOrder_28 : decode cX8_layOrder 28 = .ok (.isub, 1) := by decide +kernel
theorem dX8_layOrder_29 : decode cX8_layOrder 29 = .ok (.iload 4, 2) := by decide +kernel
theorem dX8_layOrder_31 : decode cX8_layOrder 31 = .ok (.isub, 1) := by decide +kernel
theorem dX8_layOrder_32 : decode cX8_layOrder 32 = .ok (.invokestatic 136, 3) := by decide +kernel
theorem dX8_layOrder_35 : decode cX8_layOrder 35 = .ok (.istore 5, 2) := by decide +kernel
theorem dX8_layOrder_37 : decode cX8_layOrder 37 = .ok (.iload_n 3, 1) := by decide +kernel
theorem dX8_layOrder_38 : decode cX8_layOrder 38 = .ok (.iload 5, 2) := by decide +kernel
theorem dX8_layOrder_40 : decode cX8_layOrder 40 = .ok (.idiv, 1) := by decide +kernel
theorem dX8_layOrder_41 : decode cX8_layOrder 41 = .ok (.istore 6, 2) := by decide +kernel
theorem dX8_layOrder_43 : decode cX8_layOrder 43 = .ok (.iload_n 3, 1) := by decide +kernel
theorem dX8_layOrder_44 : decode cX8_layOrder 44 = .ok (.iload 5, 2) := by decide +kernel
theorem dX8_layOrder_46 : decode cX8_layOrder 46 = .ok (.irem, 1) := by decide +kernel
theorem dX8_layOrder_47 : decode cX8_layOrder 47 = .ok (.istore_n 3, 1) := by decide +kernel
theorem dX8_layOrder_48 : decode cX8_layOrder 48 = .ok (.bipush (-9), 2) := by decide +kernel
theorem dX8_layOrder_50 : decode cX8_layOrder 50 = .ok (.istore 7, 2) := by decide +kernel
theorem dX8_layOrder_52 : decode cX8_layOrder 52 = .ok (.iconst 0, 1) := by decide +kernel
theorem dX8_layOrder_53 : decode cX8_layOrder 53 = .ok (.istore 8, 2) := by decide +kernel
theorem dX8_layOrder_55 : decode cX8_layOrder 55 = .ok (.iload 8, 2) := by decide +kernel
theorem dX8_layOrder_57 : decode cX8_layOrder 57 = .ok (.aload_n 0, 1) := by decide +kernel
theorem dX8_layOrder_58 : decode cX8_layOrder 58 = .ok (.getfield 83, 3) := by decide +kernel
theorem dX8_layOrder_61 : decode cX8_layOrder 61 = .ok (.if_icmp .ge 51, 3) := by decide +kernel
theorem dX8_layOrder_64 : decode cX8_layOrder 64 = .ok (.iload_n 2, 1) := by decide +kernel
theorem dX8_layOrder_65 : decode cX8_layOrder 65 = .ok (.iload 8, 2) := by decide +kernel
theorem dX8_layOrder_67 : decode cX8_layOrder 67 = .ok (.invokestatic 139, 3) := by decide +kernel
theorem dX8_layOrder_70 : decode cX8_layOrder 70 = .ok (.ifCond .eq 13, 3) := by decide +kernel
theorem dX8_layOrder_73 : decode cX8_layOrder 73 = .ok (.iload 6, 2) := by decide +kernel
theorem dX8_layOrder_75 : decode cX8_layOrder 75 = .ok (.ifCond .ne 8, 3) := by decide +kernel
theorem dX8_layOrder_78 : decode cX8_layOrder 78 = .ok (.iload 8, 2) := by decide +kernel
theorem dX8_layOrder_80 : decode cX8_layOrder 80 = .ok (.goto 5, 3) := by decide +kernel
theorem dX8_layOrder_83 : decode cX8_layOrder 83 = .ok (.iload 7, 2) := by decide +kernel
theorem dX8_layOrder_85 : decode cX8_layOrder 85 = .ok (.istore 7, 2) := by decide +kernel
theorem dX8_layOrder_87 : decode cX8_layOrder 87 = .ok (.iload 6, 2) := by decide +kernel
theorem dX8_layOrder_89 : decode cX8_layOrder 89 = .ok (.iload_n 2, 1) := by decide +kernel
theorem dX8_layOrder_90 : decode cX8_layOrder 90 = .ok (.iload 8, 2) := by decide +kernel
theorem dX8_layOrder_92 : decode cX8_layOrder 92 = .ok (.invokestatic 139, 3) := by decide +kernel
theorem dX8_layOrder_95 : decode cX8_layOrder 95 = .ok (.ifCond .eq 7, 3) := by decide +kernel
theorem dX8_layOrder_98 : decode cX8_layOrder 98 = .ok (.iconst 1, 1) := by decide +kernel
theorem dX8_layOrder_99 : decode cX8_layOrder 99 = .ok (.goto 4, 3) := by decide +kernel
theorem dX8_layOrder_102 : decode cX8_layOrder 102 = .ok (.iconst 0, 1) := by decide +kernel
theorem dX8_layOrder_103 : decode cX8_layOrder 103 = .ok (.isub, 1) := by decide +kernel
theorem dX8_layOrder_104 : decode cX8_layOrder 104 = .ok (.istore 6, 2) := by decide +kernel
theorem dX8_layOrder_106 : decode cX8_layOrder 106 = .ok (.iinc 8 1, 3) := by decide +kernel
theorem dX8_layOrder_109 : decode cX8_layOrder 109 = .ok (.goto (-54), 3) := by decide +kernel
theorem dX8_layOrder_112 : decode cX8_layOrder 112 = .ok (.iload_n 2, 1) := by decide +kernel
theorem dX8_layOrder_113 : decode cX8_layOrder 113 = .ok (.iconst 1, 1) := by decide +kernel
theorem dX8_layOrder_114 : decode cX8_layOrder 114 = .ok (.iload 7, 2) := by decide +kernel
theorem dX8_layOrder_116 : decode cX8_layOrder 116 = .ok (.ishl, 1) := by decide +kernel
theorem dX8_layOrder_117 : decode cX8_layOrder 117 = .ok (.iconst (-1), 1) := by decide +kernel
theorem dX8_layOrder_118 : decode cX8_layOrder 118 = .ok (.ixor, 1) := by decide +kernel
theorem dX8_layOrder_119 : decode cX8_layOrder 119 = .ok (.iand, 1) := by decide +kernel
theorem dX8_layOrder_120 : decode cX8_layOrder 120 = .ok (.istore_n 2, 1) := by decide +kernel
theorem dX8_layOrder_121 : decode cX8_layOrder 121 = .ok (.aload_n 0, 1) := by decide +kernel
theorem dX8_layOrder_122 : decode cX8_layOrder 122 = .ok (.getfield 16, 3) := by decide +kernel
theorem dX8_layOrder_125 : decode cX8_layOrder 125 = .ok (.bipush 54, 2) := by decide +kernel
theorem dX8_layOrder_127 : decode cX8_layOrder 127 = .ok (.iload 4, 2) := by decide +kernel
theorem dX8_layOrder_129 : decode cX8_layOrder 129 = .ok (.iadd, 1) := by decide +kernel
theorem dX8_layOrder_130 : decode cX8_layOrder 130 = .ok (.iload 7, 2) := by decide +kernel
theorem dX8_layOrder_132 : decode cX8_layOrder 132 = .ok (.iastore, 1) := by decide +kernel
theorem dX8_layOrder_133 : decode cX8_layOrder 133 = .ok (.iinc 4 1, 3) := by decide +kernel
theorem dX8_layOrder_136 : decode cX8_layOrder 136 = .ok (.goto (-122), 3) := by decide +kernel
theorem dX8_layOrder_139 : decode cX8_layOrder 139 = .ok (.return_, 1) := by decide +kernel
theorem dX8_first_0 : decode cX8_first 0 = .ok (.aload_n 0, 1) := by decide +kernel
theorem dX8_first_1 : decode cX8_first 1 = .ok (.iload_n 1, 1) := by decide +kernel
theorem dX8_first_2 : decode cX8_first 2 = .ok (.invokevirtual 89, 3) := by decide +kernel
theorem dX8_first_5 : decode cX8_first 5 = .ok (.ifCond .eq 11, 3) := by decide +kernel
theorem dX8_first_8 : decode cX8_first 8 = .ok (.aload_n 0, 1) := by decide +kernel
theorem dX8_first_9 : decode cX8_first 9 = .ok (.iload_n 2, 1) := by decide +kernel
theorem dX8_first_10 : decode cX8_first 10 = .ok (.invokevirtual 89, 3) := by decide +kernel
theorem dX8_first_13 : decode cX8_first 13 = .ok (.ifCond .ne 5, 3) := by decide +kernel
theorem dX8_first_16 : decode cX8_first 16 = .ok (.iconst (-1), 1) := by decide +kernel
theorem dX8_first_17 : decode cX8_first 17 = .ok (.ireturn, 1) := by decide +kernel
theorem dX8_first_18 : decode cX8_first 18 = .ok (.iload_n 1, 1) := by decide +kernel
theorem dX8_first_19 : decode cX8_first 19 = .ok (.iload_n 2, 1) := by decide +kernel
theorem dX8_first_20 : decode cX8_first 20 = .ok (.if_icmp .ne 6, 3) := by decide +kernel
theorem dX8_first_23 : decode cX8_first 23 = .ok (.bipush (-2), 2) := by decide +kernel
theorem dX8_first_25 : decode cX8_first 25 = .ok (.ireturn, 1) := by decide +kernel
theorem dX8_first_26 : decode cX8_first 26 = .ok (.iconst 0, 1) := by decide +kernel
theorem dX8_first_27 : decode cX8_first 27 = .ok (.istore_n 3, 1) := by decide +kernel
theorem dX8_first_28 : decode cX8_first 28 = .ok (.iload_n 3, 1) := by decide +kernel
theorem dX8_first_29 : decode cX8_first 29 = .ok (.aload_n 0, 1) := by decide +kernel
theorem dX8_first_30 : decode cX8_first 30 = .ok (.getfield 83, 3) := by decide +kernel
theorem dX8_first_33 : decode cX8_first 33 = .ok (.invokestatic 136, 3) := by decide +kernel
theorem dX8_first_36 : decode cX8_first 36 = .ok (.if_icmp .ge 41, 3) := by decide +kernel
theorem dX8_first_39 : decode cX8_first 39 = .ok (.aload_n 0, 1) := by decide +kernel
theorem dX8_first_40 : decode cX8_first 40 = .ok (.invokevirtual 126, 3) := by decide +kernel
theorem dX8_first_43 : decode cX8_first 43 = .ok (.aload_n 0, 1) := by decide +kernel
theorem dX8_first_44 : decode cX8_first 44 = .ok (.iload_n 3, 1) := by decide +kernel
theorem dX8_first_45 : decode cX8_first 45 = .ok (.invokevirtual 143, 3) := by decide +kernel
theorem dX8_first_48 : decode cX8_first 48 = .ok (.aload_n 0, 1) := by decide +kernel
theorem dX8_first_49 : decode cX8_first 49 = .ok (.iconst 1, 1) := by decide +kernel
theorem dX8_first_50 : decode cX8_first 50 = .ok (.aload_n 0, 1) := by decide +kernel
theorem dX8_first_51 : decode cX8_first 51 = .ok (.getfield 83, 3) := by decide +kernel
theorem dX8_first_54 : decode cX8_first 54 = .ok (.invokevirtual 121, 3) := by decide +kernel
theorem dX8_first_57 : decode cX8_first 57 = .ok (.istore 4, 2) := by decide +kernel
theorem dX8_first_59 : decode cX8_first 59 = .ok (.aload_n 0, 1) := by decide +kernel
theorem dX8_first_60 : decode cX8_first 60 = .ok (.iload_n 1, 1) := by decide +kernel
theorem dX8_first_61 : decode cX8_first 61 = .ok (.iload_n 2, 1) := by decide +kernel
theorem dX8_first_62 : decode cX8_first 62 = .ok (.invokevirtual 146, 3) := by decide +kernel
theorem dX8_first_65 : decode cX8_first 65 = .ok (.ifCond .eq 6, 3) := by decide +kernel
theorem dX8_first_68 : decode cX8_first 68 = .ok (.iload 4, 2) := by decide +kernel
theorem dX8_first_70 : decode cX8_first 70 = .ok (.ireturn, 1) := by decide +kernel
theorem dX8_first_71 : decode cX8_first 71 = .ok (.iinc 3 1, 3) := by decide +kernel
theorem dX8_first_74 : decode cX8_first 74 = .ok (.goto (-46), 3) := by decide +kernel
theorem dX8_first_77 : decode cX8_first 77 = .ok (.bipush (-9), 2) := by decide +kernel
theorem dX8_first_79 : decode cX8_first 79 = .ok (.ireturn, 1) := by decide +kernel
theorem dX8_giveTrial_0 : decode cX8_giveTrial 0 = .ok (.aload_n 0, 1) := by decide +kernel
theorem dX8_giveTrial_1 : decode cX8_giveTrial 1 = .ok (.iload_n 1, 1) := by decide +kernel
theorem dX8_giveTrial_2 : decode cX8_giveTrial 2 = .ok (.invokevirtual 89, 3) := by decide +kernel
theorem dX8_giveTrial_5 : decode cX8_giveTrial 5 = .ok (.ifCond .eq 38, 3) := by decide +kernel
theorem dX8_giveTrial_8 : decode cX8_giveTrial 8 = .ok (.aload_n 0, 1) := by decide +kernel
theorem dX8_giveTrial_9 : decode cX8_giveTrial 9 = .ok (.iload_n 2, 1) := by decide +kernel
theorem dX8_giveTrial_10 : decode cX8_giveTrial 10 = .ok (.invokevirtual 97, 3) := by decide +kernel
theorem dX8_giveTrial_13 : decode cX8_giveTrial 13 = .ok (.ifCond .eq 30, 3) := by decide +kernel
theorem dX8_giveTrial_16 : decode cX8_giveTrial 16 = .ok (.aload_n 0, 1) := by decide +kernel
theorem dX8_giveTrial_17 : decode cX8_giveTrial 17 = .ok (.getfield 16, 3) := by decide +kernel
theorem dX8_giveTrial_20 : decode cX8_giveTrial 20 = .ok (.bipush 71, 2) := by decide +kernel
theorem dX8_giveTrial_22 : decode cX8_giveTrial 22 = .ok (.iload_n 1, 1) := by decide +kernel
theorem dX8_giveTrial_23 : decode cX8_giveTrial 23 = .ok (.iadd, 1) := by decide +kernel
theorem dX8_giveTrial_24 : decode cX8_giveTrial 24 = .ok (.iaload, 1) := by decide +kernel
theorem dX8_giveTrial_25 : decode cX8_giveTrial 25 = .ok (.ifCond .le 18, 3) := by decide +kernel
theorem dX8_giveTrial_28 : decode cX8_giveTrial 28 = .ok (.iload_n 2, 1) := by decide +kernel
theorem dX8_giveTrial_29 : decode cX8_giveTrial 29 = .ok (.aload_n 0, 1) := by decide +kernel
theorem dX8_giveTrial_30 : decode cX8_giveTrial 30 = .ok (.getfield 16, 3) := by decide +kernel
theorem dX8_giveTrial_33 : decode cX8_giveTrial 33 = .ok (.bipush 53, 2) := by decide +kernel
theorem dX8_giveTrial_35 : decode cX8_giveTrial 35 = .ok (.iaload, 1) := by decide +kernel
theorem dX8_giveTrial_36 : decode cX8_giveTrial 36 = .ok (.if_icmp .lt 7, 3) := by decide +kernel
theorem dX8_giveTrial_39 : decode cX8_giveTrial 39 = .ok (.iconst 1, 1) := by decide +kernel
theorem dX8_giveTrial_40 : decode cX8_giveTrial 40 = .ok (.goto 4, 3) := by decide +kernel
theorem dX8_giveTrial_43 : decode cX8_giveTrial 43 = .ok (.iconst 0, 1) := by decide +kernel
theorem dX8_giveTrial_44 : decode cX8_giveTrial 44 = .ok (.istore_n 3, 1) := by decide +kernel
theorem dX8_giveTrial_45 : decode cX8_giveTrial 45 = .ok (.iload_n 3, 1) := by decide +kernel
theorem dX8_giveTrial_46 : decode cX8_giveTrial 46 = .ok (.ifCond .eq 34, 3) := by decide +kernel
theorem dX8_giveTrial_49 : decode cX8_giveTrial 49 = .ok (.aload_n 0, 1) := by decide +kernel
theorem dX8_giveTrial_50 : decode cX8_giveTrial 50 = .ok (.getfield 16, 3) := by decide +kernel
theorem dX8_giveTrial_53 : decode cX8_giveTrial 53 = .ok (.bipush 71, 2) := by decide +kernel
theorem dX8_giveTrial_55 : decode cX8_giveTrial 55 = .ok (.iload_n 1, 1) := by decide +kernel
theorem dX8_giveTrial_56 : decode cX8_giveTrial 56 = .ok (.iadd, 1) := by decide +kernel
theorem dX8_giveTrial_57 : decode cX8_giveTrial 57 = .ok (.dup2, 1) := by decide +kernel
theorem dX8_giveTrial_58 : decode cX8_giveTrial 58 = .ok (.iaload, 1) := by decide +kernel
theorem dX8_giveTrial_59 : decode cX8_giveTrial 59 = .ok (.iconst 1, 1) := by decide +kernel
theorem dX8_giveTrial_60 : decode cX8_giveTrial 60 = .ok (.isub, 1) := by decide +kernel
theorem dX8_giveTrial_61 : decode cX8_giveTrial 61 = .ok (.iastore, 1) := by decide +kernel
theorem dX8_giveTrial_62 : decode cX8_giveTrial 62 = .ok (.aload_n 0, 1) := by decide +kernel
theorem dX8_giveTrial_63 : decode cX8_giveTrial 63 = .ok (.getfield 16, 3) := by decide +kernel
theorem dX8_giveTrial_66 : decode cX8_giveTrial 66 = .ok (.bipush 77, 2) := by decide +kernel
theorem dX8_giveTrial_68 : decode cX8_giveTrial 68 = .ok (.bipush 6, 2) := by decide +kernel
theorem dX8_giveTrial_70 : decode cX8_giveTrial 70 = .ok (.iload_n 2, 1) := by decide +kernel
theorem dX8_giveTrial_71 : decode cX8_giveTrial 71 = .ok (.imul, 1) := by decide +kernel
theorem dX8_giveTrial_72 : decode cX8_giveTrial 72 = .ok (.iadd, 1) := by decide +kernel
theorem dX8_giveTrial_73 : decode cX8_giveTrial 73 = .ok (.iload_n 1, 1) := by decide +kernel
theorem dX8_giveTrial_74 : decode cX8_giveTrial 74 = .ok (.iadd, 1) := by decide +kernel
theorem dX8_giveTrial_75 : decode cX8_giveTrial 75 = .ok (.dup2, 1) := by decide +kernel
theorem dX8_giveTrial_76 : decode cX8_giveTrial 76 = .ok (.iaload, 1) := by decide +kernel
theorem dX8_giveTrial_77 : decode cX8_giveTrial 77 = .ok (.iconst 1, 1) := by decide +kernel
theorem dX8_giveTrial_78 : decode cX8_giveTrial 78 = .ok (.iadd, 1) := by decide +kernel
theorem dX8_giveTrial_79 : decode cX8_giveTrial 79 = .ok (.iastore, 1) := by decide +kernel
theorem dX8_giveTrial_80 : decode cX8_giveTrial 80 = .ok (.iload_n 3, 1) := by decide +kernel
theorem dX8_giveTrial_81 : decode cX8_giveTrial 81 = .ok (.ireturn, 1) := by decide +kernel
theorem dX8_tea_0 : decode cX8_tea 0 = .ok (.aload_n 0, 1) := by decide +kernel
theorem dX8_tea_1 : decode cX8_tea 1 = .ok (.iload_n 1, 1) := by decide +kernel
theorem dX8_tea_2 : decode cX8_tea 2 = .ok (.invokevirtual 89, 3) := by decide +kernel
theorem dX8_tea_5 : decode cX8_tea 5 = .ok (.ifCond .eq 11, 3) := by decide +kernel
theorem dX8_tea_8 : decode cX8_tea 8 = .ok (.aload_n 0, 1) := by decide +kernel
theorem dX8_tea_9 : decode cX8_tea 9 = .ok (.iload_n 2, 1) := by decide +kernel
theorem dX8_tea_10 : decode cX8_tea 10 = .ok (.invokevirtual 89, 3) := by decide +kernel
theorem dX8_tea_13 : decode cX8_tea 13 = .ok (.ifCond .ne 5, 3) := by decide +kernel
theorem dX8_tea_16 : decode cX8_tea 16 = .ok (.iconst (-1), 1) := by decide +kernel
theorem dX8_tea_17 : decode cX8_tea 17 = .ok (.ireturn, 1) := by decide +kernel
theorem dX8_tea_18 : decode cX8_tea 18 = .ok (.iload_n 1, 1) := by decide +kernel
theorem dX8_tea_19 : decode cX8_tea 19 = .ok (.iload_n 2, 1) := by decide +kernel
theorem dX8_tea_20 : decode cX8_tea 20 = .ok (.if_icmp .ne 6, 3) := by decide +kernel
theorem dX8_tea_23 : decode cX8_tea 23 = .ok (.bipush (-2), 2) := by decide +kernel
theorem dX8_tea_25 : decode cX8_tea 25 = .ok (.ireturn, 1) := by decide +kernel
theorem dX8_tea_26 : decode cX8_tea 26 = .ok (.aload_n 0, 1) := by decide +kernel
theorem dX8_tea_27 : decode cX8_tea 27 = .ok (.invokevirtual 126, 3) := by decide +kernel
theorem dX8_tea_30 : decode cX8_tea 30 = .ok (.aload_n 0, 1) := by decide +kernel
theorem dX8_tea_31 : decode cX8_tea 31 = .ok (.iload_n 1, 1) := by decide +kernel
theorem dX8_tea_32 : decode cX8_tea 32 = .ok (.iload_n 2, 1) := by decide +kernel
theorem dX8_tea_33 : decode cX8_tea 33 = .ok (.invokevirtual 146, 3) := by decide +kernel
theorem dX8_tea_36 : decode cX8_tea 36 = .ok (.ifCond .eq 13, 3) := by decide +kernel
theorem dX8_tea_39 : decode cX8_tea 39 = .ok (.iload_n 3, 1) := by decide +kernel
theorem dX8_tea_40 : decode cX8_tea 40 = .ok (.ifCond .eq 7, 3) := by decide +kernel
theorem dX8_tea_43 : decode cX8_tea 43 = .ok (.iconst 1, 1) := by decide +kernel
theorem dX8_tea_44 : decode cX8_tea 44 = .ok (.goto 4, 3) := by decide +kernel
theorem dX8_tea_47 : decode cX8_tea 47 = .ok (.iconst 0, 1) := by decide +kernel
theorem dX8_tea_48 : decode cX8_tea 48 = .ok (.ireturn, 1) := by decide +kernel
theorem dX8_tea_49 : decode cX8_tea 49 = .ok (.iconst 0, 1) := by decide +kernel
theorem dX8_tea_50 : decode cX8_tea 50 = .ok (.istore 4, 2) := by decide +kernel
theorem dX8_tea_52 : decode cX8_tea 52 = .ok (.iload 4, 2) := by decide +kernel
theorem dX8_tea_54 : decode cX8_tea 54 = .ok (.bipush 100, 2) := by decide +kernel
theorem dX8_tea_56 : decode cX8_tea 56 = .ok (.if_icmp .ge 53, 3) := by decide +kernel
theorem dX8_tea_59 : decode cX8_tea 59 = .ok (.aload_n 0, 1) := by decide +kernel
theorem dX8_tea_60 : decode cX8_tea 60 = .ok (.invokevirtual 126, 3) := by decide +kernel
theorem dX8_tea_63 : decode cX8_tea 63 = .ok (.aload_n 0, 1) := by decide +kernel
theorem dX8_tea_64 : decode cX8_tea 64 = .ok (.iload 4, 2) := by decide +kernel
theorem dX8_tea_66 : decode cX8_tea 66 = .ok (.bipush 10, 2) := by decide +kernel
theorem dX8_tea_68 : decode cX8_tea 68 = .ok (.idiv, 1) := by decide +kernel
theorem dX8_tea_69 : decode cX8_tea 69 = .ok (.iload 4, 2) := by decide +kernel
theorem dX8_tea_71 : decode cX8_tea 71 = .ok (.bipush 10, 2) := by decide +kernel
theorem dX8_tea_73 : decode cX8_tea 73 = .ok (.irem, 1) := by decide +kernel
theorem dX8_tea_74 : decode cX8_tea 74 = .ok (.invokevirtual 149, 3) := by decide +kernel
theorem dX8_tea_77 : decode cX8_tea 77 = .ok (.ifCond .eq 26, 3) := by decide +kernel
theorem dX8_tea_80 : decode cX8_tea 80 = .ok (.aload_n 0, 1) := by decide +kernel
theorem dX8_tea_81 : decode cX8_tea 81 = .ok (.iload_n 1, 1) := by decide +kernel
theorem dX8_tea_82 : decode cX8_tea 82 = .ok (.iload_n 2, 1) := by decide +kernel
theorem dX8_tea_83 : decode cX8_tea 83 = .ok (.invokevirtual 146, 3) := by decide +kernel
theorem dX8_tea_86 : decode cX8_tea 86 = .ok (.ifCond .eq 17, 3) := by decide +kernel
theorem dX8_tea_89 : decode cX8_tea 89 = .ok (.iload_n 3, 1) := by decide +kernel
theorem dX8_tea_90 : decode cX8_tea 90 = .ok (.ifCond .eq 11, 3) := by decide +kernel
theorem dX8_tea_93 : decode cX8_tea 93 = .ok (.bipush 100, 2) := by decide +kernel
theorem dX8_tea_95 : decode cX8_tea 95 = .ok (.iload 4, 2) := by decide +kernel
theorem dX8_tea_97 : decode cX8_tea 97 = .ok (.iadd, 1) := by decide +kernel
theorem dX8_tea_98 : decode cX8_tea 98 = .ok (.goto 4, 3) := by decide +kernel
theorem dX8_tea_101 : decode cX8_tea 101 = .ok (.iconst 1, 1) := by decide +kernel
theorem dX8_tea_102 : decode cX8_tea 102 = .ok (.ireturn, 1) := by decide +kernel
theorem dX8_tea_103 : decode cX8_tea 103 = .ok (.iinc 4 1, 3) := by decide +kernel
theorem dX8_tea_106 : decode cX8_tea 106 = .ok (.goto (-54), 3) := by decide +kernel
theorem dX8_tea_109 : decode cX8_tea 109 = .ok (.iconst 0, 1) := by decide +kernel
theorem dX8_tea_110 : decode cX8_tea 110 = .ok (.istore 4, 2) := by decide +kernel
theorem dX8_tea_112 : decode cX8_tea 112 = .ok (.iload 4, 2) := by decide +kernel
theorem dX8_tea_114 : decode cX8_tea 114 = .ok (.sipush 10000, 3) := by decide +kernel
theorem dX8_tea_117 : decode cX8_tea 117 = .ok (.if_icmp .ge 78, 3) := by decide +kernel
theorem dX8_tea_120 : decode cX8_tea 120 = .ok (.aload_n 0, 1) := by decide +kernel
theorem dX8_tea_121 : decode cX8_tea 121 = .ok (.invokevirtual 126, 3) := by decide +kernel
theorem dX8_tea_124 : decode cX8_tea 124 = .ok (.aload_n 0, 1) := by decide +kernel
theorem dX8_tea_125 : decode cX8_tea 125 = .ok (.iload 4, 2) := by decide +kernel
theorem dX8_tea_127 : decode cX8_tea 127 = .ok (.sipush 1000, 3) := by decide +kernel
theorem dX8_tea_130 : decode cX8_tea 130 = .ok (.idiv, 1) := by decide +kernel
theorem dX8_tea_131 : decode cX8_tea 131 = .ok (.iload 4, 2) := by decide +kernel
theorem dX8_tea_133 : decode cX8_tea 133 = .ok (.bipush 100, 2) := by decide +kernel
theorem dX8_tea_135 : decode cX8_tea 135 = .ok (.idiv, 1) := by decide +kernel
theorem dX8_tea_136 : decode cX8_tea 136 = .ok (.bipush 10, 2) := by decide +kernel
theorem dX8_tea_138 : decode cX8_tea 138 = .ok (.irem, 1) := by decide +kernel
theorem dX8_tea_139 : decode cX8_tea 139 = .ok (.invokevirtual 149, 3) := by decide +kernel
theorem dX8_tea_142 : decode cX8_tea 142 = .ok (.ifCond .eq 47, 3) := by decide +kernel
theorem dX8_tea_145 : decode cX8_tea 145 = .ok (.aload_n 0, 1) := by decide +kernel
theorem dX8_tea_146 : decode cX8_tea 146 = .ok (.iload 4, 2) := by decide +kernel
theorem dX8_tea_148 : decode cX8_tea 148 = .ok (.bipush 10, 2) := by decide +kernel
theorem dX8_tea_150 : decode cX8_tea 150 = .ok (.idiv, 1) := by decide +kernel
theorem dX8_tea_151 : decode cX8_tea 151 = .ok (.bipush 10, 2) := by decide +kernel
theorem dX8_tea_153 : decode cX8_tea 153 = .ok (.irem, 1) := by decide +kernel
theorem dX8_tea_154 : decode cX8_tea 154 = .ok (.iload 4, 2) := by decide +kernel
theorem dX8_tea_156 : decode cX8_tea 156 = .ok (.bipush 10, 2) := by decide +kernel
theorem dX8_tea_158 : decode cX8_tea 158 = .ok (.irem, 1) := by decide +kernel
theorem dX8_tea_159 : decode cX8_tea 159 = .ok (.invokevirtual 149, 3) := by decide +kernel
theorem dX8_tea_162 : decode cX8_tea 162 = .ok (.ifCond .eq 27, 3) := by decide +kernel
theorem dX8_tea_165 : decode cX8_tea 165 = .ok (.aload_n 0, 1) := by decide +kernel
theorem dX8_tea_166 : decode cX8_tea 166 = .ok (.iload_n 1, 1) := by decide +kernel
theorem dX8_tea_167 : decode cX8_tea 167 = .ok (.iload_n 2, 1) := by decide +kernel
theorem dX8_tea_168 : decode cX8_tea 168 = .ok (.invokevirtual 146, 3) := by decide +kernel
theorem dX8_tea_171 : decode cX8_tea 171 = .ok (.ifCond .eq 18, 3) := by decide +kernel
theorem dX8_tea_174 : decode cX8_tea 174 = .ok (.iload_n 3, 1) := by decide +kernel
theorem dX8_tea_175 : decode cX8_tea 175 = .ok (.ifCond .eq 12, 3) := by decide +kernel
theorem dX8_tea_178 : decode cX8_tea 178 = .ok (.sipush 10000, 3) := by decide +kernel
theorem dX8_tea_181 : decode cX8_tea 181 = .ok (.iload 4, 2) := by decide +kernel
theorem dX8_tea_183 : decode cX8_tea 183 = .ok (.iadd, 1) := by decide +kernel
theorem dX8_tea_184 : decode cX8_tea 184 = .ok (.goto 4, 3) := by decide +kernel
theorem dX8_tea_187 : decode cX8_tea 187 = .ok (.iconst 2, 1) := by decide +kernel
theorem dX8_tea_188 : decode cX8_tea 188 = .ok (.ireturn, 1) := by decide +kernel
theorem dX8_tea_189 : decode cX8_tea 189 = .ok (.iinc 4 1, 3) := by decide +kernel
theorem dX8_tea_192 : decode cX8_tea 192 = .ok (.goto (-80), 3) := by decide +kernel
theorem dX8_tea_195 : decode cX8_tea 195 = .ok (.bipush (-9), 2) := by decide +kernel
theorem dX8_tea_197 : decode cX8_tea 197 = .ok (.ireturn, 1) := by decide +kernel
theorem dX8_tenTo_0 : decode cX8_tenTo 0 = .ok (.iconst 1, 1) := by decide +kernel
theorem dX8_tenTo_1 : decode cX8_tenTo 1 = .ok (.istore_n 1, 1) := by decide +kernel
theorem dX8_tenTo_2 : decode cX8_tenTo 2 = .ok (.iconst 0, 1) := by decide +kernel
theorem dX8_tenTo_3 : decode cX8_tenTo 3 = .ok (.istore_n 2, 1) := by decide +kernel
theorem dX8_tenTo_4 : decode cX8_tenTo 4 = .ok (.iload_n 2, 1) := by decide +kernel
theorem dX8_tenTo_5 : decode cX8_tenTo 5 = .ok (.iload_n 0, 1) := by decide +kernel
theorem dX8_tenTo_6 : decode cX8_tenTo 6 = .ok (.if_icmp .ge 14, 3) := by decide +kernel
theorem dX8_tenTo_9 : decode cX8_tenTo 9 = .ok (.iload_n 1, 1) := by decide +kernel
theorem dX8_tenTo_10 : decode cX8_tenTo 10 = .ok (.bipush 10, 2) := by decide +kernel
theorem dX8_tenTo_12 : decode cX8_tenTo 12 = .ok (.imul, 1) := by decide +kernel
theorem dX8_tenTo_13 : decode cX8_tenTo 13 = .ok (.istore_n 1, 1) := by decide +kernel
theorem dX8_tenTo_14 : decode cX8_tenTo 14 = .ok (.iinc 2 1, 3) := by decide +kernel
theorem dX8_tenTo_17 : decode cX8_tenTo 17 = .ok (.goto (-13), 3) := by decide +kernel
theorem dX8_tenTo_20 : decode cX8_tenTo 20 = .ok (.iload_n 1, 1) := by decide +kernel
theorem dX8_tenTo_21 : decode cX8_tenTo 21 = .ok (.ireturn, 1) := by decide +kernel
theorem dX8_judge_0 : decode cX8_judge 0 = .ok (.iload_n 1, 1) := by decide +kernel
theorem dX8_judge_1 : decode cX8_judge 1 = .ok (.i2l, 1) := by decide +kernel
theorem dX8_judge_2 : decode cX8_judge 2 = .ok (.lconst 1, 1) := by decide +kernel
theorem dX8_judge_3 : decode cX8_judge 3 = .ok (.ldc2_w 152, 3) := by decide +kernel
theorem dX8_judge_6 : decode cX8_judge 6 = .ok (.invokestatic 56, 3) := by decide +kernel
theorem dX8_judge_9 : decode cX8_judge 9 = .ok (.ifCond .eq 19, 3) := by decide +kernel
theorem dX8_judge_12 : decode cX8_judge 12 = .ok (.iload_n 2, 1) := by decide +kernel
theorem dX8_judge_13 : decode cX8_judge 13 = .ok (.i2l, 1) := by decide +kernel
theorem dX8_judge_14 : decode cX8_judge 14 = .ok (.lconst 0, 1) := by decide +kernel
theorem dX8_judge_15 : decode cX8_judge 15 = .ok (.iload_n 1, 1) := by decide +kernel
theorem dX8_judge_16 : decode cX8_judge 16 = .ok (.invokestatic 154, 3) := by decide +kernel
theorem dX8_judge_19 : decode cX8_judge 19 = .ok (.iconst 1, 1) := by decide +kernel
theorem dX8_judge_20 : decode cX8_judge 20 = .ok (.isub, 1) := by decide +kernel
theorem dX8_judge_21 : decode cX8_judge 21 = .ok (.i2l, 1) := by decide +kernel
theorem dX8_judge_22 : decode cX8_judge 22 = .ok (.invokestatic 56, 3) := by decide +kernel
theorem dX8_judge_25 : decode cX8_judge 25 = .ok (.ifCond .ne 6, 3) := by decide +kernel
theorem dX8_judge_28 : decode cX8_judge 28 = .ok (.bipush (-2), 2) := by decide +kernel
theorem dX8_judge_30 : decode cX8_judge 30 = .ok (.ireturn, 1) := by decide +kernel
theorem dX8_judge_31 : decode cX8_judge 31 = .ok (.aload_n 0, 1) := by decide +kernel
theorem dX8_judge_32 : decode cX8_judge 32 = .ok (.invokevirtual 133, 3) := by decide +kernel
theorem dX8_judge_35 : decode cX8_judge 35 = .ok (.iconst 0, 1) := by decide +kernel
theorem dX8_judge_36 : decode cX8_judge 36 = .ok (.istore_n 3, 1) := by decide +kernel
theorem dX8_judge_37 : decode cX8_judge 37 = .ok (.iload_n 3, 1) := by decide +kernel
theorem dX8_judge_38 : decode cX8_judge 38 = .ok (.iload_n 1, 1) := by decide +kernel
theorem dX8_judge_39 : decode cX8_judge 39 = .ok (.if_icmp .ge 59, 3) := by decide +kernel
theorem dX8_judge_42 : decode cX8_judge 42 = .ok (.iload_n 2, 1) := by decide +kernel
theorem dX8_judge_43 : decode cX8_judge 43 = .ok (.iload_n 1, 1) := by decide +kernel
theorem dX8_judge_44 : decode cX8_judge 44 = .ok (.iconst 1, 1) := by decide +kernel
theorem dX8_judge_45 : decode cX8_judge 45 = .ok (.isub, 1) := by decide +kernel
theorem dX8_judge_46 : decode cX8_judge 46 = .ok (.iload_n 3, 1) := by decide +kernel
theorem dX8_judge_47 : decode cX8_judge 47 = .ok (.isub, 1) := by decide +kernel
theorem dX8_judge_48 : decode cX8_judge 48 = .ok (.invokestatic 154, 3) := by decide +kernel
theorem dX8_judge_51 : decode cX8_judge 51 = .ok (.idiv, 1) := by decide +kernel
theorem dX8_judge_52 : decode cX8_judge 52 = .ok (.bipush 10, 2) := by decide +kernel
theorem dX8_judge_54 : decode cX8_judge 54 = .ok (.irem, 1) := by decide +kernel
theorem dX8_judge_55 : decode cX8_judge 55 = .ok (.iconst 1, 1) := by decide +kernel
theorem dX8_judge_56 : decode cX8_judge 56 = .ok (.isub, 1) := by decide +kernel
theorem dX8_judge_57 : decode cX8_judge 57 = .ok (.istore 4, 2) := by decide +kernel
theorem dX8_judge_59 : decode cX8_judge 59 = .ok (.aload_n 0, 1) := by decide +kernel
theorem dX8_judge_60 : decode cX8_judge 60 = .ok (.iload 4, 2) := by decide +kernel
theorem dX8_judge_62 : decode cX8_judge 62 = .ok (.invokevirtual 89, 3) := by decide +kernel
theorem dX8_judge_65 : decode cX8_judge 65 = .ok (.ifCond .eq 25, 3) := by decide +kernel
theorem dX8_judge_68 : decode cX8_judge 68 = .ok (.iload_n 3, 1) := by decide +kernel
theorem dX8_judge_69 : decode cX8_judge 69 = .ok (.aload_n 0, 1) := by decide +kernel
theorem dX8_judge_70 : decode cX8_judge 70 = .ok (.getfield 83, 3) := by decide +kernel
theorem dX8_judge_73 : decode cX8_judge 73 = .ok (.if_icmp .ge 17, 3) := by decide +kernel
theorem dX8_judge_76 : decode cX8_judge 76 = .ok (.aload_n 0, 1) := by decide +kernel
theorem dX8_judge_77 : decode cX8_judge 77 = .ok (.getfield 16, 3) := by decide +kernel
theorem dX8_judge_80 : decode cX8_judge 80 = .ok (.bipush 54, 2) := by decide +kernel
theorem dX8_judge_82 : decode cX8_judge 82 = .ok (.iload_n 3, 1) := by decide +kernel
theorem dX8_judge_83 : decode cX8_judge 83 = .ok (.iadd, 1) := by decide +kernel
theorem dX8_judge_84 : decode cX8_judge 84 = .ok (.iaload, 1) := by decide +kernel
theorem dX8_judge_85 : decode cX8_judge 85 = .ok (.iload 4, 2) := by decide +kernel
theorem dX8_judge_87 : decode cX8_judge 87 = .ok (.if_icmp .eq 5, 3) := by decide +kernel
theorem dX8_judge_90 : decode cX8_judge 90 = .ok (.iload_n 3, 1) := by decide +kernel
theorem dX8_judge_91 : decode cX8_judge 91 = .ok (.ireturn, 1) := by decide +kernel
theorem dX8_judge_92 : decode cX8_judge 92 = .ok (.iinc 3 1, 3) := by decide +kernel
theorem dX8_judge_95 : decode cX8_judge 95 = .ok (.goto (-58), 3) := by decide +kernel
theorem dX8_judge_98 : decode cX8_judge 98 = .ok (.bipush (-9), 2) := by decide +kernel
theorem dX8_judge_100 : decode cX8_judge 100 = .ok (.ireturn, 1) := by decide +kernel
theorem dX8_greatest_0 : decode cX8_greatest 0 = .ok (.iconst 0, 1) := by decide +kernel
theorem dX8_greatest_1 : decode cX8_greatest 1 = .ok (.istore_n 3, 1) := by decide +kernel
theorem dX8_greatest_2 : decode cX8_greatest 2 = .ok (.iconst 0, 1) := by decide +kernel
theorem dX8_greatest_3 : decode cX8_greatest 3 = .ok (.istore 4, 2) := by decide +kernel
theorem dX8_greatest_5 : decode cX8_greatest 5 = .ok (.iload 4, 2) := by decide +kernel
theorem dX8_greatest_7 : decode cX8_greatest 7 = .ok (.iload_n 2, 1) := by decide +kernel
theorem dX8_greatest_8 : decode cX8_greatest 8 = .ok (.if_icmp .ge 39, 3) := by decide +kernel
theorem dX8_greatest_11 : decode cX8_greatest 11 = .ok (.iload_n 3, 1) := by decide +kernel
theorem dX8_greatest_12 : decode cX8_greatest 12 = .ok (.aload_n 0, 1) := by decide +kernel
theorem dX8_greatest_13 : decode cX8_greatest 13 = .ok (.getfield 16, 3) := by decide +kernel
theorem dX8_greatest_16 : decode cX8_greatest 16 = .ok (.bipush 54, 2) := by decide +kernel
theorem dX8_greatest_18 : decode cX8_greatest 18 = .ok (.iload_n 1, 1) := by decide +kernel
theorem dX8_greatest_19 : decode cX8_greatest 19 = .ok (.imul, 1) := by decide +kernel
theorem dX8_greatest_20 : decode cX8_greatest 20 = .ok (.bipush 6, 2) := by decide +kernel
theorem dX8_greatest_22 : decode cX8_greatest 22 = .ok (.iadd, 1) := by decide +kernel
theorem dX8_greatest_23 : decode cX8_greatest 23 = .ok (.aload_n 0, 1) := by decide +kernel
theorem dX8_greatest_24 : decode cX8_greatest 24 = .ok (.getfield 16, 3) := by decide +kernel
theorem dX8_greatest_27 : decode cX8_greatest 27 = .ok (.bipush 54, 2) := by decide +kernel
theorem dX8_greatest_29 : decode cX8_greatest 29 = .ok (.iload_n 1, 1) := by decide +kernel
theorem dX8_greatest_30 : decode cX8_greatest 30 = .ok (.imul, 1) := by decide +kernel
theorem dX8_greatest_31 : decode cX8_greatest 31 = .ok (.iload 4, 2) := by decide +kernel
theorem dX8_greatest_33 : decode cX8_greatest 33 = .ok (.iadd, 1) := by decide +kernel
theorem dX8_greatest_34 : decode cX8_greatest 34 = .ok (.iaload, 1) := by decide +kernel
theorem dX8_greatest_35 : decode cX8_greatest 35 = .ok (.iadd, 1) := by decide +kernel
theorem dX8_greatest_36 : decode cX8_greatest 36 = .ok (.iaload, 1) := by decide +kernel
theorem dX8_greatest_37 : decode cX8_greatest 37 = .ok (.invokestatic 104, 3) := by decide +kernel
theorem dX8_greatest_40 : decode cX8_greatest 40 = .ok (.istore_n 3, 1) := by decide +kernel
theorem dX8_greatest_41 : decode cX8_greatest 41 = .ok (.iinc 4 1, 3) := by decide +kernel
theorem dX8_greatest_44 : decode cX8_greatest 44 = .ok (.goto (-39), 3) := by decide +kernel
theorem dX8_greatest_47 : decode cX8_greatest 47 = .ok (.iload_n 3, 1) := by decide +kernel
theorem dX8_greatest_48 : decode cX8_greatest 48 = .ok (.ireturn, 1) := by decide +kernel
theorem dX8_hoursBy_0 : decode cX8_hoursBy 0 = .ok (.aload_n 0, 1) := by decide +kernel
theorem dX8_hoursBy_1 : decode cX8_hoursBy 1 = .ok (.invokevirtual 126, 3) := by decide +kernel
theorem dX8_hoursBy_4 : decode cX8_hoursBy 4 = .ok (.iconst 0, 1) := by decide +kernel
theorem dX8_hoursBy_5 : decode cX8_hoursBy 5 = .ok (.istore_n 2, 1) := by decide +kernel
theorem dX8_hoursBy_6 : decode cX8_hoursBy 6 = .ok (.iconst 0, 1) := by decide +kernel
theorem dX8_hoursBy_7 : decode cX8_hoursBy 7 = .ok (.istore_n 3, 1) := by decide +kernel
theorem dX8_hoursBy_8 : decode cX8_hoursBy 8 = .ok (.iload_n 3, 1) := by decide +kernel
theorem dX8_hoursBy_9 : decode cX8_hoursBy 9 = .ok (.aload_n 0, 1) := by decide +kernel
theorem dX8_hoursBy_10 : decode cX8_hoursBy 10 = .ok (.getfield 83, 3) := by decide +kernel
theorem dX8_hoursBy_13 : decode cX8_hoursBy 13 = .ok (.if_icmp .ge 50, 3) := by decide +kernel
theorem dX8_hoursBy_16 : decode cX8_hoursBy 16 = .ok (.iload_n 1, 1) := by decide +kernel
theorem dX8_hoursBy_17 : decode cX8_hoursBy 17 = .ok (.aload_n 0, 1) := by decide +kernel
theorem dX8_hoursBy_18 : decode cX8_hoursBy 18 = .ok (.getfield 16, 3) := by decide +kernel
theorem dX8_hoursBy_21 : decode cX8_hoursBy 21 = .ok (.iload_n 3, 1) := by decide +kernel
theorem dX8_hoursBy_22 : decode cX8_hoursBy 22 = .ok (.iaload, 1) := by decide +kernel
theorem dX8_hoursBy_23 : decode cX8_hoursBy 23 = .ok (.invokestatic 139, 3) := by decide +kernel
theorem dX8_hoursBy_26 : decode cX8_hoursBy 26 = .ok (.ifCond .eq 21, 3) := by decide +kernel
theorem dX8_hoursBy_29 : decode cX8_hoursBy 29 = .ok (.aload_n 0, 1) := by decide +kernel
theorem dX8_hoursBy_30 : decode cX8_hoursBy 30 = .ok (.getfield 16, 3) := by decide +kernel
theorem dX8_hoursBy_33 : decode cX8_hoursBy 33 = .ok (.bipush 54, 2) := by decide +kernel
theorem dX8_hoursBy_35 : decode cX8_hoursBy 35 = .ok (.iload_n 2, 1) := by decide +kernel
theorem dX8_hoursBy_36 : decode cX8_hoursBy 36 = .ok (.iadd, 1) := by decide +kernel
theorem dX8_hoursBy_37 : decode cX8_hoursBy 37 = .ok (.aload_n 0, 1) := by decide +kernel
theorem dX8_hoursBy_38 : decode cX8_hoursBy 38 = .ok (.getfield 16, 3) := by decide +kernel
theorem dX8_hoursBy_41 : decode cX8_hoursBy 41 = .ok (.iload_n 3, 1) := by decide +kernel
theorem dX8_hoursBy_42 : decode cX8_hoursBy 42 = .ok (.iaload, 1) := by decide +kernel
theorem dX8_hoursBy_43 : decode cX8_hoursBy 43 = .ok (.iastore, 1) := by decide +kernel
theorem dX8_hoursBy_44 : decode cX8_hoursBy 44 = .ok (.iinc 2 1, 3) := by decide +kernel
theorem dX8_hoursBy_47 : decode cX8_hoursBy 47 = .ok (.aload_n 0, 1) := by decide +kernel
theorem dX8_hoursBy_48 : decode cX8_hoursBy 48 = .ok (.getfield 16, 3) := by decide +kernel
theorem dX8_hoursBy_51 : decode cX8_hoursBy 51 = .ok (.bipush 60, 2) := by decide +kernel
theorem dX8_hoursBy_53 : decode cX8_hoursBy 53 = .ok (.iload_n 3, 1) := by decide +kernel
theorem dX8_hoursBy_54 : decode cX8_hoursBy 54 = .ok (.iadd, 1) := by decide +kernel
theorem dX8_hoursBy_55 : decode cX8_hoursBy 55 = .ok (.iconst 0, 1) := by decide +kernel
theorem dX8_hoursBy_56 : decode cX8_hoursBy 56 = .ok (.iastore, 1) := by decide +kernel
theorem dX8_hoursBy_57 : decode cX8_hoursBy 57 = .ok (.iinc 3 1, 3) := by decide +kernel
theorem dX8_hoursBy_60 : decode cX8_hoursBy 60 = .ok (.goto (-52), 3) := by decide +kernel
theorem dX8_hoursBy_63 : decode cX8_hoursBy 63 = .ok (.aload_n 0, 1) := by decide +kernel
theorem dX8_hoursBy_64 : decode cX8_hoursBy 64 = .ok (.iload_n 2, 1) := by decide +kernel
theorem dX8_hoursBy_65 : decode cX8_hoursBy 65 = .ok (.invokevirtual 129, 3) := by decide +kernel
theorem dX8_hoursBy_68 : decode cX8_hoursBy 68 = .ok (.aload_n 0, 1) := by decide +kernel
theorem dX8_hoursBy_69 : decode cX8_hoursBy 69 = .ok (.iconst 1, 1) := by decide +kernel
theorem dX8_hoursBy_70 : decode cX8_hoursBy 70 = .ok (.iload_n 2, 1) := by decide +kernel
theorem dX8_hoursBy_71 : decode cX8_hoursBy 71 = .ok (.invokevirtual 157, 3) := by decide +kernel
theorem dX8_hoursBy_74 : decode cX8_hoursBy 74 = .ok (.ireturn, 1) := by decide +kernel
theorem dX8_common_0 : decode cX8_common 0 = .ok (.iload_n 0, 1) := by decide +kernel
theorem dX8_common_1 : decode cX8_common 1 = .ok (.ifCond .ge 8, 3) := by decide +kernel
theorem dX8_common_4 : decode cX8_common 4 = .ok (.iload_n 0, 1) := by decide +kernel
theorem dX8_common_5 : decode cX8_common 5 = .ok (.ineg, 1) := by decide +kernel
theorem dX8_common_6 : decode cX8_common 6 = .ok (.goto 4, 3) := by decide +kernel
theorem dX8_common_9 : decode cX8_common 9 = .ok (.iload_n 0, 1) := by decide +kernel
theorem dX8_common_10 : decode cX8_common 10 = .ok (.istore_n 2, 1) := by decide +kernel
theorem dX8_common_11 : decode cX8_common 11 = .ok (.iload_n 1, 1) := by decide +kernel
theorem dX8_common_12 : decode cX8_common 12 = .ok (.istore_n 3, 1) := by decide +kernel
theorem dX8_common_13 : decode cX8_common 13 = .ok (.iload_n 3, 1) := by decide +kernel
theorem dX8_common_14 : decode cX8_common 14 = .ok (.ifCond .eq 16, 3) := by decide +kernel
theorem dX8_common_17 : decode cX8_common 17 = .ok (.iload_n 2, 1) := by decide +kernel
theorem dX8_common_18 : decode cX8_common 18 = .ok (.iload_n 3, 1) := by decide +kernel
theorem dX8_common_19 : decode cX8_common 19 = .ok (.irem, 1) := by decide +kernel
theorem dX8_common_20 : decode cX8_common 20 = .ok (.istore 4, 2) := by decide +kernel
theorem dX8_common_22 : decode cX8_common 22 = .ok (.iload_n 3, 1) := by decide +kernel
theorem dX8_common_23 : decode cX8_common 23 = .ok (.istore_n 2, 1) := by decide +kernel
theorem dX8_common_24 : decode cX8_common 24 = .ok (.iload 4, 2) := by decide +kernel
theorem dX8_common_26 : decode cX8_common 26 = .ok (.istore_n 3, 1) := by decide +kernel
theorem dX8_common_27 : decode cX8_common 27 = .ok (.goto (-14), 3) := by decide +kernel
theorem dX8_common_30 : decode cX8_common 30 = .ok (.iload_n 2, 1) := by decide +kernel
theorem dX8_common_31 : decode cX8_common 31 = .ok (.ireturn, 1) := by decide +kernel
theorem dX8_share_0 : decode cX8_share 0 = .ok (.aload_n 0, 1) := by decide +kernel
theorem dX8_share_1 : decode cX8_share 1 = .ok (.iload_n 1, 1) := by decide +kernel
theorem dX8_share_2 : decode cX8_share 2 = .ok (.invokevirtual 89, 3) := by decide +kernel
theorem dX8_share_5 : decode cX8_share 5 = .ok (.ifCond .ne 5, 3) := by decide +kernel
theorem dX8_share_8 : decode cX8_share 8 = .ok (.iconst (-1), 1) := by decide +kernel
theorem dX8_share_9 : decode cX8_share 9 = .ok (.ireturn, 1) := by decide +kernel
theorem dX8_share_10 : decode cX8_share 10 = .ok (.iconst 0, 1) := by decide +kernel
theorem dX8_share_11 : decode cX8_share 11 = .ok (.istore_n 3, 1) := by decide +kernel
theorem dX8_share_12 : decode cX8_share 12 = .ok (.iload_n 3, 1) := by decide +kernel
theorem dX8_share_13 : decode cX8_share 13 = .ok (.iconst 1, 1) := by decide +kernel
theorem dX8_share_14 : decode cX8_share 14 = .ok (.aload_n 0, 1) := by decide +kernel
theorem dX8_share_15 : decode cX8_share 15 = .ok (.getfield 83, 3) := by decide +kernel
theorem dX8_share_18 : decode cX8_share 18 = .ok (.ishl, 1) := by decide +kernel
theorem dX8_share_19 : decode cX8_share 19 = .ok (.if_icmp .ge 20, 3) := by decide +kernel
theorem dX8_share_22 : decode cX8_share 22 = .ok (.aload_n 0, 1) := by decide +kernel
theorem dX8_share_23 : decode cX8_share 23 = .ok (.getfield 34, 3) := by decide +kernel
theorem dX8_share_26 : decode cX8_share 26 = .ok (.iload_n 3, 1) := by decide +kernel
theorem dX8_share_27 : decode cX8_share 27 = .ok (.aload_n 0, 1) := by decide +kernel
theorem dX8_share_28 : decode cX8_share 28 = .ok (.iload_n 3, 1) := by decide +kernel
theorem dX8_share_29 : decode cX8_share 29 = .ok (.invokevirtual 160, 3) := by decide +kernel
theorem dX8_share_32 : decode cX8_share 32 = .ok (.iastore, 1) := by decide +kernel
theorem dX8_share_33 : decode cX8_share 33 = .ok (.iinc 3 1, 3) := by decide +kernel
theorem dX8_share_36 : decode cX8_share 36 = .ok (.goto (-24), 3) := by decide +kernel
theorem dX8_share_39 : decode cX8_share 39 = .ok (.iconst 0, 1) := by decide +kernel
theorem dX8_share_40 : decode cX8_share 40 = .ok (.istore_n 3, 1) := by decide +kernel
theorem dX8_share_41 : decode cX8_share 41 = .ok (.iconst 0, 1) := by decide +kernel
theorem dX8_share_42 : decode cX8_share 42 = .ok (.istore 4, 2) := by decide +kernel
theorem dX8_share_44 : decode cX8_share 44 = .ok (.iload 4, 2) := by decide +kernel
theorem dX8_share_46 : decode cX8_share 46 = .ok (.iconst 1, 1) := by decide +kernel
theorem dX8_share_47 : decode cX8_share 47 = .ok (.aload_n 0, 1) := by decide +kernel
theorem dX8_share_48 : decode cX8_share 48 = .ok (.getfield 83, 3) := by decide +kernel
theorem dX8_share_51 : decode cX8_share 51 = .ok (.ishl, 1) := by decide +kernel
theorem dX8_share_52 : decode cX8_share 52 = .ok (.if_icmp .ge 69, 3) := by decide +kernel
theorem dX8_share_55 : decode cX8_share 55 = .ok (.iload 4, 2) := by decide +kernel
theorem dX8_share_57 : decode cX8_share 57 = .ok (.iload_n 1, 1) := by decide +kernel
theorem dX8_share_58 : decode cX8_share 58 = .ok (.invokestatic 139, 3) := by decide +kernel
theorem dX8_share_61 : decode cX8_share 61 = .ok (.ifCond .ne 54, 3) := by decide +kernel
theorem dX8_share_64 : decode cX8_share 64 = .ok (.iload 4, 2) := by decide +kernel
theorem dX8_share_66 : decode cX8_share 66 = .ok (.invokestatic 163, 3) := by decide +kernel
theorem dX8_share_69 : decode cX8_share 69 = .ok (.invokestatic 136, 3) := by decide +kernel
theorem dX8_share_72 : decode cX8_share 72 = .ok (.aload_n 0, 1) := by decide +kernel
theorem dX8_share_73 : decode cX8_share 73 = .ok (.getfield 83, 3) := by decide +kernel
theorem dX8_share_76 : decode cX8_share 76 = .ok (.iconst 1, 1) := by decide +kernel
theorem dX8_share_77 : decode cX8_share 77 = .ok (.isub, 1) := by decide +kernel
theorem dX8_share_78 : decode cX8_share 78 = .ok (.iload 4, 2) := by decide +kernel
theorem dX8_share_80 : decode cX8_share 80 = .ok (.invokestatic 163, 3) := by decide +kernel
theorem dX8_share_83 : decode cX8_share 83 = .ok (.isub, 1) := by decide +kernel
theorem dX8_share_84 : decode cX8_share 84 = .ok (.invokestatic 136, 3) := by decide +kernel
theorem dX8_share_87 : decode cX8_share 87 = .ok (.imul, 1) := by decide +kernel
theorem dX8_share_88 : decode cX8_share 88 = .ok (.istore 5, 2) := by decide +kernel
theorem dX8_share_90 : decode cX8_share 90 = .ok (.iload_n 3, 1) := by decide +kernel
theorem dX8_share_91 : decode cX8_share 91 = .ok (.iload 5, 2) := by decide +kernel
theorem dX8_share_93 : decode cX8_share 93 = .ok (.aload_n 0, 1) := by decide +kernel
theorem dX8_share_94 : decode cX8_share 94 = .ok (.getfield 34, 3) := by decide +kernel
theorem dX8_share_97 : decode cX8_share 97 = .ok (.iload 4, 2) := by decide +kernel
theorem dX8_share_99 : decode cX8_share 99 = .ok (.iconst 1, 1) := by decide +kernel
theorem dX8_share_100 : decode cX8_share 100 = .ok (.iload_n 1, 1) := by decide +kernel
theorem dX8_share_101 : decode cX8_share 101 = .ok (.ishl, 1) := by decide +kernel
theorem dX8_share_102 : decode cX8_share 102 = .ok (.ior, 1) := by decide +kernel
theorem dX8_share_103 : decode cX8_share 103 = .ok (.iaload, 1) := by decide +kernel
theorem dX8_share_104 : decode cX8_share 104 = .ok (.aload_n 0, 1) := by decide +kernel
theorem dX8_share_105 : decode cX8_share 105 = .ok (.getfield 34, 3) := by decide +kernel
theorem dX8_share_108 : decode cX8_share 108 = .ok (.iload 4, 2) := by decide +kernel
theorem dX8_share_110 : decode cX8_share 110 = .ok (.iaload, 1) := by decide +kernel
theorem dX8_share_111 : decode cX8_share 111 = .ok (.isub, 1) := by decide +kernel
theorem dX8_share_112 : decode cX8_share 112 = .ok (.imul, 1) := by decide +kernel
theorem dX8_share_113 : decode cX8_share 113 = .ok (.iadd, 1) := by decide +kernel
theorem dX8_share_114 : decode cX8_share 114 = .ok (.istore_n 3, 1) := by decide +kernel
theorem dX8_share_115 : decode cX8_share 115 = .ok (.iinc 4 1, 3) := by decide +kernel
theorem dX8_share_118 : decode cX8_share 118 = .ok (.goto (-74), 3) := by decide +kernel
theorem dX8_share_121 : decode cX8_share 121 = .ok (.iload_n 3, 1) := by decide +kernel
theorem dX8_share_122 : decode cX8_share 122 = .ok (.aload_n 0, 1) := by decide +kernel
theorem dX8_share_123 : decode cX8_share 123 = .ok (.getfield 83, 3) := by decide +kernel
theorem dX8_share_126 : decode cX8_share 126 = .ok (.invokestatic 136, 3) := by decide +kernel
theorem dX8_share_129 : decode cX8_share 129 = .ok (.invokestatic 166, 3) := by decide +kernel
theorem dX8_share_132 : decode cX8_share 132 = .ok (.istore 4, 2) := by decide +kernel
theorem dX8_share_134 : decode cX8_share 134 = .ok (.iload_n 2, 1) := by decide +kernel
theorem dX8_share_135 : decode cX8_share 135 = .ok (.ifCond .eq 10, 3) := by decide +kernel
theorem dX8_share_138 : decode cX8_share 138 = .ok (.iload_n 3, 1) := by decide +kernel
theorem dX8_share_139 : decode cX8_share 139 = .ok (.iload 4, 2) := by decide +kernel
theorem dX8_share_141 : decode cX8_share 141 = .ok (.idiv, 1) := by decide +kernel
theorem dX8_share_142 : decode cX8_share 142 = .ok (.goto 13, 3) := by decide +kernel
theorem dX8_share_145 : decode cX8_share 145 = .ok (.aload_n 0, 1) := by decide +kernel
theorem dX8_share_146 : decode cX8_share 146 = .ok (.getfield 83, 3) := by decide +kernel
theorem dX8_share_149 : decode cX8_share 149 = .ok (.invokestatic 136, 3) := by decide +kernel
theorem dX8_share_152 : decode cX8_share 152 = .ok (.iload 4, 2) := by decide +kernel
theorem dX8_share_154 : decode cX8_share 154 = .ok (.idiv, 1) := by decide +kernel
theorem dX8_share_155 : decode cX8_share 155 = .ok (.ireturn, 1) := by decide +kernel
theorem dX8_isOrder_0 : decode cX8_isOrder 0 = .ok (.iconst 0, 1) := by decide +kernel
theorem dX8_isOrder_1 : decode cX8_isOrder 1 = .ok (.istore_n 2, 1) := by decide +kernel
theorem dX8_isOrder_2 : decode cX8_isOrder 2 = .ok (.iload_n 1, 1) := by decide +kernel
theorem dX8_isOrder_3 : decode cX8_isOrder 3 = .ok (.istore_n 3, 1) := by decide +kernel
theorem dX8_isOrder_4 : decode cX8_isOrder 4 = .ok (.iconst 0, 1) := by decide +kernel
theorem dX8_isOrder_5 : decode cX8_isOrder 5 = .ok (.istore 4, 2) := by decide +kernel
theorem dX8_isOrder_7 : decode cX8_isOrder 7 = .ok (.iload 4, 2) := by decide +kernel
theorem dX8_isOrder_9 : decode cX8_isOrder 9 = .ok (.aload_n 0, 1) := by decide +kernel
theorem dX8_isOrder_10 : decode cX8_isOrder 10 = .ok (.getfield 83, 3) := by decide +kernel
theorem dX8_isOrder_13 : decode cX8_isOrder 13 = .ok (.if_icmp .ge 53, 3) := by decide +kernel
theorem dX8_isOrder_16 : decode cX8_isOrder 16 = .ok (.iload_n 3, 1) := by decide +kernel
theorem dX8_isOrder_17 : decode cX8_isOrder 17 = .ok (.bipush 10, 2) := by decide +kernel
theorem dX8_isOrder_19 : decode cX8_isOrder 19 = .ok (.irem, 1) := by decide +kernel
theorem dX8_isOrder_20 : decode cX8_isOrder 20 = .ok (.iconst 1, 1) := by decide +kernel
theorem dX8_isOrder_21 : decode cX8_isOrder 21 = .ok (.isub, 1) := by decide +kernel
theorem dX8_isOrder_22 : decode cX8_isOrder 22 = .ok (.istore 5, 2) := by decide +kernel
theorem dX8_isOrder_24 : decode cX8_isOrder 24 = .ok (.iload_n 3, 1) := by decide +kernel
theorem dX8_isOrder_25 : decode cX8_isOrder 25 = .ok (.ifCond .lt 21, 3) := by decide +kernel
theorem dX8_isOrder_28 : decode cX8_isOrder 28 = .ok (.aload_n 0, 1) := by decide +kernel
theorem dX8_isOrder_29 : decode cX8_isOrder 29 = .ok (.iload 5, 2) := by decide +kernel
theorem dX8_isOrder_31 : decode cX8_isOrder 31 = .ok (.invokevirtual 89, 3) := by decide +kernel
theorem dX8_isOrder_34 : decode cX8_isOrder 34 = .ok (.ifCond .eq 12, 3) := by decide +kernel
theorem dX8_isOrder_37 : decode cX8_isOrder 37 = .ok (.iload_n 2, 1) := by decide +kernel
theorem dX8_isOrder_38 : decode cX8_isOrder 38 = .ok (.iload 5, 2) := by decide +kernel
theorem dX8_isOrder_40 : decode cX8_isOrder 40 = .ok (.invokestatic 139, 3) := by decide +kernel
theorem dX8_isOrder_43 : decode cX8_isOrder 43 = .ok (.ifCond .eq 5, 3) := by decide +kernel
theorem dX8_isOrder_46 : decode cX8_isOrder 46 = .ok (.iconst 0, 1) := by decide +kernel
theorem dX8_isOrder_47 : decode cX8_isOrder 47 = .ok (.ireturn, 1) := by decide +kernel
theorem dX8_isOrder_48 : decode cX8_isOrder 48 = .ok (.iload_n 2, 1) := by decide +kernel
theorem dX8_isOrder_49 : decode cX8_isOrder 49 = .ok (.iconst 1, 1) := by decide +kernel
theorem dX8_isOrder_50 : decode cX8_isOrder 50 = .ok (.iload 5, 2) := by decide +kernel
theorem dX8_isOrder_52 : decode cX8_isOrder 52 = .ok (.ishl, 1) := by decide +kernel
theorem dX8_isOrder_53 : decode cX8_isOrder 53 = .ok (.ior, 1) := by decide +kernel
theorem dX8_isOrder_54 : decode cX8_isOrder 54 = .ok (.istore_n 2, 1) := by decide +kernel
theorem dX8_isOrder_55 : decode cX8_isOrder 55 = .ok (.iload_n 3, 1) := by decide +kernel
theorem dX8_isOrder_56 : decode cX8_isOrder 56 = .ok (.bipush 10, 2) := by decide +kernel
theorem dX8_isOrder_58 : decode cX8_isOrder 58 = .ok (.idiv, 1) := by decide +kernel
theorem dX8_isOrder_59 : decode cX8_isOrder 59 = .ok (.istore_n 3, 1) := by decide +kernel
theorem dX8_isOrder_60 : decode cX8_isOrder 60 = .ok (.iinc 4 1, 3) := by decide +kernel
theorem dX8_isOrder_63 : decode cX8_isOrder 63 = .ok (.goto (-56), 3) := by decide +kernel
theorem dX8_isOrder_66 : decode cX8_isOrder 66 = .ok (.iload_n 3, 1) := by decide +kernel
theorem dX8_isOrder_67 : decode cX8_isOrder 67 = .ok (.ifCond .ne 7, 3) := by decide +kernel
theorem dX8_isOrder_70 : decode cX8_isOrder 70 = .ok (.iconst 1, 1) := by decide +kernel
theorem dX8_isOrder_71 : decode cX8_isOrder 71 = .ok (.goto 4, 3) := by decide +kernel
theorem dX8_isOrder_74 : decode cX8_isOrder 74 = .ok (.iconst 0, 1) := by decide +kernel
theorem dX8_isOrder_75 : decode cX8_isOrder 75 = .ok (.ireturn, 1) := by decide +kernel
theorem dX8_comesSo_0 : decode cX8_comesSo 0 = .ok (.aload_n 0, 1) := by decide +kernel
theorem dX8_comesSo_1 : decode cX8_comesSo 1 = .ok (.invokevirtual 126, 3) := by decide +kernel
theorem dX8_comesSo_4 : decode cX8_comesSo 4 = .ok (.aload_n 0, 1) := by decide +kernel
theorem dX8_comesSo_5 : decode cX8_comesSo 5 = .ok (.getfield 16, 3) := by decide +kernel
theorem dX8_comesSo_8 : decode cX8_comesSo 8 = .ok (.bipush 66, 2) := by decide +kernel
theorem dX8_comesSo_10 : decode cX8_comesSo 10 = .ok (.iload_n 1, 1) := by decide +kernel
theorem dX8_comesSo_11 : decode cX8_comesSo 11 = .ok (.iadd, 1) := by decide +kernel
theorem dX8_comesSo_12 : decode cX8_comesSo 12 = .ok (.iconst 3, 1) := by decide +kernel
theorem dX8_comesSo_13 : decode cX8_comesSo 13 = .ok (.iastore, 1) := by decide +kernel
theorem dX8_comesSo_14 : decode cX8_comesSo 14 = .ok (.iconst 0, 1) := by decide +kernel
theorem dX8_comesSo_15 : decode cX8_comesSo 15 = .ok (.istore 4, 2) := by decide +kernel
theorem dX8_comesSo_17 : decode cX8_comesSo 17 = .ok (.iload 4, 2) := by decide +kernel
theorem dX8_comesSo_19 : decode cX8_comesSo 19 = .ok (.aload_n 0, 1) := by decide +kernel
theorem dX8_comesSo_20 : decode cX8_comesSo 20 = .ok (.getfield 83, 3) := by decide +kernel
theorem dX8_comesSo_23 : decode cX8_comesSo 23 = .ok (.if_icmp .ge 33, 3) := by decide +kernel
theorem dX8_comesSo_26 : decode cX8_comesSo 26 = .ok (.aload_n 0, 1) := by decide +kernel
theorem dX8_comesSo_27 : decode cX8_comesSo 27 = .ok (.getfield 16, 3) := by decide +kernel
theorem dX8_comesSo_30 : decode cX8_comesSo 30 = .ok (.bipush 77, 2) := by decide +kernel
theorem dX8_comesSo_32 : decode cX8_comesSo 32 = .ok (.bipush 6, 2) := by decide +kernel
theorem dX8_comesSo_34 : decode cX8_comesSo 34 = .ok (.iload_n 1, 1) := by decide +kernel
theorem dX8_comesSo_35 : decode cX8_comesSo 35 = .ok (.imul, 1) := by decide +kernel
theorem dX8_comesSo_36 : decode cX8_comesSo 36 = .ok (.iadd, 1) := by decide +kernel
theorem dX8_comesSo_37 : decode cX8_comesSo 37 = .ok (.iload 4, 2) := by decide +kernel
theorem dX8_comesSo_39 : decode cX8_comesSo 39 = .ok (.iadd, 1) := by decide +kernel
theorem dX8_comesSo_40 : decode cX8_comesSo 40 = .ok (.dup2, 1) := by decide +kernel
theorem dX8_comesSo_41 : decode cX8_comesSo 41 = .ok (.iaload, 1) := by decide +kernel
theorem dX8_comesSo_42 : decode cX8_comesSo 42 = .ok (.iload_n 3, 1) := by decide +kernel
theorem dX8_comesSo_43 : decode cX8_comesSo 43 = .ok (.iload 4, 2) := by decide +kernel
theorem dX8_comesSo_45 : decode cX8_comesSo 45 = .ok (.ishr, 1) := by decide +kernel
theorem dX8_comesSo_46 : decode cX8_comesSo 46 = .ok (.iconst 1, 1) := by decide +kernel
theorem dX8_comesSo_47 : decode cX8_comesSo 47 = .ok (.iand, 1) := by decide +kernel
theorem dX8_comesSo_48 : decode cX8_comesSo 48 = .ok (.iadd, 1) := by decide +kernel
theorem dX8_comesSo_49 : decode cX8_comesSo 49 = .ok (.iastore, 1) := by decide +kernel
theorem dX8_comesSo_50 : decode cX8_comesSo 50 = .ok (.iinc 4 1, 3) := by decide +kernel
theorem dX8_comesSo_53 : decode cX8_comesSo 53 = .ok (.goto (-36), 3) := by decide +kernel
theorem dX8_comesSo_56 : decode cX8_comesSo 56 = .ok (.aload_n 0, 1) := by decide +kernel
theorem dX8_comesSo_57 : decode cX8_comesSo 57 = .ok (.getfield 16, 3) := by decide +kernel
theorem dX8_comesSo_60 : decode cX8_comesSo 60 = .ok (.bipush 107, 2) := by decide +kernel
theorem dX8_comesSo_62 : decode cX8_comesSo 62 = .ok (.iaload, 1) := by decide +kernel
theorem dX8_comesSo_63 : decode cX8_comesSo 63 = .ok (.iload_n 1, 1) := by decide +kernel
theorem dX8_comesSo_64 : decode cX8_comesSo 64 = .ok (.if_icmp .gt 15, 3) := by decide +kernel
theorem dX8_comesSo_67 : decode cX8_comesSo 67 = .ok (.aload_n 0, 1) := by decide +kernel
theorem dX8_comesSo_68 : decode cX8_comesSo 68 = .ok (.iconst 1, 1) := by decide +kernel
theorem dX8_comesSo_69 : decode cX8_comesSo 69 = .ok (.aload_n 0, 1) := by decide +kernel
theorem dX8_comesSo_70 : decode cX8_comesSo 70 = .ok (.getfield 83, 3) := by decide +kernel
theorem dX8_comesSo_73 : decode cX8_comesSo 73 = .ok (.invokevirtual 117, 3) := by decide +kernel
theorem dX8_comesSo_76 : decode cX8_comesSo 76 = .ok (.goto (-20), 3) := by decide +kernel
theorem dX8_comesSo_79 : decode cX8_comesSo 79 = .ok (.aload_n 0, 1) := by decide +kernel
theorem dX8_comesSo_80 : decode cX8_comesSo 80 = .ok (.iconst 1, 1) := by decide +kernel
theorem dX8_comesSo_81 : decode cX8_comesSo 81 = .ok (.aload_n 0, 1) := by decide +kernel
theorem dX8_comesSo_82 : decode cX8_comesSo 82 = .ok (.getfield 83, 3) := by decide +kernel
theorem dX8_comesSo_85 : decode cX8_comesSo 85 = .ok (.invokevirtual 121, 3) := by decide +kernel
theorem dX8_comesSo_88 : decode cX8_comesSo 88 = .ok (.iload_n 2, 1) := by decide +kernel
theorem dX8_comesSo_89 : decode cX8_comesSo 89 = .ok (.if_icmp .ne 7, 3) := by decide +kernel
theorem dX8_comesSo_92 : decode cX8_comesSo 92 = .ok (.iconst 1, 1) := by decide +kernel
theorem dX8_comesSo_93 : decode cX8_comesSo 93 = .ok (.goto 4, 3) := by decide +kernel
theorem dX8_comesSo_96 : decode cX8_comesSo 96 = .ok (.iconst 0, 1) := by decide +kernel
theorem dX8_comesSo_97 : decode cX8_comesSo 97 = .ok (.ireturn, 1) := by decide +kernel
theorem dX8_gave_0 : decode cX8_gave 0 = .ok (.aload_n 0, 1) := by decide +kernel
theorem dX8_gave_1 : decode cX8_gave 1 = .ok (.iload_n 1, 1) := by decide +kernel
theorem dX8_gave_2 : decode cX8_gave 2 = .ok (.invokevirtual 97, 3) := by decide +kernel
theorem dX8_gave_5 : decode cX8_gave 5 = .ok (.ifCond .ne 5, 3) := by decide +kernel
theorem dX8_gave_8 : decode cX8_gave 8 = .ok (.iconst (-1), 1) := by decide +kernel
theorem dX8_gave_9 : decode cX8_gave 9 = .ok (.ireturn, 1) := by decide +kernel
theorem dX8_gave_10 : decode cX8_gave 10 = .ok (.aload_n 0, 1) := by decide +kernel
theorem dX8_gave_11 : decode cX8_gave 11 = .ok (.iload_n 2, 1) := by decide +kernel
theorem dX8_gave_12 : decode cX8_gave 12 = .ok (.invokevirtual 169, 3) := by decide +kernel
theorem dX8_gave_15 : decode cX8_gave 15 = .ok (.ifCond .eq 15, 3) := by decide +kernel
theorem dX8_gave_18 : decode cX8_gave 18 = .ok (.iload_n 3, 1) := by decide +kernel
theorem dX8_gave_19 : decode cX8_gave 19 = .ok (.i2l, 1) := by decide +kernel
theorem dX8_gave_20 : decode cX8_gave 20 = .ok (.lconst 0, 1) := by decide +kernel
theorem dX8_gave_21 : decode cX8_gave 21 = .ok (.ldc2_w 172, 3) := by decide +kernel
theorem dX8_gave_24 : decode cX8_gave 24 = .ok (.invokestatic 56, 3) := by decide +kernel
theorem dX8_gave_27 : decode cX8_gave 27 = .ok (.ifCond .ne 6, 3) := by decide +kernel
theorem dX8_gave_30 : decode cX8_gave 30 = .ok (.bipush (-2), 2) := by decide +kernel
theorem dX8_gave_32 : decode cX8_gave 32 = .ok (.ireturn, 1) := by decide +kernel
theorem dX8_gave_33 : decode cX8_gave 33 = .ok (.iload_n 1, 1) := by decide +kernel
theorem dX8_gave_34 : decode cX8_gave 34 = .ok (.aload_n 0, 1) := by decide +kernel
theorem dX8_gave_35 : decode cX8_gave 35 = .ok (.getfield 16, 3) := by decide +kernel
theorem dX8_gave_38 : decode cX8_gave 38 = .ok (.bipush 53, 2) := by decide +kernel
theorem dX8_gave_40 : decode cX8_gave 40 = .ok (.iaload, 1) := by decide +kernel
theorem dX8_gave_41 : decode cX8_gave 41 = .ok (.if_icmp .ge 6, 3) := by decide +kernel
theorem dX8_gave_44 : decode cX8_gave 44 = .ok (.bipush (-3), 2) := by decide +kernel
theorem dX8_gave_46 : decode cX8_gave 46 = .ok (.ireturn, 1) := by decide +kernel
theorem dX8_gave_47 : decode cX8_gave 47 = .ok (.iconst 0, 1) := by decide +kernel
theorem dX8_gave_48 : decode cX8_gave 48 = .ok (.istore 4, 2) := by decide +kernel
theorem dX8_gave_50 : decode cX8_gave 50 = .ok (.iconst 1, 1) := by decide +kernel
theorem dX8_gave_51 : decode cX8_gave 51 = .ok (.aload_n 0, 1) := by decide +kernel
theorem dX8_gave_52 : decode cX8_gave 52 = .ok (.getfield 83, 3) := by decide +kernel
theorem dX8_gave_55 : decode cX8_gave 55 = .ok (.ishl, 1) := by decide +kernel
theorem dX8_gave_56 : decode cX8_gave 56 = .ok (.iconst 1, 1) := by decide +kernel
theorem dX8_gave_57 : decode cX8_gave 57 = .ok (.isub, 1) := by decide +kernel
theorem dX8_gave_58 : decode cX8_gave 58 = .ok (.istore 5, 2) := by decide +kernel
theorem dX8_gave_60 : decode cX8_gave 60 = .ok (.iconst 0, 1) := by decide +kernel
theorem dX8_gave_61 : decode cX8_gave 61 = .ok (.istore 6, 2) := by decide +kernel
theorem dX8_gave_63 : decode cX8_gave 63 = .ok (.iconst 0, 1) := by decide +kernel
theorem dX8_gave_64 : decode cX8_gave 64 = .ok (.istore 7, 2) := by decide +kernel
theorem dX8_gave_66 : decode cX8_gave 66 = .ok (.iload 7, 2) := by decide +kernel
theorem dX8_gave_68 : decode cX8_gave 68 = .ok (.iconst 1, 1) := by decide +kernel
theorem dX8_gave_69 : decode cX8_gave 69 = .ok (.aload_n 0, 1) := by decide +kernel
theorem dX8_gave_70 : decode cX8_gave 70 = .ok (.getfield 83, 3) := by decide +kernel
theorem dX8_gave_73 : decode cX8_gave 73 = .ok (.ishl, 1) := by decide +kernel
theorem dX8_gave_74 : decode cX8_gave 74 = .ok (.if_icmp .ge 37, 3) := by decide +kernel
theorem dX8_gave_77 : decode cX8_gave 77 = .ok (.aload_n 0, 1) := by decide +kernel
theorem dX8_gave_78 : decode cX8_gave 78 = .ok (.iload_n 1, 1) := by decide +kernel
theorem dX8_gave_79 : decode cX8_gave 79 = .ok (.iload_n 2, 1) := by decide +kernel
theorem dX8_gave_80 : decode cX8_gave 80 = .ok (.iload 7, 2) := by decide +kernel
theorem dX8_gave_82 : decode cX8_gave 82 = .ok (.invokevirtual 174, 3) := by decide +kernel
theorem dX8_gave_85 : decode cX8_gave 85 = .ok (.ifCond .eq 20, 3) := by decide +kernel
theorem dX8_gave_88 : decode cX8_gave 88 = .ok (.iinc 4 1, 3) := by decide +kernel
theorem dX8_gave_91 : decode cX8_gave 91 = .ok (.iload 5, 2) := by decide +kernel
theorem dX8_gave_93 : decode cX8_gave 93 = .ok (.iload 7, 2) := by decide +kernel
theorem dX8_gave_95 : decode cX8_gave 95 = .ok (.iand, 1) := by decide +kernel
theorem dX8_gave_96 : decode cX8_gave 96 = .ok (.istore 5, 2) := by decide +kernel
theorem dX8_gave_98 : decode cX8_gave 98 = .ok (.iload 6, 2) := by decide +kernel
theorem dX8_gave_100 : decode cX8_gave 100 = .ok (.iload 7, 2) := by decide +kernel
theorem dX8_gave_102 : decode cX8_gave 102 = .ok (.ior, 1) := by decide +kernel
theorem dX8_gave_103 : decode cX8_gave 103 = .ok (.istore 6, 2) := by decide +kernel
theorem dX8_gave_105 : decode cX8_gave 105 = .ok (.iinc 7 1, 3) := by decide +kernel
theorem dX8_gave_108 : decode cX8_gave 108 = .ok (.goto (-42), 3) := by decide +kernel
theorem dX8_gave_111 : decode cX8_gave 111 = .ok (.iload_n 3, 1) := by decide +kernel
theorem dX8_gave_112 : decode cX8_gave 112 = .ok (.ifCond .ne 8, 3) := by decide +kernel
theorem dX8_gave_115 : decode cX8_gave 115 = .ok (.iload 4, 2) := by decide +kernel
theorem dX8_gave_117 : decode cX8_gave 117 = .ok (.goto 36, 3) := by decide +kernel
theorem dX8_gave_120 : decode cX8_gave 120 = .ok (.iload 4, 2) := by decide +kernel
theorem dX8_gave_122 : decode cX8_gave 122 = .ok (.ifCond .ne 8, 3) := by decide +kernel
theorem dX8_gave_125 : decode cX8_gave 125 = .ok (.bipush (-9), 2) := by decide +kernel
theorem dX8_gave_127 : decode cX8_gave 127 = .ok (.goto 26, 3) := by decide +kernel
theorem dX8_gave_130 : decode cX8_gave 130 = .ok (.iload_n 3, 1) := by decide +kernel
theorem dX8_gave_131 : decode cX8_gave 131 = .ok (.iconst 1, 1) := by decide +kernel
theorem dX8_gave_132 : decode cX8_gave 132 = .ok (.if_icmp .ne 8, 3) := by decide +kernel
theorem dX8_gave_135 : decode cX8_gave 135 = .ok (.iload 5, 2) := by decide +kernel
theorem dX8_gave_137 : decode cX8_gave 137 = .ok (.goto 16, 3) := by decide +kernel
theorem dX8_gave_140 : decode cX8_gave 140 = .ok (.iconst 1, 1) := by decide +kernel
theorem dX8_gave_141 : decode cX8_gave 141 = .ok (.aload_n 0, 1) := by decide +kernel
theorem dX8_gave_142 : decode cX8_gave 142 = .ok (.getfield 83, 3) := by decide +kernel
theorem dX8_gave_145 : decode cX8_gave 145 = .ok (.ishl, 1) := by decide +kernel
theorem dX8_gave_146 : decode cX8_gave 146 = .ok (.iconst 1, 1) := by decide +kernel
theorem dX8_gave_147 : decode cX8_gave 147 = .ok (.isub, 1) := by decide +kernel
theorem dX8_gave_148 : decode cX8_gave 148 = .ok (.iload 6, 2) := by decide +kernel
theorem dX8_gave_150 : decode cX8_gave 150 = .ok (.iconst (-1), 1) := by decide +kernel
theorem dX8_gave_151 : decode cX8_gave 151 = .ok (.ixor, 1) := by decide +kernel
theorem dX8_gave_152 : decode cX8_gave 152 = .ok (.iand, 1) := by decide +kernel
theorem dX8_gave_153 : decode cX8_gave 153 = .ok (.ireturn, 1) := by decide +kernel
theorem dX8_layLosses_0 : decode cX8_layLosses 0 = .ok (.iconst 0, 1) := by decide +kernel
theorem dX8_layLosses_1 : decode cX8_layLosses 1 = .ok (.istore 4, 2) := by decide +kernel
theorem dX8_layLosses_3 : decode cX8_layLosses 3 = .ok (.iload 4, 2) := by decide +kernel
theorem dX8_layLosses_5 : decode cX8_layLosses 5 = .ok (.bipush 16, 2) := by decide +kernel
theorem dX8_layLosses_7 : decode cX8_layLosses 7 = .ok (.if_icmp .ge 111, 3) := by decide +kernel
theorem dX8_layLosses_10 : decode cX8_layLosses 10 = .ok (.aload_n 0, 1) := by decide +kernel
theorem dX8_layLosses_11 : decode cX8_layLosses 11 = .ok (.invokevirtual 126, 3) := by decide +kernel
theorem dX8_layLosses_14 : decode cX8_layLosses 14 = .ok (.aload_n 0, 1) := by decide +kernel
theorem dX8_layLosses_15 : decode cX8_layLosses 15 = .ok (.getfield 16, 3) := by decide +kernel
theorem dX8_layLosses_18 : decode cX8_layLosses 18 = .ok (.bipush 77, 2) := by decide +kernel
theorem dX8_layLosses_20 : decode cX8_layLosses 20 = .ok (.bipush 6, 2) := by decide +kernel
theorem dX8_layLosses_22 : decode cX8_layLosses 22 = .ok (.iload_n 3, 1) := by decide +kernel
theorem dX8_layLosses_23 : decode cX8_layLosses 23 = .ok (.imul, 1) := by decide +kernel
theorem dX8_layLosses_24 : decode cX8_layLosses 24 = .ok (.iadd, 1) := by decide +kernel
theorem dX8_layLosses_25 : decode cX8_layLosses 25 = .ok (.iload_n 1, 1) := by decide +kernel
theorem dX8_layLosses_26 : decode cX8_layLosses 26 = .ok (.iadd, 1) := by decide +kernel
theorem dX8_layLosses_27 : decode cX8_layLosses 27 = .ok (.dup2, 1) := by decide +kernel
theorem dX8_layLosses_28 : decode cX8_layLosses 28 = .ok (.iaload, 1) := by decide +kernel
theorem dX8_layLosses_29 : decode cX8_layLosses 29 = .ok (.iload 4, 2) := by decide +kernel
theorem dX8_layLosses_31 : decode cX8_layLosses 31 = .ok (.iconst 4, 1) := by decide +kernel
theorem dX8_layLosses_32 : decode cX8_layLosses 32 = .ok (.idiv, 1) := by decide +kernel
theorem dX8_layLosses_33 : decode cX8_layLosses 33 = .ok (.iadd, 1) := by decide +kernel
theorem dX8_layLosses_34 : decode cX8_layLosses 34 = .ok (.iastore, 1) := by decide +kernel
theorem dX8_layLosses_35 : decode cX8_layLosses 35 = .ok (.aload_n 0, 1) := by decide +kernel
theorem dX8_layLosses_36 : decode cX8_layLosses 36 = .ok (.getfield 16, 3) := by decide +kernel
theorem dX8_layLosses_39 : decode cX8_layLosses 39 = .ok (.bipush 77, 2) := by decide +kernel
theorem dX8_layLosses_41 : decode cX8_layLosses 41 = .ok (.bipush 6, 2) := by decide +kernel
theorem dX8_layLosses_43 : decode cX8_layLosses 43 = .ok (.iload_n 3, 1) := by decide +kernel
theorem dX8_layLosses_44 : decode cX8_layLosses 44 = .ok (.imul, 1) := by decide +kernel
theorem dX8_layLosses_45 : decode cX8_layLosses 45 = .ok (.iadd, 1) := by decide +kernel
theorem dX8_layLosses_46 : decode cX8_layLosses 46 = .ok (.iload_n 2, 1) := by decide +kernel
theorem dX8_layLosses_47 : decode cX8_layLosses 47 = .ok (.iadd, 1) := by decide +kernel
theorem dX8_layLosses_48 : decode cX8_layLosses 48 = .ok (.dup2, 1) := by decide +kernel
theorem dX8_layLosses_49 : decode cX8_layLosses 49 = .ok (.iaload, 1) := by decide +kernel
theorem dX8_layLosses_50 : decode cX8_layLosses 50 = .ok (.iload 4, 2) := by decide +kernel
theorem dX8_layLosses_52 : decode cX8_layLosses 52 = .ok (.iconst 4, 1) := by decide +kernel
theorem dX8_layLosses_53 : decode cX8_layLosses 53 = .ok (.irem, 1) := by decide +kernel
theorem dX8_layLosses_54 : decode cX8_layLosses 54 = .ok (.iadd, 1) := by decide +kernel
theorem dX8_layLosses_55 : decode cX8_layLosses 55 = .ok (.iastore, 1) := by decide +kernel
theorem dX8_layLosses_56 : decode cX8_layLosses 56 = .ok (.aload_n 0, 1) := by decide +kernel
theorem dX8_layLosses_57 : decode cX8_layLosses 57 = .ok (.aload_n 0, 1) := by decide +kernel
theorem dX8_layLosses_58 : decode cX8_layLosses 58 = .ok (.getfield 83, 3) := by decide +kernel
theorem dX8_layLosses_61 : decode cX8_layLosses 61 = .ok (.invokevirtual 129, 3) := by decide +kernel
theorem dX8_layLosses_64 : decode cX8_layLosses 64 = .ok (.aload_n 0, 1) := by decide +kernel
theorem dX8_layLosses_65 : decode cX8_layLosses 65 = .ok (.getfield 37, 3) := by decide +kernel
theorem dX8_layLosses_68 : decode cX8_layLosses 68 = .ok (.iload 4, 2) := by decide +kernel
theorem dX8_layLosses_70 : decode cX8_layLosses 70 = .ok (.iconst 4, 1) := by decide +kernel
theorem dX8_layLosses_71 : decode cX8_layLosses 71 = .ok (.aload_n 0, 1) := by decide +kernel
theorem dX8_layLosses_72 : decode cX8_layLosses 72 = .ok (.iconst 1, 1) := by decide +kernel
theorem dX8_layLosses_73 : decode cX8_layLosses 73 = .ok (.iload_n 1, 1) := by decide +kernel
theorem dX8_layLosses_74 : decode cX8_layLosses 74 = .ok (.aload_n 0, 1) := by decide +kernel
theorem dX8_layLosses_75 : decode cX8_layLosses 75 = .ok (.getfield 83, 3) := by decide +kernel
theorem dX8_layLosses_78 : decode cX8_layLosses 78 = .ok (.invokevirtual 93, 3) := by decide +kernel
theorem dX8_layLosses_81 : decode cX8_layLosses 81 = .ok (.imul, 1) := by decide +kernel
theorem dX8_layLosses_82 : decode cX8_layLosses 82 = .ok (.iload 4, 2) := by decide +kernel
theorem dX8_layLosses_84 : decode cX8_layLosses 84 = .ok (.iconst 4, 1) := by decide +kernel
theorem dX8_layLosses_85 : decode cX8_layLosses 85 = .ok (.idiv, 1) := by decide +kernel
theorem dX8_layLosses_86 : decode cX8_layLosses 86 = .ok (.iadd, 1) := by decide +kernel
theorem dX8_layLosses_87 : decode cX8_layLosses 87 = .ok (.iastore, 1) := by decide +kernel
theorem dX8_layLosses_88 : decode cX8_layLosses 88 = .ok (.aload_n 0, 1) := by decide +kernel
theorem dX8_layLosses_89 : decode cX8_layLosses 89 = .ok (.getfield 40, 3) := by decide +kernel
theorem dX8_layLosses_92 : decode cX8_layLosses 92 = .ok (.iload 4, 2) := by decide +kernel
theorem dX8_layLosses_94 : decode cX8_layLosses 94 = .ok (.iconst 4, 1) := by decide +kernel
theorem dX8_layLosses_95 : decode cX8_layLosses 95 = .ok (.aload_n 0, 1) := by decide +kernel
theorem dX8_layLosses_96 : decode cX8_layLosses 96 = .ok (.iconst 1, 1) := by decide +kernel
theorem dX8_layLosses_97 : decode cX8_layLosses 97 = .ok (.iload_n 2, 1) := by decide +kernel
theorem dX8_layLosses_98 : decode cX8_layLosses 98 = .ok (.aload_n 0, 1) := by decide +kernel
theorem dX8_layLosses_99 : decode cX8_layLosses 99 = .ok (.getfield 83, 3) := by decide +kernel
theorem dX8_layLosses_102 : decode cX8_layLosses 102 = .ok (.invokevirtual 93, 3) := by decide +kernel
theorem dX8_layLosses_105 : decode cX8_layLosses 105 = .ok (.imul, 1) := by decide +kernel
theorem dX8_layLosses_106 : decode cX8_layLosses 106 = .ok (.iload 4, 2) := by decide +kernel
theorem dX8_layLosses_108 : decode cX8_layLosses 108 = .ok (.iconst 4, 1) := by decide +kernel
theorem dX8_layLosses_109 : decode cX8_layLosses 109 = .ok (.irem, 1) := by decide +kernel
theorem dX8_layLosses_110 : decode cX8_layLosses 110 = .ok (.iadd, 1) := by decide +kernel
theorem dX8_layLosses_111 : decode cX8_layLosses 111 = .ok (.iastore, 1) := by decide +kernel
theorem dX8_layLosses_112 : decode cX8_layLosses 112 = .ok (.iinc 4 1, 3) := by decide +kernel
theorem dX8_layLosses_115 : decode cX8_layLosses 115 = .ok (.goto (-112), 3) := by decide +kernel
theorem dX8_layLosses_118 : decode cX8_layLosses 118 = .ok (.return_, 1) := by decide +kernel
theorem dX8_isRest_0 : decode cX8_isRest 0 = .ok (.iconst 1, 1) := by decide +kernel
theorem dX8_isRest_1 : decode cX8_isRest 1 = .ok (.istore_n 2, 1) := by decide +kernel
theorem dX8_isRest_2 : decode cX8_isRest 2 = .ok (.iconst 0, 1) := by decide +kernel
theorem dX8_isRest_3 : decode cX8_isRest 3 = .ok (.istore_n 3, 1) := by decide +kernel
theorem dX8_isRest_4 : decode cX8_isRest 4 = .ok (.iload_n 3, 1) := by decide +kernel
theorem dX8_isRest_5 : decode cX8_isRest 5 = .ok (.iconst 4, 1) := by decide +kernel
theorem dX8_isRest_6 : decode cX8_isRest 6 = .ok (.if_icmp .ge 61, 3) := by decide +kernel
theorem dX8_isRest_9 : decode cX8_isRest 9 = .ok (.iload_n 2, 1) := by decide +kernel
theorem dX8_isRest_10 : decode cX8_isRest 10 = .ok (.ifCond .eq 49, 3) := by decide +kernel
theorem dX8_isRest_13 : decode cX8_isRest 13 = .ok (.aload_n 0, 1) := by decide +kernel
theorem dX8_isRest_14 : decode cX8_isRest 14 = .ok (.getfield 37, 3) := by decide +kernel
theorem dX8_isRest_17 : decode cX8_isRest 17 = .ok (.iconst 4, 1) := by decide +kernel
theorem dX8_isRest_18 : decode cX8_isRest 18 = .ok (.iload_n 3, 1) := by decide +kernel
theorem dX8_isRest_19 : decode cX8_isRest 19 = .ok (.imul, 1) := by decide +kernel
theorem dX8_isRest_20 : decode cX8_isRest 20 = .ok (.iload_n 1, 1) := by decide +kernel
theorem dX8_isRest_21 : decode cX8_isRest 21 = .ok (.iconst 4, 1) := by decide +kernel
theorem dX8_isRest_22 : decode cX8_isRest 22 = .ok (.irem, 1) := by decide +kernel
theorem dX8_isRest_23 : decode cX8_isRest 23 = .ok (.iadd, 1) := by decide +kernel
theorem dX8_isRest_24 : decode cX8_isRest 24 = .ok (.iaload, 1) := by decide +kernel
theorem dX8_isRest_25 : decode cX8_isRest 25 = .ok (.aload_n 0, 1) := by decide +kernel
theorem dX8_isRest_26 : decode cX8_isRest 26 = .ok (.getfield 37, 3) := by decide +kernel
theorem dX8_isRest_29 : decode cX8_isRest 29 = .ok (.iload_n 1, 1) := by decide +kernel
theorem dX8_isRest_30 : decode cX8_isRest 30 = .ok (.iaload, 1) := by decide +kernel
theorem dX8_isRest_31 : decode cX8_isRest 31 = .ok (.if_icmp .lt 28, 3) := by decide +kernel
theorem dX8_isRest_34 : decode cX8_isRest 34 = .ok (.aload_n 0, 1) := by decide +kernel
theorem dX8_isRest_35 : decode cX8_isRest 35 = .ok (.getfield 40, 3) := by decide +kernel
theorem dX8_isRest_38 : decode cX8_isRest 38 = .ok (.iload_n 1, 1) := by decide +kernel
theorem dX8_isRest_39 : decode cX8_isRest 39 = .ok (.iload_n 1, 1) := by decide +kernel
theorem dX8_isRest_40 : decode cX8_isRest 40 = .ok (.iconst 4, 1) := by decide +kernel
theorem dX8_isRest_41 : decode cX8_isRest 41 = .ok (.irem, 1) := by decide +kernel
theorem dX8_isRest_42 : decode cX8_isRest 42 = .ok (.isub, 1) := by decide +kernel
theorem dX8_isRest_43 : decode cX8_isRest 43 = .ok (.iload_n 3, 1) := by decide +kernel
theorem dX8_isRest_44 : decode cX8_isRest 44 = .ok (.iadd, 1) := by decide +kernel
theorem dX8_isRest_45 : decode cX8_isRest 45 = .ok (.iaload, 1) := by decide +kernel
theorem dX8_isRest_46 : decode cX8_isRest 46 = .ok (.aload_n 0, 1) := by decide +kernel
theorem dX8_isRest_47 : decode cX8_isRest 47 = .ok (.getfield 40, 3) := by decide +kernel
theorem dX8_isRest_50 : decode cX8_isRest 50 = .ok (.iload_n 1, 1) := by decide +kernel
theorem dX8_isRest_51 : decode cX8_isRest 51 = .ok (.iaload, 1) := by decide +kernel
theorem dX8_isRest_52 : decode cX8_isRest 52 = .ok (.if_icmp .lt 7, 3) := by decide +kernel
theorem dX8_isRest_55 : decode cX8_isRest 55 = .ok (.iconst 1, 1) := by decide +kernel
theorem dX8_isRest_56 : decode cX8_isRest 56 = .ok (.goto 4, 3) := by decide +kernel
theorem dX8_isRest_59 : decode cX8_isRest 59 = .ok (.iconst 0, 1) := by decide +kernel
theorem dX8_isRest_60 : decode cX8_isRest 60 = .ok (.istore_n 2, 1) := by decide +kernel
theorem dX8_isRest_61 : decode cX8_isRest 61 = .ok (.iinc 3 1, 3) := by decide +kernel
theorem dX8_isRest_64 : decode cX8_isRest 64 = .ok (.goto (-60), 3) := by decide +kernel
theorem dX8_isRest_67 : decode cX8_isRest 67 = .ok (.iload_n 2, 1) := by decide +kernel
theorem dX8_isRest_68 : decode cX8_isRest 68 = .ok (.ireturn, 1) := by decide +kernel
theorem dX8_rests_0 : decode cX8_rests 0 = .ok (.aload_n 0, 1) := by decide +kernel
theorem dX8_rests_1 : decode cX8_rests 1 = .ok (.iload_n 1, 1) := by decide +kernel
theorem dX8_rests_2 : decode cX8_rests 2 = .ok (.invokevirtual 89, 3) := by decide +kernel
theorem dX8_rests_5 : decode cX8_rests 5 = .ok (.ifCond .eq 19, 3) := by decide +kernel
theorem dX8_rests_8 : decode cX8_rests 8 = .ok (.aload_n 0, 1) := by decide +kernel
theorem dX8_rests_9 : decode cX8_rests 9 = .ok (.iload_n 2, 1) := by decide +kernel
theorem dX8_rests_10 : decode cX8_rests 10 = .ok (.invokevirtual 89, 3) := by decide +kernel
theorem dX8_rests_13 : decode cX8_rests 13 = .ok (.ifCond .eq 11, 3) := by decide +kernel
theorem dX8_rests_16 : decode cX8_rests 16 = .ok (.aload_n 0, 1) := by decide +kernel
theorem dX8_rests_17 : decode cX8_rests 17 = .ok (.iload_n 3, 1) := by decide +kernel
theorem dX8_rests_18 : decode cX8_rests 18 = .ok (.invokevirtual 97, 3) := by decide +kernel
theorem dX8_rests_21 : decode cX8_rests 21 = .ok (.ifCond .ne 5, 3) := by decide +kernel
theorem dX8_rests_24 : decode cX8_rests 24 = .ok (.iconst (-1), 1) := by decide +kernel
theorem dX8_rests_25 : decode cX8_rests 25 = .ok (.ireturn, 1) := by decide +kernel
theorem dX8_rests_26 : decode cX8_rests 26 = .ok (.iload_n 1, 1) := by decide +kernel
theorem dX8_rests_27 : decode cX8_rests 27 = .ok (.iload_n 2, 1) := by decide +kernel
theorem dX8_rests_28 : decode cX8_rests 28 = .ok (.if_icmp .eq 14, 3) := by decide +kernel
theorem dX8_rests_31 : decode cX8_rests 31 = .ok (.iload 4, 2) := by decide +kernel
theorem dX8_rests_33 : decode cX8_rests 33 = .ok (.i2l, 1) := by decide +kernel
theorem dX8_rests_34 : decode cX8_rests 34 = .ok (.lconst 0, 1) := by decide +kernel
theorem dX8_rests_35 : decode cX8_rests 35 = .ok (.lconst 1, 1) := by decide +kernel
theorem dX8_rests_36 : decode cX8_rests 36 = .ok (.invokestatic 56, 3) := by decide +kernel
theorem dX8_rests_39 : decode cX8_rests 39 = .ok (.ifCond .ne 6, 3) := by decide +kernel
theorem dX8_rests_42 : decode cX8_rests 42 = .ok (.bipush (-2), 2) := by decide +kernel
theorem dX8_rests_44 : decode cX8_rests 44 = .ok (.ireturn, 1) := by decide +kernel
theorem dX8_rests_45 : decode cX8_rests 45 = .ok (.iload_n 3, 1) := by decide +kernel
theorem dX8_rests_46 : decode cX8_rests 46 = .ok (.aload_n 0, 1) := by decide +kernel
theorem dX8_rests_47 : decode cX8_rests 47 = .ok (.getfield 16, 3) := by decide +kernel
theorem dX8_rests_50 : decode cX8_rests 50 = .ok (.bipush 53, 2) := by decide +kernel
theorem dX8_rests_52 : decode cX8_rests 52 = .ok (.iaload, 1) := by decide +kernel
theorem dX8_rests_53 : decode cX8_rests 53 = .ok (.if_icmp .ge 6, 3) := by decide +kernel
theorem dX8_rests_56 : decode cX8_rests 56 = .ok (.bipush (-3), 2) := by decide +kernel
theorem dX8_rests_58 : decode cX8_rests 58 = .ok (.ireturn, 1) := by decide +kernel
theorem dX8_rests_59 : decode cX8_rests 59 = .ok (.aload_n 0, 1) := by decide +kernel
theorem dX8_rests_60 : decode cX8_rests 60 = .ok (.iload_n 1, 1) := by decide +kernel
theorem dX8_rests_61 : decode cX8_rests 61 = .ok (.iload_n 2, 1) := by decide +kernel
theorem dX8_rests_62 : decode cX8_rests 62 = .ok (.iload_n 3, 1) := by decide +kernel
theorem dX8_rests_63 : decode cX8_rests 63 = .ok (.invokevirtual 178, 3) := by decide +kernel
theorem dX8_rests_66 : decode cX8_rests 66 = .ok (.iconst 0, 1) := by decide +kernel
theorem dX8_rests_67 : decode cX8_rests 67 = .ok (.istore 5, 2) := by decide +kernel
theorem dX8_rests_69 : decode cX8_rests 69 = .ok (.bipush (-9), 2) := by decide +kernel
theorem dX8_rests_71 : decode cX8_rests 71 = .ok (.istore 6, 2) := by decide +kernel
theorem dX8_rests_73 : decode cX8_rests 73 = .ok (.iconst 0, 1) := by decide +kernel
theorem dX8_rests_74 : decode cX8_rests 74 = .ok (.istore 7, 2) := by decide +kernel
theorem dX8_rests_76 : decode cX8_rests 76 = .ok (.iload 7, 2) := by decide +kernel
theorem dX8_rests_78 : decode cX8_rests 78 = .ok (.bipush 16, 2) := by decide +kernel
theorem dX8_rests_80 : decode cX8_rests 80 = .ok (.if_icmp .ge 45, 3) := by decide +kernel
theorem dX8_rests_83 : decode cX8_rests 83 = .ok (.aload_n 0, 1) := by decide +kernel
theorem dX8_rests_84 : decode cX8_rests 84 = .ok (.iload 7, 2) := by decide +kernel
theorem dX8_rests_86 : decode cX8_rests 86 = .ok (.invokevirtual 182, 3) := by decide +kernel
theorem dX8_rests_89 : decode cX8_rests 89 = .ok (.ifCond .eq 30, 3) := by decide +kernel
theorem dX8_rests_92 : decode cX8_rests 92 = .ok (.iload 5, 2) := by decide +kernel
theorem dX8_rests_94 : decode cX8_rests 94 = .ok (.ifCond .ne 18, 3) := by decide +kernel
theorem dX8_rests_97 : decode cX8_rests 97 = .ok (.bipush 10, 2) := by decide +kernel
theorem dX8_rests_99 : decode cX8_rests 99 = .ok (.iload 7, 2) := by decide +kernel
theorem dX8_rests_101 : decode cX8_rests 101 = .ok (.iconst 4, 1) := by decide +kernel
theorem dX8_rests_102 : decode cX8_rests 102 = .ok (.idiv, 1) := by decide +kernel
theorem dX8_rests_103 : decode cX8_rests 103 = .ok (.imul, 1) := by decide +kernel
theorem dX8_rests_104 : decode cX8_rests 104 = .ok (.iload 7, 2) := by decide +kernel
theorem dX8_rests_106 : decode cX8_rests 106 = .ok (.iconst 4, 1) := by decide +kernel
theorem dX8_rests_107 : decode cX8_rests 107 = .ok (.irem, 1) := by decide +kernel
theorem dX8_rests_108 : decode cX8_rests 108 = .ok (.iadd, 1) := by decide +kernel
theorem dX8_rests_109 : decode cX8_rests 109 = .ok (.goto 5, 3) := by decide +kernel
theorem dX8_rests_112 : decode cX8_rests 112 = .ok (.iload 6, 2) := by decide +kernel
theorem dX8_rests_114 : decode cX8_rests 114 = .ok (.istore 6, 2) := by decide +kernel
theorem dX8_rests_116 : decode cX8_rests 116 = .ok (.iinc 5 1, 3) := by decide +kernel
theorem dX8_rests_119 : decode cX8_rests 119 = .ok (.iinc 7 1, 3) := by decide +kernel
theorem dX8_rests_122 : decode cX8_rests 122 = .ok (.goto (-46), 3) := by decide +kernel
theorem dX8_rests_125 : decode cX8_rests 125 = .ok (.iload 4, 2) := by decide +kernel
theorem dX8_rests_127 : decode cX8_rests 127 = .ok (.ifCond .ne 8, 3) := by decide +kernel
theorem dX8_rests_130 : decode cX8_rests 130 = .ok (.iload 5, 2) := by decide +kernel
theorem dX8_rests_132 : decode cX8_rests 132 = .ok (.goto 5, 3) := by decide +kernel
theorem dX8_rests_135 : decode cX8_rests 135 = .ok (.iload 6, 2) := by decide +kernel
theorem dX8_rests_137 : decode cX8_rests 137 = .ok (.ireturn, 1) := by decide +kernel
theorem dX8_asleep_0 : decode cX8_asleep 0 = .ok (.aload_n 0, 1) := by decide +kernel
theorem dX8_asleep_1 : decode cX8_asleep 1 = .ok (.iload_n 1, 1) := by decide +kernel
theorem dX8_asleep_2 : decode cX8_asleep 2 = .ok (.invokevirtual 89, 3) := by decide +kernel
theorem dX8_asleep_5 : decode cX8_asleep 5 = .ok (.ifCond .ne 5, 3) := by decide +kernel
theorem dX8_asleep_8 : decode cX8_asleep 8 = .ok (.iconst (-1), 1) := by decide +kernel
theorem dX8_asleep_9 : decode cX8_asleep 9 = .ok (.ireturn, 1) := by decide +kernel
theorem dX8_asleep_10 : decode cX8_asleep 10 = .ok (.iload_n 2, 1) := by decide +kernel
theorem dX8_asleep_11 : decode cX8_asleep 11 = .ok (.i2l, 1) := by decide +kernel
theorem dX8_asleep_12 : decode cX8_asleep 12 = .ok (.lconst 0, 1) := by decide +kernel
theorem dX8_asleep_13 : decode cX8_asleep 13 = .ok (.aload_n 0, 1) := by decide +kernel
theorem dX8_asleep_14 : decode cX8_asleep 14 = .ok (.getfield 83, 3) := by decide +kernel
theorem dX8_asleep_17 : decode cX8_asleep 17 = .ok (.iconst 1, 1) := by decide +kernel
theorem dX8_asleep_18 : decode cX8_asleep 18 = .ok (.isub, 1) := by decide +kernel
theorem dX8_asleep_19 : decode cX8_asleep 19 = .ok (.i2l, 1) := by decide +kernel
theorem dX8_asleep_20 : decode cX8_asleep 20 = .ok (.invokestatic 56, 3) := by decide +kernel
theorem dX8_asleep_23 : decode cX8_asleep 23 = .ok (.ifCond .eq 15, 3) := by decide +kernel
theorem dX8_asleep_26 : decode cX8_asleep 26 = .ok (.iload_n 3, 1) := by decide +kernel
theorem dX8_asleep_27 : decode cX8_asleep 27 = .ok (.i2l, 1) := by decide +kernel
theorem dX8_asleep_28 : decode cX8_asleep 28 = .ok (.lconst 0, 1) := by decide +kernel
theorem dX8_asleep_29 : decode cX8_asleep 29 = .ok (.ldc2_w 185, 3) := by decide +kernel
theorem dX8_asleep_32 : decode cX8_asleep 32 = .ok (.invokestatic 56, 3) := by decide +kernel
theorem dX8_asleep_35 : decode cX8_asleep 35 = .ok (.ifCond .ne 6, 3) := by decide +kernel
theorem dX8_asleep_38 : decode cX8_asleep 38 = .ok (.bipush (-2), 2) := by decide +kernel
theorem dX8_asleep_40 : decode cX8_asleep 40 = .ok (.ireturn, 1) := by decide +kernel
theorem dX8_asleep_41 : decode cX8_asleep 41 = .ok (.iconst 0, 1) := by decide +kernel
theorem dX8_asleep_42 : decode cX8_asleep 42 = .ok (.istore 5, 2) := by decide +kernel
theorem dX8_asleep_44 : decode cX8_asleep 44 = .ok (.iconst 0, 1) := by decide +kernel
theorem dX8_asleep_45 : decode cX8_asleep 45 = .ok (.istore 6, 2) := by decide +kernel
theorem dX8_asleep_47 : decode cX8_asleep 47 = .ok (.aload_n 0, 1) := by decide +kernel
theorem dX8_asleep_48 : decode cX8_asleep 48 = .ok (.getfield 50, 3) := by decide +kernel
theorem dX8_asleep_51 : decode cX8_asleep 51 = .ok (.aload_n 0, 1) := by decide +kernel
theorem dX8_asleep_52 : decode cX8_asleep 52 = .ok (.getfield 16, 3) := by decide +kernel
theorem dX8_asleep_55 : decode cX8_asleep 55 = .ok (.bipush 53, 2) := by decide +kernel
theorem dX8_asleep_57 : decode cX8_asleep 57 = .ok (.iaload, 1) := by decide +kernel
theorem dX8_asleep_58 : decode cX8_asleep 58 = .ok (.isub, 1) := by decide +kernel
theorem dX8_asleep_59 : decode cX8_asleep 59 = .ok (.istore 7, 2) := by decide +kernel
theorem dX8_asleep_61 : decode cX8_asleep 61 = .ok (.iconst 0, 1) := by decide +kernel
theorem dX8_asleep_62 : decode cX8_asleep 62 = .ok (.istore 8, 2) := by decide +kernel
theorem dX8_asleep_64 : decode cX8_asleep 64 = .ok (.iload 8, 2) := by decide +kernel
theorem dX8_asleep_66 : decode cX8_asleep 66 = .ok (.iconst 1, 1) := by decide +kernel
theorem dX8_asleep_67 : decode cX8_asleep 67 = .ok (.iload 7, 2) := by decide +kernel
theorem dX8_asleep_69 : decode cX8_asleep 69 = .ok (.ishl, 1) := by decide +kernel
theorem dX8_asleep_70 : decode cX8_asleep 70 = .ok (.if_icmp .ge 137, 3) := by decide +kernel
theorem dX8_asleep_73 : decode cX8_asleep 73 = .ok (.iconst 1, 1) := by decide +kernel
theorem dX8_asleep_74 : decode cX8_asleep 74 = .ok (.istore 9, 2) := by decide +kernel
theorem dX8_asleep_76 : decode cX8_asleep 76 = .ok (.aload_n 0, 1) := by decide +kernel
theorem dX8_asleep_77 : decode cX8_asleep 77 = .ok (.invokevirtual 126, 3) := by decide +kernel
theorem dX8_asleep_80 : decode cX8_asleep 80 = .ok (.iconst 0, 1) := by decide +kernel
theorem dX8_asleep_81 : decode cX8_asleep 81 = .ok (.istore 10, 2) := by decide +kernel
theorem dX8_asleep_83 : decode cX8_asleep 83 = .ok (.iload 10, 2) := by decide +kernel
theorem dX8_asleep_85 : decode cX8_asleep 85 = .ok (.iload 7, 2) := by decide +kernel
theorem dX8_asleep_87 : decode cX8_asleep 87 = .ok (.if_icmp .ge 75, 3) := by decide +kernel
theorem dX8_asleep_90 : decode cX8_asleep 90 = .ok (.iload 9, 2) := by decide +kernel
theorem dX8_asleep_92 : decode cX8_asleep 92 = .ok (.iload 8, 2) := by decide +kernel
theorem dX8_asleep_94 : decode cX8_asleep 94 = .ok (.iload 10, 2) := by decide +kernel
theorem dX8_asleep_96 : decode cX8_asleep 96 = .ok (.invokestatic 139, 3) := by decide +kernel
theorem dX8_asleep_99 : decode cX8_asleep 99 = .ok (.ifCond .eq 7, 3) := by decide +kernel
theorem dX8_asleep_102 : decode cX8_asleep 102 = .ok (.iload_n 3, 1) := by decide +kernel
theorem dX8_asleep_103 : decode cX8_asleep 103 = .ok (.goto 7, 3) := by decide +kernel
theorem dX8_asleep_106 : decode cX8_asleep 106 = .ok (.bipush 10, 2) := by decide +kernel
theorem dX8_asleep_108 : decode cX8_asleep 108 = .ok (.iload_n 3, 1) := by decide +kernel
theorem dX8_asleep_109 : decode cX8_asleep 109 = .ok (.isub, 1) := by decide +kernel
theorem dX8_asleep_110 : decode cX8_asleep 110 = .ok (.imul, 1) := by decide +kernel
theorem dX8_asleep_111 : decode cX8_asleep 111 = .ok (.istore 9, 2) := by decide +kernel
theorem dX8_asleep_113 : decode cX8_asleep 113 = .ok (.bipush 66, 2) := by decide +kernel
theorem dX8_asleep_115 : decode cX8_asleep 115 = .ok (.aload_n 0, 1) := by decide +kernel
theorem dX8_asleep_116 : decode cX8_asleep 116 = .ok (.getfield 16, 3) := by decide +kernel
theorem dX8_asleep_119 : decode cX8_asleep 119 = .ok (.bipush 53, 2) := by decide +kernel
theorem dX8_asleep_121 : decode cX8_asleep 121 = .ok (.iaload, 1) := by decide +kernel
theorem dX8_asleep_122 : decode cX8_asleep 122 = .ok (.iadd, 1) := by decide +kernel
theorem dX8_asleep_123 : decode cX8_asleep 123 = .ok (.iload 10, 2) := by decide +kernel
theorem dX8_asleep_125 : decode cX8_asleep 125 = .ok (.iadd, 1) := by decide +kernel
theorem dX8_asleep_126 : decode cX8_asleep 126 = .ok (.istore 11, 2) := by decide +kernel
theorem dX8_asleep_128 : decode cX8_asleep 128 = .ok (.aload_n 0, 1) := by decide +kernel
theorem dX8_asleep_129 : decode cX8_asleep 129 = .ok (.getfield 16, 3) := by decide +kernel
theorem dX8_asleep_132 : decode cX8_asleep 132 = .ok (.iload 11, 2) := by decide +kernel
theorem dX8_asleep_134 : decode cX8_asleep 134 = .ok (.iload 8, 2) := by decide +kernel
theorem dX8_asleep_136 : decode cX8_asleep 136 = .ok (.iload 10, 2) := by decide +kernel
theorem dX8_asleep_138 : decode cX8_asleep 138 = .ok (.invokestatic 139, 3) := by decide +kernel
theorem dX8_asleep_141 : decode cX8_asleep 141 = .ok (.ifCond .eq 7, 3) := by decide +kernel
theorem dX8_asleep_144 : decode cX8_asleep 144 = .ok (.iconst 0, 1) := by decide +kernel
theorem dX8_asleep_145 : decode cX8_asleep 145 = .ok (.goto 10, 3) := by decide +kernel
theorem dX8_asleep_148 : decode cX8_asleep 148 = .ok (.aload_n 0, 1) := by decide +kernel
theorem dX8_asleep_149 : decode cX8_asleep 149 = .ok (.getfield 16, 3) := by decide +kernel
theorem dX8_asleep_152 : decode cX8_asleep 152 = .ok (.iload 11, 2) := by decide +kernel
theorem dX8_asleep_154 : decode cX8_asleep 154 = .ok (.iaload, 1) := by decide +kernel
theorem dX8_asleep_155 : decode cX8_asleep 155 = .ok (.iastore, 1) := by decide +kernel
theorem dX8_asleep_156 : decode cX8_asleep 156 = .ok (.iinc 10 1, 3) := by decide +kernel
theorem dX8_asleep_159 : decode cX8_asleep 159 = .ok (.goto (-76), 3) := by decide +kernel
theorem dX8_asleep_162 : decode cX8_asleep 162 = .ok (.aload_n 0, 1) := by decide +kernel
theorem dX8_asleep_163 : decode cX8_asleep 163 = .ok (.aload_n 0, 1) := by decide +kernel
theorem dX8_asleep_164 : decode cX8_asleep 164 = .ok (.getfield 83, 3) := by decide +kernel
theorem dX8_asleep_167 : decode cX8_asleep 167 = .ok (.invokevirtual 129, 3) := by decide +kernel
theorem dX8_asleep_170 : decode cX8_asleep 170 = .ok (.iload 6, 2) := by decide +kernel
theorem dX8_asleep_172 : decode cX8_asleep 172 = .ok (.iload 9, 2) := by decide +kernel
theorem dX8_asleep_174 : decode cX8_asleep 174 = .ok (.iadd, 1) := by decide +kernel
theorem dX8_asleep_175 : decode cX8_asleep 175 = .ok (.istore 6, 2) := by decide +kernel
theorem dX8_asleep_177 : decode cX8_asleep 177 = .ok (.iload 5, 2) := by decide +kernel
theorem dX8_asleep_179 : decode cX8_asleep 179 = .ok (.aload_n 0, 1) := by decide +kernel
theorem dX8_asleep_180 : decode cX8_asleep 180 = .ok (.getfield 16, 3) := by decide +kernel
theorem dX8_asleep_183 : decode cX8_asleep 183 = .ok (.bipush 54, 2) := by decide +kernel
theorem dX8_asleep_185 : decode cX8_asleep 185 = .ok (.iload_n 2, 1) := by decide +kernel
theorem dX8_asleep_186 : decode cX8_asleep 186 = .ok (.iadd, 1) := by decide +kernel
theorem dX8_asleep_187 : decode cX8_asleep 187 = .ok (.iaload, 1) := by decide +kernel
theorem dX8_asleep_188 : decode cX8_asleep 188 = .ok (.iload_n 1, 1) := by decide +kernel
theorem dX8_asleep_189 : decode cX8_asleep 189 = .ok (.if_icmp .ne 8, 3) := by decide +kernel
theorem dX8_asleep_192 : decode cX8_asleep 192 = .ok (.iload 9, 2) := by decide +kernel
theorem dX8_asleep_194 : decode cX8_asleep 194 = .ok (.goto 4, 3) := by decide +kernel
theorem dX8_asleep_197 : decode cX8_asleep 197 = .ok (.iconst 0, 1) := by decide +kernel
theorem dX8_asleep_198 : decode cX8_asleep 198 = .ok (.iadd, 1) := by decide +kernel
theorem dX8_asleep_199 : decode cX8_asleep 199 = .ok (.istore 5, 2) := by decide +kernel
theorem dX8_asleep_201 : decode cX8_asleep 201 = .ok (.iinc 8 1, 3) := by decide +kernel
theorem dX8_asleep_204 : decode cX8_asleep 204 = .ok (.goto (-140), 3) := by decide +kernel
theorem dX8_asleep_207 : decode cX8_asleep 207 = .ok (.iload 5, 2) := by decide +kernel
theorem dX8_asleep_209 : decode cX8_asleep 209 = .ok (.iload 6, 2) := by decide +kernel
theorem dX8_asleep_211 : decode cX8_asleep 211 = .ok (.invokestatic 166, 3) := by decide +kernel
theorem dX8_asleep_214 : decode cX8_asleep 214 = .ok (.istore 8, 2) := by decide +kernel
theorem dX8_asleep_216 : decode cX8_asleep 216 = .ok (.iload 4, 2) := by decide +kernel
theorem dX8_asleep_218 : decode cX8_asleep 218 = .ok (.ifCond .eq 11, 3) := by decide +kernel
theorem dX8_asleep_221 : decode cX8_asleep 221 = .ok (.iload 5, 2) := by decide +kernel
theorem dX8_asleep_223 : decode cX8_asleep 223 = .ok (.iload 8, 2) := by decide +kernel
theorem dX8_asleep_225 : decode cX8_asleep 225 = .ok (.idiv, 1) := by decide +kernel
theorem dX8_asleep_226 : decode cX8_asleep 226 = .ok (.goto 8, 3) := by decide +kernel
theorem dX8_asleep_229 : decode cX8_asleep 229 = .ok (.iload 6, 2) := by decide +kernel
theorem dX8_asleep_231 : decode cX8_asleep 231 = .ok (.iload 8, 2) := by decide +kernel
theorem dX8_asleep_233 : decode cX8_asleep 233 = .ok (.idiv, 1) := by decide +kernel
theorem dX8_asleep_234 : decode cX8_asleep 234 = .ok (.ireturn, 1) := by decide +kernel
theorem dX8_seed_0 : decode cX8_seed 0 = .ok (.aload_n 0, 1) := by decide +kernel
theorem dX8_seed_1 : decode cX8_seed 1 = .ok (.getfield 187, 3) := by decide +kernel
theorem dX8_seed_4 : decode cX8_seed 4 = .ok (.lstore_n 3, 1) := by decide +kernel
theorem dX8_seed_5 : decode cX8_seed 5 = .ok (.aload_n 0, 1) := by decide +kernel
theorem dX8_seed_6 : decode cX8_seed 6 = .ok (.lload_n 1, 1) := by decide +kernel
theorem dX8_seed_7 : decode cX8_seed 7 = .ok (.putfield 187, 3) := by decide +kernel
theorem dX8_seed_10 : decode cX8_seed 10 = .ok (.lload_n 3, 1) := by decide +kernel
theorem dX8_seed_11 : decode cX8_seed 11 = .ok (.lreturn, 1) := by decide +kernel
theorem dX8_days_0 : decode cX8_days 0 = .ok (.aload_n 0, 1) := by decide +kernel
theorem dX8_days_1 : decode cX8_days 1 = .ok (.iload_n 1, 1) := by decide +kernel
theorem dX8_days_2 : decode cX8_days 2 = .ok (.invokevirtual 89, 3) := by decide +kernel
theorem dX8_days_5 : decode cX8_days 5 = .ok (.ifCond .ne 5, 3) := by decide +kernel
theorem dX8_days_8 : decode cX8_days 8 = .ok (.iconst (-1), 1) := by decide +kernel
theorem dX8_days_9 : decode cX8_days 9 = .ok (.ireturn, 1) := by decide +kernel
theorem dX8_days_10 : decode cX8_days 10 = .ok (.iload_n 2, 1) := by decide +kernel
theorem dX8_days_11 : decode cX8_days 11 = .ok (.i2l, 1) := by decide +kernel
theorem dX8_days_12 : decode cX8_days 12 = .ok (.lconst 1, 1) := by decide +kernel
theorem dX8_days_13 : decode cX8_days 13 = .ok (.ldc2_w 191, 3) := by decide +kernel
theorem dX8_days_16 : decode cX8_days 16 = .ok (.invokestatic 56, 3) := by decide +kernel
theorem dX8_days_19 : decode cX8_days 19 = .ok (.ifCond .ne 6, 3) := by decide +kernel
theorem dX8_days_22 : decode cX8_days 22 = .ok (.bipush (-2), 2) := by decide +kernel
theorem dX8_days_24 : decode cX8_days 24 = .ok (.ireturn, 1) := by decide +kernel
theorem dX8_days_25 : decode cX8_days 25 = .ok (.iconst 0, 1) := by decide +kernel
theorem dX8_days_26 : decode cX8_days 26 = .ok (.istore_n 3, 1) := by decide +kernel
theorem dX8_days_27 : decode cX8_days 27 = .ok (.iconst 0, 1) := by decide +kernel
theorem dX8_days_28 : decode cX8_days 28 = .ok (.istore 4, 2) := by decide +kernel
theorem dX8_days_30 : decode cX8_days 30 = .ok (.iload 4, 2) := by decide +kernel
theorem dX8_days_32 : decode cX8_days 32 = .ok (.iload_n 2, 1) := by decide +kernel
theorem dX8_days_33 : decode cX8_days 33 = .ok (.if_icmp .ge 126, 3) := by decide +kernel
theorem dX8_days_36 : decode cX8_days 36 = .ok (.aload_n 0, 1) := by decide +kernel
theorem dX8_days_37 : decode cX8_days 37 = .ok (.aload_n 0, 1) := by decide +kernel
theorem dX8_days_38 : decode cX8_days 38 = .ok (.getfield 187, 3) := by decide +kernel
theorem dX8_days_41 : decode cX8_days 41 = .ok (.ldc2_w 193, 3) := by decide +kernel
theorem dX8_days_44 : decode cX8_days 44 = .ok (.lmul, 1) := by decide +kernel
theorem dX8_days_45 : decode cX8_days 45 = .ok (.ldc2_w 195, 3) := by decide +kernel
theorem dX8_days_48 : decode cX8_days 48 = .ok (.ladd, 1) := by decide +kernel
theorem dX8_days_49 : decode cX8_days 49 = .ok (.putfield 187, 3) := by decide +kernel
theorem dX8_days_52 : decode cX8_days 52 = .ok (.aload_n 0, 1) := by decide +kernel
theorem dX8_days_53 : decode cX8_days 53 = .ok (.getfield 187, 3) := by decide +kernel
theorem dX8_days_56 : decode cX8_days 56 = .ok (.bipush 33, 2) := by decide +kernel
theorem dX8_days_58 : decode cX8_days 58 = .ok (.lushr, 1) := by decide +kernel
theorem dX8_days_59 : decode cX8_days 59 = .ok (.ldc2_w 197, 3) := by decide +kernel
theorem dX8_days_62 : decode cX8_days 62 = .ok (.lrem, 1) := by decide +kernel
theorem dX8_days_63 : decode cX8_days 63 = .ok (.l2i, 1) := by decide +kernel
theorem dX8_days_64 : decode cX8_days 64 = .ok (.istore 5, 2) := by decide +kernel
theorem dX8_days_66 : decode cX8_days 66 = .ok (.aload_n 0, 1) := by decide +kernel
theorem dX8_days_67 : decode cX8_days 67 = .ok (.invokevirtual 126, 3) := by decide +kernel
theorem dX8_days_70 : decode cX8_days 70 = .ok (.iconst 0, 1) := by decide +kernel
theorem dX8_days_71 : decode cX8_days 71 = .ok (.istore 6, 2) := by decide +kernel
theorem dX8_days_73 : decode cX8_days 73 = .ok (.iload 6, 2) := by decide +kernel
theorem dX8_days_75 : decode cX8_days 75 = .ok (.bipush 6, 2) := by decide +kernel
theorem dX8_days_77 : decode cX8_days 77 = .ok (.aload_n 0, 1) := by decide +kernel
theorem dX8_days_78 : decode cX8_days 78 = .ok (.getfield 50, 3) := by decide +kernel
theorem dX8_days_81 : decode cX8_days 81 = .ok (.imul, 1) := by decide +kernel
theorem dX8_days_82 : decode cX8_days 82 = .ok (.if_icmp .ge 55, 3) := by decide +kernel
theorem dX8_days_85 : decode cX8_days 85 = .ok (.aload_n 0, 1) := by decide +kernel
theorem dX8_days_86 : decode cX8_days 86 = .ok (.getfield 16, 3) := by decide +kernel
theorem dX8_days_89 : decode cX8_days 89 = .ok (.bipush 77, 2) := by decide +kernel
theorem dX8_days_91 : decode cX8_days 91 = .ok (.iload 6, 2) := by decide +kernel
theorem dX8_days_93 : decode cX8_days 93 = .ok (.iadd, 1) := by decide +kernel
theorem dX8_days_94 : decode cX8_days 94 = .ok (.dup2, 1) := by decide +kernel
theorem dX8_days_95 : decode cX8_days 95 = .ok (.iaload, 1) := by decide +kernel
theorem dX8_days_96 : decode cX8_days 96 = .ok (.iload 6, 2) := by decide +kernel
theorem dX8_days_98 : decode cX8_days 98 = .ok (.bipush 6, 2) := by decide +kernel
theorem dX8_days_100 : decode cX8_days 100 = .ok (.idiv, 1) := by decide +kernel
theorem dX8_days_101 : decode cX8_days 101 = .ok (.aload_n 0, 1) := by decide +kernel
theorem dX8_days_102 : decode cX8_days 102 = .ok (.getfield 16, 3) := by decide +kernel
theorem dX8_days_105 : decode cX8_days 105 = .ok (.bipush 53, 2) := by decide +kernel
theorem dX8_days_107 : decode cX8_days 107 = .ok (.iaload, 1) := by decide +kernel
theorem dX8_days_108 : decode cX8_days 108 = .ok (.if_icmp .lt 20, 3) := by decide +kernel
theorem dX8_days_111 : decode cX8_days 111 = .ok (.iload 5, 2) := by decide +kernel
theorem dX8_days_113 : decode cX8_days 113 = .ok (.iload 6, 2) := by decide +kernel
theorem dX8_days_115 : decode cX8_days 115 = .ok (.bipush 6, 2) := by decide +kernel
theorem dX8_days_117 : decode cX8_days 117 = .ok (.irem, 1) := by decide +kernel
theorem dX8_days_118 : decode cX8_days 118 = .ok (.invokestatic 139, 3) := by decide +kernel
theorem dX8_days_121 : decode cX8_days 121 = .ok (.ifCond .eq 7, 3) := by decide +kernel
theorem dX8_days_124 : decode cX8_days 124 = .ok (.iconst 1, 1) := by decide +kernel
theorem dX8_days_125 : decode cX8_days 125 = .ok (.goto 4, 3) := by decide +kernel
theorem dX8_days_128 : decode cX8_days 128 = .ok (.iconst 0, 1) := by decide +kernel
theorem dX8_days_129 : decode cX8_days 129 = .ok (.iadd, 1) := by decide +kernel
theorem dX8_days_130 : decode cX8_days 130 = .ok (.iastore, 1) := by decide +kernel
theorem dX8_days_131 : decode cX8_days 131 = .ok (.iinc 6 1, 3) := by decide +kernel
theorem dX8_days_134 : decode cX8_days 134 = .ok (.goto (-61), 3) := by decide +kernel
theorem dX8_days_137 : decode cX8_days 137 = .ok (.iload_n 3, 1) := by decide +kernel
theorem dX8_days_138 : decode cX8_days 138 = .ok (.aload_n 0, 1) := by decide +kernel
theorem dX8_days_139 : decode cX8_days 139 = .ok (.iload_n 1, 1) := by decide +kernel
theorem dX8_days_140 : decode cX8_days 140 = .ok (.invokevirtual 199, 3) := by decide +kernel
theorem dX8_days_143 : decode cX8_days 143 = .ok (.ifCond .eq 7, 3) := by decide +kernel
theorem dX8_days_146 : decode cX8_days 146 = .ok (.iconst 1, 1) := by decide +kernel
theorem dX8_days_147 : decode cX8_days 147 = .ok (.goto 4, 3) := by decide +kernel
theorem dX8_days_150 : decode cX8_days 150 = .ok (.iconst 0, 1) := by decide +kernel
theorem dX8_days_151 : decode cX8_days 151 = .ok (.iadd, 1) := by decide +kernel
theorem dX8_days_152 : decode cX8_days 152 = .ok (.istore_n 3, 1) := by decide +kernel
theorem dX8_days_153 : decode cX8_days 153 = .ok (.iinc 4 1, 3) := by decide +kernel
theorem dX8_days_156 : decode cX8_days 156 = .ok (.goto (-126), 3) := by decide +kernel
theorem dX8_days_159 : decode cX8_days 159 = .ok (.iload_n 3, 1) := by decide +kernel
theorem dX8_days_160 : decode cX8_days 160 = .ok (.ireturn, 1) := by decide +kernel
theorem dX8_isFirst_0 : decode cX8_isFirst 0 = .ok (.aload_n 0, 1) := by decide +kernel
theorem dX8_isFirst_1 : decode cX8_isFirst 1 = .ok (.aload_n 0, 1) := by decide +kernel
theorem dX8_isFirst_2 : decode cX8_isFirst 2 = .ok (.getfield 83, 3) := by decide +kernel
theorem dX8_isFirst_5 : decode cX8_isFirst 5 = .ok (.invokevirtual 129, 3) := by decide +kernel
theorem dX8_isFirst_8 : decode cX8_isFirst 8 = .ok (.aload_n 0, 1) := by decide +kernel
theorem dX8_isFirst_9 : decode cX8_isFirst 9 = .ok (.getfield 16, 3) := by decide +kernel
theorem dX8_isFirst_12 : decode cX8_isFirst 12 = .ok (.bipush 54, 2) := by decide +kernel
theorem dX8_isFirst_14 : decode cX8_isFirst 14 = .ok (.iaload, 1) := by decide +kernel
theorem dX8_isFirst_15 : decode cX8_isFirst 15 = .ok (.iload_n 1, 1) := by decide +kernel
theorem dX8_isFirst_16 : decode cX8_isFirst 16 = .ok (.if_icmp .ne 7, 3) := by decide +kernel
theorem dX8_isFirst_19 : decode cX8_isFirst 19 = .ok (.iconst 1, 1) := by decide +kernel
theorem dX8_isFirst_20 : decode cX8_isFirst 20 = .ok (.goto 4, 3) := by decide +kernel
theorem dX8_isFirst_23 : decode cX8_isFirst 23 = .ok (.iconst 0, 1) := by decide +kernel
theorem dX8_isFirst_24 : decode cX8_isFirst 24 = .ok (.ireturn, 1) := by decide +kernel
theorem dX8_keep_0 : decode cX8_keep 0 = .ok (.iload_n 1, 1) := by decide +kernel
theorem dX8_keep_1 : decode cX8_keep 1 = .ok (.i2l, 1) := by decide +kernel
theorem dX8_keep_2 : decode cX8_keep 2 = .ok (.lconst 0, 1) := by decide +kernel
theorem dX8_keep_3 : decode cX8_keep 3 = .ok (.lconst 1, 1) := by decide +kernel
theorem dX8_keep_4 : decode cX8_keep 4 = .ok (.invokestatic 56, 3) := by decide +kernel
theorem dX8_keep_7 : decode cX8_keep 7 = .ok (.ifCond .ne 5, 3) := by decide +kernel
theorem dX8_keep_10 : decode cX8_keep 10 = .ok (.iconst (-1), 1) := by decide +kernel
theorem dX8_keep_11 : decode cX8_keep 11 = .ok (.ireturn, 1) := by decide +kernel
theorem dX8_keep_12 : decode cX8_keep 12 = .ok (.aload_n 0, 1) := by decide +kernel
theorem dX8_keep_13 : decode cX8_keep 13 = .ok (.getfield 43, 3) := by decide +kernel
theorem dX8_keep_16 : decode cX8_keep 16 = .ok (.iload_n 1, 1) := by decide +kernel
theorem dX8_keep_17 : decode cX8_keep 17 = .ok (.iconst 1, 1) := by decide +kernel
theorem dX8_keep_18 : decode cX8_keep 18 = .ok (.bastore, 1) := by decide +kernel
theorem dX8_keep_19 : decode cX8_keep 19 = .ok (.iconst 0, 1) := by decide +kernel
theorem dX8_keep_20 : decode cX8_keep 20 = .ok (.istore_n 2, 1) := by decide +kernel
theorem dX8_keep_21 : decode cX8_keep 21 = .ok (.iload_n 2, 1) := by decide +kernel
theorem dX8_keep_22 : decode cX8_keep 22 = .ok (.bipush 54, 2) := by decide +kernel
theorem dX8_keep_24 : decode cX8_keep 24 = .ok (.if_icmp .ge 26, 3) := by decide +kernel
theorem dX8_keep_27 : decode cX8_keep 27 = .ok (.aload_n 0, 1) := by decide +kernel
theorem dX8_keep_28 : decode cX8_keep 28 = .ok (.getfield 47, 3) := by decide +kernel
theorem dX8_keep_31 : decode cX8_keep 31 = .ok (.bipush 54, 2) := by decide +kernel
theorem dX8_keep_33 : decode cX8_keep 33 = .ok (.iload_n 1, 1) := by decide +kernel
theorem dX8_keep_34 : decode cX8_keep 34 = .ok (.imul, 1) := by decide +kernel
theorem dX8_keep_35 : decode cX8_keep 35 = .ok (.iload_n 2, 1) := by decide +kernel
theorem dX8_keep_36 : decode cX8_keep 36 = .ok (.iadd, 1) := by decide +kernel
theorem dX8_keep_37 : decode cX8_keep 37 = .ok (.aload_n 0, 1) := by decide +kernel
theorem dX8_keep_38 : decode cX8_keep 38 = .ok (.getfield 16, 3) := by decide +kernel
theorem dX8_keep_41 : decode cX8_keep 41 = .ok (.iload_n 2, 1) := by decide +kernel
theorem dX8_keep_42 : decode cX8_keep 42 = .ok (.iaload, 1) := by decide +kernel
theorem dX8_keep_43 : decode cX8_keep 43 = .ok (.iastore, 1) := by decide +kernel
theorem dX8_keep_44 : decode cX8_keep 44 = .ok (.iinc 2 1, 3) := by decide +kernel
theorem dX8_keep_47 : decode cX8_keep 47 = .ok (.goto (-26), 3) := by decide +kernel
theorem dX8_keep_50 : decode cX8_keep 50 = .ok (.aload_n 0, 1) := by decide +kernel
theorem dX8_keep_51 : decode cX8_keep 51 = .ok (.getfield 16, 3) := by decide +kernel
theorem dX8_keep_54 : decode cX8_keep 54 = .ok (.bipush 53, 2) := by decide +kernel
theorem dX8_keep_56 : decode cX8_keep 56 = .ok (.iaload, 1) := by decide +kernel
theorem dX8_keep_57 : decode cX8_keep 57 = .ok (.ireturn, 1) := by decide +kernel
theorem dX8_again_0 : decode cX8_again 0 = .ok (.iload_n 1, 1) := by decide +kernel
theorem dX8_again_1 : decode cX8_again 1 = .ok (.i2l, 1) := by decide +kernel
theorem dX8_again_2 : decode cX8_again 2 = .ok (.lconst 0, 1) := by decide +kernel
theorem dX8_again_3 : decode cX8_again 3 = .ok (.lconst 1, 1) := by decide +kernel
theorem dX8_again_4 : decode cX8_again 4 = .ok (.invokestatic 56, 3) := by decide +kernel
theorem dX8_again_7 : decode cX8_again 7 = .ok (.ifCond .ne 5, 3) := by decide +kernel
theorem dX8_again_10 : decode cX8_again 10 = .ok (.iconst (-1), 1) := by decide +kernel
theorem dX8_again_11 : decode cX8_again 11 = .ok (.ireturn, 1) := by decide +kernel
theorem dX8_again_12 : decode cX8_again 12 = .ok (.aload_n 0, 1) := by decide +kernel
theorem dX8_again_13 : decode cX8_again 13 = .ok (.getfield 43, 3) := by decide +kernel
theorem dX8_again_16 : decode cX8_again 16 = .ok (.iload_n 1, 1) := by decide +kernel
theorem dX8_again_17 : decode cX8_again 17 = .ok (.baload, 1) := by decide +kernel
theorem dX8_again_18 : decode cX8_again 18 = .ok (.ifCond .ne 6, 3) := by decide +kernel
theorem dX8_again_21 : decode cX8_again 21 = .ok (.bipush (-3), 2) := by decide +kernel
theorem dX8_again_23 : decode cX8_again 23 = .ok (.ireturn, 1) := by decide +kernel
theorem dX8_again_24 : decode cX8_again 24 = .ok (.iconst 0, 1) := by decide +kernel
theorem dX8_again_25 : decode cX8_again 25 = .ok (.istore_n 2, 1) := by decide +kernel
theorem dX8_again_26 : decode cX8_again 26 = .ok (.iload_n 2, 1) := by decide +kernel
theorem dX8_again_27 : decode cX8_again 27 = .ok (.bipush 54, 2) := by decide +kernel
theorem dX8_again_29 : decode cX8_again 29 = .ok (.if_icmp .ge 26, 3) := by decide +kernel
theorem dX8_again_32 : decode cX8_again 32 = .ok (.aload_n 0, 1) := by decide +kernel
theorem dX8_again_33 : decode cX8_again 33 = .ok (.getfield 16, 3) := by decide +kernel
theorem dX8_again_36 : decode cX8_again 36 = .ok (.iload_n 2, 1) := by decide +kernel
theorem dX8_again_37 : decode cX8_again 37 = .ok (.aload_n 0, 1) := by decide +kernel
theorem dX8_again_38 : decode cX8_again 38 = .ok (.getfield 47, 3) := by decide +kernel
theorem dX8_again_41 : decode cX8_again 41 = .ok (.bipush 54, 2) := by decide +kernel
theorem dX8_again_43 : decode cX8_again 43 = .ok (.iload_n 1, 1) := by decide +kernel
theorem dX8_again_44 : decode cX8_again 44 = .ok (.imul, 1) := by decide +kernel
theorem dX8_again_45 : decode cX8_again 45 = .ok (.iload_n 2, 1) := by decide +kernel
theorem dX8_again_46 : decode cX8_again 46 = .ok (.iadd, 1) := by decide +kernel
theorem dX8_again_47 : decode cX8_again 47 = .ok (.iaload, 1) := by decide +kernel
theorem dX8_again_48 : decode cX8_again 48 = .ok (.iastore, 1) := by decide +kernel
theorem dX8_again_49 : decode cX8_again 49 = .ok (.iinc 2 1, 3) := by decide +kernel
theorem dX8_again_52 : decode cX8_again 52 = .ok (.goto (-26), 3) := by decide +kernel
theorem dX8_again_55 : decode cX8_again 55 = .ok (.aload_n 0, 1) := by decide +kernel
theorem dX8_again_56 : decode cX8_again 56 = .ok (.iconst 0, 1) := by decide +kernel
theorem dX8_again_57 : decode cX8_again 57 = .ok (.putfield 86, 3) := by decide +kernel
theorem dX8_again_60 : decode cX8_again 60 = .ok (.aload_n 0, 1) := by decide +kernel
theorem dX8_again_61 : decode cX8_again 61 = .ok (.getfield 16, 3) := by decide +kernel
theorem dX8_again_64 : decode cX8_again 64 = .ok (.bipush 53, 2) := by decide +kernel
theorem dX8_again_66 : decode cX8_again 66 = .ok (.iaload, 1) := by decide +kernel
theorem dX8_again_67 : decode cX8_again 67 = .ok (.ireturn, 1) := by decide +kernel
theorem dX8_sumOf_0 : decode cX8_sumOf 0 = .ok (.iconst 0, 1) := by decide +kernel
theorem dX8_sumOf_1 : decode cX8_sumOf 1 = .ok (.istore_n 3, 1) := by decide +kernel
theorem dX8_sumOf_2 : decode cX8_sumOf 2 = .ok (.iconst 0, 1) := by decide +kernel
theorem dX8_sumOf_3 : decode cX8_sumOf 3 = .ok (.istore 4, 2) := by decide +kernel
theorem dX8_sumOf_5 : decode cX8_sumOf 5 = .ok (.iload 4, 2) := by decide +kernel
theorem dX8_sumOf_7 : decode cX8_sumOf 7 = .ok (.iload_n 2, 1) := by decide +kernel
theorem dX8_sumOf_8 : decode cX8_sumOf 8 = .ok (.if_icmp .ge 21, 3) := by decide +kernel
theorem dX8_sumOf_11 : decode cX8_sumOf 11 = .ok (.iload_n 3, 1) := by decide +kernel
theorem dX8_sumOf_12 : decode cX8_sumOf 12 = .ok (.aload_n 0, 1) := by decide +kernel
theorem dX8_sumOf_13 : decode cX8_sumOf 13 = .ok (.getfield 16, 3) := by decide +kernel
theorem dX8_sumOf_16 : decode cX8_sumOf 16 = .ok (.iload_n 1, 1) := by decide +kernel
theorem dX8_sumOf_17 : decode cX8_sumOf 17 = .ok (.iload 4, 2) := by decide +kernel
theorem dX8_sumOf_19 : decode cX8_sumOf 19 = .ok (.iadd, 1) := by decide +kernel
theorem dX8_sumOf_20 : decode cX8_sumOf 20 = .ok (.iaload, 1) := by decide +kernel
theorem dX8_sumOf_21 : decode cX8_sumOf 21 = .ok (.iadd, 1) := by decide +kernel
theorem dX8_sumOf_22 : decode cX8_sumOf 22 = .ok (.istore_n 3, 1) := by decide +kernel
theorem dX8_sumOf_23 : decode cX8_sumOf 23 = .ok (.iinc 4 1, 3) := by decide +kernel
theorem dX8_sumOf_26 : decode cX8_sumOf 26 = .ok (.goto (-21), 3) := by decide +kernel
theorem dX8_sumOf_29 : decode cX8_sumOf 29 = .ok (.iload_n 3, 1) := by decide +kernel
theorem dX8_sumOf_30 : decode cX8_sumOf 30 = .ok (.ireturn, 1) := by decide +kernel
theorem dX8_count_0 : decode cX8_count 0 = .ok (.aload_n 0, 1) := by decide +kernel
theorem dX8_count_1 : decode cX8_count 1 = .ok (.invokevirtual 133, 3) := by decide +kernel
theorem dX8_count_4 : decode cX8_count 4 = .ok (.iload_n 1, 1) := by decide +kernel
theorem dX8_count_5 : decode cX8_count 5 = .ok (.tableswitch 119 0 8 #[51, 56, 61, 66, 74, 84, 95, 104, 109], 51) := by decide +kernel
theorem dX8_count_56 : decode cX8_count 56 = .ok (.aload_n 0, 1) := by decide +kernel
theorem dX8_count_57 : decode cX8_count 57 = .ok (.getfield 60, 3) := by decide +kernel
theorem dX8_count_60 : decode cX8_count 60 = .ok (.ireturn, 1) := by decide +kernel
theorem dX8_count_61 : decode cX8_count 61 = .ok (.aload_n 0, 1) := by decide +kernel
theorem dX8_count_62 : decode cX8_count 62 = .ok (.getfield 50, 3) := by decide +kernel
theorem dX8_count_65 : decode cX8_count 65 = .ok (.ireturn, 1) := by decide +kernel
theorem dX8_count_66 : decode cX8_count 66 = .ok (.aload_n 0, 1) := by decide +kernel
theorem dX8_count_67 : decode cX8_count 67 = .ok (.getfield 83, 3) := by decide +kernel
theorem dX8_count_70 : decode cX8_count 70 = .ok (.ireturn, 1) := by decide +kernel
theorem dX8_count_71 : decode cX8_count 71 = .ok (.aload_n 0, 1) := by decide +kernel
theorem dX8_count_72 : decode cX8_count 72 = .ok (.getfield 16, 3) := by decide +kernel
theorem dX8_count_75 : decode cX8_count 75 = .ok (.bipush 53, 2) := by decide +kernel
theorem dX8_count_77 : decode cX8_count 77 = .ok (.iaload, 1) := by decide +kernel
theorem dX8_count_78 : decode cX8_count 78 = .ok (.ireturn, 1) := by decide +kernel
theorem dX8_count_79 : decode cX8_count 79 = .ok (.aload_n 0, 1) := by decide +kernel
theorem dX8_count_80 : decode cX8_count 80 = .ok (.iconst 0, 1) := by decide +kernel
theorem dX8_count_81 : decode cX8_count 81 = .ok (.aload_n 0, 1) := by decide +kernel
theorem dX8_count_82 : decode cX8_count 82 = .ok (.getfield 83, 3) := by decide +kernel
theorem dX8_count_85 : decode cX8_count 85 = .ok (.invokevirtual 121, 3) := by decide +kernel
theorem dX8_count_88 : decode cX8_count 88 = .ok (.ireturn, 1) := by decide +kernel
theorem dX8_count_89 : decode cX8_count 89 = .ok (.aload_n 0, 1) := by decide +kernel
theorem dX8_count_90 : decode cX8_count 90 = .ok (.bipush 17, 2) := by decide +kernel
theorem dX8_count_92 : decode cX8_count 92 = .ok (.aload_n 0, 1) := by decide +kernel
theorem dX8_count_93 : decode cX8_count 93 = .ok (.getfield 83, 3) := by decide +kernel
theorem dX8_count_96 : decode cX8_count 96 = .ok (.invokevirtual 202, 3) := by decide +kernel
theorem dX8_count_99 : decode cX8_count 99 = .ok (.ireturn, 1) := by decide +kernel
theorem dX8_count_100 : decode cX8_count 100 = .ok (.aload_n 0, 1) := by decide +kernel
theorem dX8_count_101 : decode cX8_count 101 = .ok (.bipush 23, 2) := by decide +kernel
theorem dX8_count_103 : decode cX8_count 103 = .ok (.bipush 30, 2) := by decide +kernel
theorem dX8_count_105 : decode cX8_count 105 = .ok (.invokevirtual 202, 3) := by decide +kernel
theorem dX8_count_108 : decode cX8_count 108 = .ok (.ireturn, 1) := by decide +kernel
theorem dX8_count_109 : decode cX8_count 109 = .ok (.aload_n 0, 1) := by decide +kernel
theorem dX8_count_110 : decode cX8_count 110 = .ok (.getfield 86, 3) := by decide +kernel
theorem dX8_count_113 : decode cX8_count 113 = .ok (.ireturn, 1) := by decide +kernel
theorem dX8_count_114 : decode cX8_count 114 = .ok (.aload_n 0, 1) := by decide +kernel
theorem dX8_count_115 : decode cX8_count 115 = .ok (.iconst 1, 1) := by decide +kernel
theorem dX8_count_116 : decode cX8_count 116 = .ok (.aload_n 0, 1) := by decide +kernel
theorem dX8_count_117 : decode cX8_count 117 = .ok (.getfield 83, 3) := by decide +kernel
theorem dX8_count_120 : decode cX8_count 120 = .ok (.invokevirtual 157, 3) := by decide +kernel
theorem dX8_count_123 : decode cX8_count 123 = .ok (.ireturn, 1) := by decide +kernel
theorem dX8_count_124 : decode cX8_count 124 = .ok (.bipush (-2), 2) := by decide +kernel
theorem dX8_count_126 : decode cX8_count 126 = .ok (.ireturn, 1) := by decide +kernel
end
section
theorem dL_law_0 : decode cL_law 0 = .ok (.new 7, 3) := by decide +kernel
theorem dL_law_3 : decode cL_law 3 = .ok (.dup, 1) := by decide +kernel
theorem dL_law_4 : decode cL_law 4 = .ok (.invokespecial 9, 3) := by decide +kernel
theorem dL_law_7 : decode cL_law 7 = .ok (.astore_n 1, 1) := by decide +kernel
theorem dL_law_8 : decode cL_law 8 = .ok (.new 10, 3) := by decide +kernel
theorem dL_law_11 : decode cL_law 11 = .ok (.dup, 1) := by decide +kernel
theorem dL_law_12 : decode cL_law 12 = .ok (.invokespecial 12, 3) := by decide +kernel
theorem dL_law_15 : decode cL_law 15 = .ok (.astore_n 2, 1) := by decide +kernel
theorem dL_law_16 : decode cL_law 16 = .ok (.iconst 0, 1) := by decide +kernel
theorem dL_law_17 : decode cL_law 17 = .ok (.istore_n 3, 1) := by decide +kernel
theorem dL_law_18 : decode cL_law 18 = .ok (.iload_n 3, 1) := by decide +kernel
theorem dL_law_19 : decode cL_law 19 = .ok (.aload_n 0, 1) := by decide +kernel
theorem dL_law_20 : decode cL_law 20 = .ok (.arraylength, 1) := by decide +kernel
theorem dL_law_21 : decode cL_law 21 = .ok (.iconst 5, 1) := by decide +kernel
theorem dL_law_22 : decode cL_law 22 = .ok (.isub, 1) := by decide +kernel
theorem dL_law_23 : decode cL_law 23 = .ok (.if_icmp .gt 959, 3) := by decide +kernel
theorem dL_law_26 : decode cL_law 26 = .ok (.aload_n 0, 1) := by decide +kernel
theorem dL_law_27 : decode cL_law 27 = .ok (.iload_n 3, 1) := by decide +kernel
theorem dL_law_28 : decode cL_law 28 = .ok (.iaload, 1) := by decide +kernel
theorem dL_law_29 : decode cL_law 29 = .ok (.bipush 31, 2) := by decide +kernel
theorem dL_law_31 : decode cL_law 31 = .ok (.iand, 1) := by decide +kernel
theorem dL_law_32 : decode cL_law 32 = .ok (.tableswitch 944 0 26 #[124, 147, 160, 173, 186, 219, 252, 265, 298, 321, 354, 367, 380, 403, 426, 449, 482, 541, 574, 623, 666, 719, 788, 842, 875, 898, 921], 124) := by decide +kernel
theorem dL_law_156 : decode cL_law 156 = .ok (.aload_n 1, 1) := by decide +kernel
theorem dL_law_157 : decode cL_law 157 = .ok (.aload_n 0, 1) := by decide +kernel
theorem dL_law_158 : decode cL_law 158 = .ok (.iload_n 3, 1) := by decide +kernel
theorem dL_law_159 : decode cL_law 159 = .ok (.iconst 1, 1) := by decide +kernel
theorem dL_law_160 : decode cL_law 160 = .ok (.iadd, 1) := by decide +kernel
theorem dL_law_161 : decode cL_law 161 = .ok (.iaload, 1) := by decide +kernel
theorem dL_law_162 : decode cL_law 162 = .ok (.invokevirtual 13, 3) := by decide +kernel
theorem dL_law_165 : decode cL_law 165 = .ok (.aload_n 2, 1) := by decide +kernel
theorem dL_law_166 : decode cL_law 166 = .ok (.aload_n 0, 1) := by decide +kernel
theorem dL_law_167 : decode cL_law 167 = .ok (.iload_n 3, 1) := by decide +kernel
theorem dL_law_168 : decode cL_law 168 = .ok (.iconst 1, 1) := by decide +kernel
theorem dL_law_169 : decode cL_law 169 = .ok (.iadd, 1) := by decide +kernel
theorem dL_law_170 : decode cL_law 170 = .ok (.iaload, 1) := by decide +kernel
theorem dL_law_171 : decode cL_law 171 = .ok (.invokevirtual 17, 3) := by decide +kernel
theorem dL_law_174 : decode cL_law 174 = .ok (.if_icmp .eq 802, 3) := by decide +kernel
theorem dL_law_177 : decode cL_law 177 = .ok (.iconst 0, 1) := by decide +kernel
theorem dL_law_178 : decode cL_law 178 = .ok (.ireturn, 1) := by decide +kernel
theorem dL_law_179 : decode cL_law 179 = .ok (.aload_n 1, 1) := by decide +kernel
theorem dL_law_180 : decode cL_law 180 = .ok (.invokevirtual 18, 3) := by decide +kernel
theorem dL_law_183 : decode cL_law 183 = .ok (.aload_n 2, 1) := by decide +kernel
theorem dL_law_184 : decode cL_law 184 = .ok (.invokevirtual 22, 3) := by decide +kernel
theorem dL_law_187 : decode cL_law 187 = .ok (.if_icmp .eq 789, 3) := by decide +kernel
theorem dL_law_190 : decode cL_law 190 = .ok (.iconst 0, 1) := by decide +kernel
theorem dL_law_191 : decode cL_law 191 = .ok (.ireturn, 1) := by decide +kernel
theorem dL_law_192 : decode cL_law 192 = .ok (.aload_n 1, 1) := by decide +kernel
theorem dL_law_193 : decode cL_law 193 = .ok (.invokevirtual 23, 3) := by decide +kernel
theorem dL_law_196 : decode cL_law 196 = .ok (.aload_n 2, 1) := by decide +kernel
theorem dL_law_197 : decode cL_law 197 = .ok (.invokevirtual 26, 3) := by decide +kernel
theorem dL_law_200 : decode cL_law 200 = .ok (.if_icmp .eq 776, 3) := by decide +kernel
theorem dL_law_203 : decode cL_law 203 = .ok (.iconst 0, 1) := by decide +kernel
theorem dL_law_204 : decode cL_law 204 = .ok (.ireturn, 1) := by decide +kernel
theorem dL_law_205 : decode cL_law 205 = .ok (.aload_n 1, 1) := by decide +kernel
theorem dL_law_206 : decode cL_law 206 = .ok (.invokevirtual 27, 3) := by decide +kernel
theorem dL_law_209 : decode cL_law 209 = .ok (.aload_n 2, 1) := by decide +kernel
theorem dL_law_210 : decode cL_law 210 = .ok (.invokevirtual 30, 3) := by decide +kernel
theorem dL_law_213 : decode cL_law 213 = .ok (.if_icmp .eq 763, 3) := by decide +kernel
theorem dL_law_216 : decode cL_law 216 = .ok (.iconst 0, 1) := by decide +kernel
theorem dL_law_217 : decode cL_law 217 = .ok (.ireturn, 1) := by decide +kernel
theorem dL_law_218 : decode cL_law 218 = .ok (.aload_n 1, 1) := by decide +kernel
theorem dL_law_219 : decode cL_law 219 = .ok (.aload_n 0, 1) := by decide +kernel
theorem dL_law_220 : decode cL_law 220 = .ok (.iload_n 3, 1) := by decide +kernel
theorem dL_law_221 : decode cL_law 221 = .ok (.iconst 1, 1) := by decide +kernel
theorem dL_law_222 : decode cL_law 222 = .ok (.iadd, 1) := by decide +kernel
theorem dL_law_223 : decode cL_law 223 = .ok (.iaload, 1) := by decide +kernel
theorem dL_law_224 : decode cL_law 224 = .ok (.aload_n 0, 1) := by decide +kernel
theorem dL_law_225 : decode cL_law 225 = .ok (.iload_n 3, 1) := by decide +kernel
theorem dL_law_226 : decode cL_law 226 = .ok (.iconst 2, 1) := by decide +kernel
theorem dL_law_227 : decode cL_law 227 = .ok (.iadd, 1) := by decide +kernel
theorem dL_law_228 : decode cL_law 228 = .ok (.iaload, 1) := by decide +kernel
theorem dL_law_229 : decode cL_law 229 = .ok (.invokevirtual 31, 3) := by decide +kernel
theorem dL_law_232 : decode cL_law 232 = .ok (.aload_n 2, 1) := by decide +kernel
theorem dL_law_233 : decode cL_law 233 = .ok (.aload_n 0, 1) := by decide +kernel
theorem dL_law_234 : decode cL_law 234 = .ok (.iload_n 3, 1) := by decide +kernel
theorem dL_law_235 : decode cL_law 235 = .ok (.iconst 1, 1) := by decide +kernel
theorem dL_law_236 : decode cL_law 236 = .ok (.iadd, 1) := by decide +kernel
theorem dL_law_237 : decode cL_law 237 = .ok (.iaload, 1) := by decide +kernel
theorem dL_law_238 : decode cL_law 238 = .ok (.aload_n 0, 1) := by decide +kernel
theorem dL_law_239 : decode cL_law 239 = .ok (.iload_n 3, 1) := by decide +kernel
theorem dL_law_240 : decode cL_law 240 = .ok (.iconst 2, 1) := by decide +kernel
theorem dL_law_241 : decode cL_law 241 = .ok (.iadd, 1) := by decide +kernel
theorem dL_law_242 : decode cL_law 242 = .ok (.iaload, 1) := by decide +kernel
theorem dL_law_243 : decode cL_law 243 = .ok (.invokevirtual 35, 3) := by decide +kernel
theorem dL_law_246 : decode cL_law 246 = .ok (.if_icmp .eq 730, 3) := by decide +kernel
theorem dL_law_249 : decode cL_law 249 = .ok (.iconst 0, 1) := by decide +kernel
theorem dL_law_250 : decode cL_law 250 = .ok (.ireturn, 1) := by decide +kernel
theorem dL_law_251 : decode cL_law 251 = .ok (.aload_n 1, 1) := by decide +kernel
theorem dL_law_252 : decode cL_law 252 = .ok (.aload_n 0, 1) := by decide +kernel
theorem dL_law_253 : decode cL_law 253 = .ok (.iload_n 3, 1) := by decide +kernel
theorem dL_law_254 : decode cL_law 254 = .ok (.iconst 1, 1) := by decide +kernel
theorem dL_law_255 : decode cL_law 255 = .ok (.iadd, 1) := by decide +kernel
theorem dL_law_256 : decode cL_law 256 = .ok (.iaload, 1) := by decide +kernel
theorem dL_law_257 : decode cL_law 257 = .ok (.aload_n 0, 1) := by decide +kernel
theorem dL_law_258 : decode cL_law 258 = .ok (.iload_n 3, 1) := by decide +kernel
theorem dL_law_259 : decode cL_law 259 = .ok (.iconst 2, 1) := by decide +kernel
theorem dL_law_260 : decode cL_law 260 = .ok (.iadd, 1) := by decide +kernel
theorem dL_law_261 : decode cL_law 261 = .ok (.iaload, 1) := by decide +kernel
theorem dL_law_262 : decode cL_law 262 = .ok (.invokevirtual 36, 3) := by decide +kernel
theorem dL_law_265 : decode cL_law 265 = .ok (.aload_n 2, 1) := by decide +kernel
theorem dL_law_266 : decode cL_law 266 = .ok (.aload_n 0, 1) := by decide +kernel
theorem dL_law_267 : decode cL_law 267 = .ok (.iload_n 3, 1) := by decide +kernel
theorem dL_law_268 : decode cL_law 268 = .ok (.iconst 1, 1) := by decide +kernel
theorem dL_law_269 : decode cL_law 269 = .ok (.iadd, 1) := by decide +kernel
theorem dL_law_270 : decode cL_law 270 = .ok (.iaload, 1) := by decide +kernel
theorem dL_law_271 : decode cL_law 271 = .ok (.aload_n 0, 1) := by decide +kernel
theorem dL_law_272 : decode cL_law 272 = .ok (.iload_n 3, 1) := by decide +kernel
theorem dL_law_273 : decode cL_law 273 = .ok (.iconst 2, 1) := by decide +kernel
theorem dL_law_274 : decode cL_law 274 = .ok (.iadd, 1) := by decide +kernel
theorem dL_law_275 : decode cL_law 275 = .ok (.iaload, 1) := by decide +kernel
theorem dL_law_276 : decode cL_law 276 = .ok (.invokevirtual 39, 3) := by decide +kernel
theorem dL_law_279 : decode cL_law 279 = .ok (.if_icmp .eq 697, 3) := by decide +kernel
theorem dL_law_282 : decode cL_law 282 = .ok (.iconst 0, 1) := by decide +kernel
theorem dL_law_283 : decode cL_law 283 = .ok (.ireturn, 1) := by decide +kernel
theorem dL_law_284 : decode cL_law 284 = .ok (.aload_n 1, 1) := by decide +kernel
theorem dL_law_285 : decode cL_law 285 = .ok (.invokevirtual 40, 3) := by decide +kernel
theorem dL_law_288 : decode cL_law 288 = .ok (.aload_n 2, 1) := by decide +kernel
theorem dL_law_289 : decode cL_law 289 = .ok (.invokevirtual 43, 3) := by decide +kernel
theorem dL_law_292 : decode cL_law 292 = .ok (.if_icmp .eq 684, 3) := by decide +kernel
theorem dL_law_295 : decode cL_law 295 = .ok (.iconst 0, 1) := by decide +kernel
theorem dL_law_296 : decode cL_law 296 = .ok (.ireturn, 1) := by decide +kernel
theorem dL_law_297 : decode cL_law 297 = .ok (.aload_n 1, 1) := by decide +kernel
theorem dL_law_298 : decode cL_law 298 = .ok (.aload_n 0, 1) := by decide +kernel
theorem dL_law_299 : decode cL_law 299 = .ok (.iload_n 3, 1) := by decide +kernel
theorem dL_law_300 : decode cL_law 300 = .ok (.iconst 1, 1) := by decide +kernel
theorem dL_law_301 : decode cL_law 301 = .ok (.iadd, 1) := by decide +kernel
theorem dL_law_302 : decode cL_law 302 = .ok (.iaload, 1) := by decide +kernel
theorem dL_law_303 : decode cL_law 303 = .ok (.aload_n 0, 1) := by decide +kernel
theorem dL_law_304 : decode cL_law 304 = .ok (.iload_n 3, 1) := by decide +kernel
theorem dL_law_305 : decode cL_law 305 = .ok (.iconst 2, 1) := by decide +kernel
theorem dL_law_306 : decode cL_law 306 = .ok (.iadd, 1) := by decide +kernel
theorem dL_law_307 : decode cL_law 307 = .ok (.iaload, 1) := by decide +kernel
theorem dL_law_308 : decode cL_law 308 = .ok (.invokevirtual 44, 3) := by decide +kernel
theorem dL_law_311 : decode cL_law 311 = .ok (.aload_n 2, 1) := by decide +kernel
theorem dL_law_312 : decode cL_law 312 = .ok (.aload_n 0, 1) := by decide +kernel
theorem dL_law_313 : decode cL_law 313 = .ok (.iload_n 3, 1) := by decide +kernel
theorem dL_law_314 : decode cL_law 314 = .ok (.iconst 1, 1) := by decide +kernel
theorem dL_law_315 : decode cL_law 315 = .ok (.iadd, 1) := by decide +kernel
theorem dL_law_316 : decode cL_law 316 = .ok (.iaload, 1) := by decide +kernel
theorem dL_law_317 : decode cL_law 317 = .ok (.aload_n 0, 1) := by decide +kernel
theorem dL_law_318 : decode cL_law 318 = .ok (.iload_n 3, 1) := by decide +kernel
theorem dL_law_319 : decode cL_law 319 = .ok (.iconst 2, 1) := by decide +kernel
theorem dL_law_320 : decode cL_law 320 = .ok (.iadd, 1) := by decide +kernel
theorem dL_law_321 : decode cL_law 321 = .ok (.iaload, 1) := by decide +kernel
theorem dL_law_322 : decode cL_law 322 = .ok (.invokevirtual 47, 3) := by decide +kernel
theorem dL_law_325 : decode cL_law 325 = .ok (.if_icmp .eq 651, 3) := by decide +kernel
theorem dL_law_328 : decode cL_law 328 = .ok (.iconst 0, 1) := by decide +kernel
theorem dL_law_329 : decode cL_law 329 = .ok (.ireturn, 1) := by decide +kernel
theorem dL_law_330 : decode cL_law 330 = .ok (.aload_n 1, 1) := by decide +kernel
theorem dL_law_331 : decode cL_law 331 = .ok (.aload_n 0, 1) := by decide +kernel
theorem dL_law_332 : decode cL_law 332 = .ok (.iload_n 3, 1) := by decide +kernel
theorem dL_law_333 : decode cL_law 333 = .ok (.iconst 1, 1) := by decide +kernel
theorem dL_law_334 : decode cL_law 334 = .ok (.iadd, 1) := by decide +kernel
theorem dL_law_335 : decode cL_law 335 = .ok (.iaload, 1) := by decide +kernel
theorem dL_law_336 : decode cL_law 336 = .ok (.invokevirtual 48, 3) := by decide +kernel
theorem dL_law_339 : decode cL_law 339 = .ok (.aload_n 2, 1) := by decide +kernel
theorem dL_law_340 : decode cL_law 340 = .ok (.aload_n 0, 1) := by decide +kernel
theorem dL_law_341 : decode cL_law 341 = .ok (.iload_n 3, 1) := by decide +kernel
theorem dL_law_342 : decode cL_law 342 = .ok (.iconst 1, 1) := by decide +kernel
theorem dL_law_343 : decode cL_law 343 = .ok (.iadd, 1) := by decide +kernel
theorem dL_law_344 : decode cL_law 344 = .ok (.iaload, 1) := by decide +kernel
theorem dL_law_345 : decode cL_law 345 = .ok (.invokevirtual 51, 3) := by decide +kernel
theorem dL_law_348 : decode cL_law 348 = .ok (.if_icmp .eq 628, 3) := by decide +kernel
theorem dL_law_351 : decode cL_law 351 = .ok (.iconst 0, 1) := by decide +kernel
theorem dL_law_352 : decode cL_law 352 = .ok (.ireturn, 1) := by decide +kernel
theorem dL_law_353 : decode cL_law 353 = .ok (.aload_n 1, 1) := by decide +kernel
theorem dL_law_354 : decode cL_law 354 = .ok (.aload_n 0, 1) := by decide +kernel
theorem dL_law_355 : decode cL_law 355 = .ok (.iload_n 3, 1) := by decide +kernel
theorem dL_law_356 : decode cL_law 356 = .ok (.iconst 1, 1) := by decide +kernel
theorem dL_law_357 : decode cL_law 357 = .ok (.iadd, 1) := by decide +kernel
theorem dL_law_358 : decode cL_law 358 = .ok (.iaload, 1) := by decide +kernel
theorem dL_law_359 : decode cL_law 359 = .ok (.aload_n 0, 1) := by decide +kernel
theorem dL_law_360 : decode cL_law 360 = .ok (.iload_n 3, 1) := by decide +kernel
theorem dL_law_361 : decode cL_law 361 = .ok (.iconst 2, 1) := by decide +kernel
theorem dL_law_362 : decode cL_law 362 = .ok (.iadd, 1) := by decide +kernel
theorem dL_law_363 : decode cL_law 363 = .ok (.iaload, 1) := by decide +kernel
theorem dL_law_364 : decode cL_law 364 = .ok (.invokevirtual 52, 3) := by decide +kernel
theorem dL_law_367 : decode cL_law 367 = .ok (.aload_n 2, 1) := by decide +kernel
theorem dL_law_368 : decode cL_law 368 = .ok (.aload_n 0, 1) := by decide +kernel
theorem dL_law_369 : decode cL_law 369 = .ok (.iload_n 3, 1) := by decide +kernel
theorem dL_law_370 : decode cL_law 370 = .ok (.iconst 1, 1) := by decide +kernel
theorem dL_law_371 : decode cL_law 371 = .ok (.iadd, 1) := by decide +kernel
theorem dL_law_372 : decode cL_law 372 = .ok (.iaload, 1) := by decide +kernel
theorem dL_law_373 : decode cL_law 373 = .ok (.aload_n 0, 1) := by decide +kernel
theorem dL_law_374 : decode cL_law 374 = .ok (.iload_n 3, 1) := by decide +kernel
theorem dL_law_375 : decode cL_law 375 = .ok (.iconst 2, 1) := by decide +kernel
theorem dL_law_376 : decode cL_law 376 = .ok (.iadd, 1) := by decide +kernel
theorem dL_law_377 : decode cL_law 377 = .ok (.iaload, 1) := by decide +kernel
theorem dL_law_378 : decode cL_law 378 = .ok (.invokevirtual 55, 3) := by decide +kernel
theorem dL_law_381 : decode cL_law 381 = .ok (.if_icmp .eq 595, 3) := by decide +kernel
theorem dL_law_384 : decode cL_law 384 = .ok (.iconst 0, 1) := by decide +kernel
theorem dL_law_385 : decode cL_law 385 = .ok (.ireturn, 1) := by decide +kernel
theorem dL_law_386 : decode cL_law 386 = .ok (.aload_n 1, 1) := by decide +kernel
theorem dL_law_387 : decode cL_law 387 = .ok (.invokevirtual 56, 3) := by decide +kernel
theorem dL_law_390 : decode cL_law 390 = .ok (.aload_n 2, 1) := by decide +kernel
theorem dL_law_391 : decode cL_law 391 = .ok (.invokevirtual 59, 3) := by decide +kernel
theorem dL_law_394 : decode cL_law 394 = .ok (.if_icmp .eq 582, 3) := by decide +kernel
theorem dL_law_397 : decode cL_law 397 = .ok (.iconst 0, 1) := by decide +kernel
theorem dL_law_398 : decode cL_law 398 = .ok (.ireturn, 1) := by decide +kernel
theorem dL_law_399 : decode cL_law 399 = .ok (.aload_n 1, 1) := by decide +kernel
theorem dL_law_400 : decode cL_law 400 = .ok (.invokevirtual 60, 3) := by decide +kernel
theorem dL_law_403 : decode cL_law 403 = .ok (.aload_n 2, 1) := by decide +kernel
theorem dL_law_404 : decode cL_law 404 = .ok (.invokevirtual 63, 3) := by decide +kernel
theorem dL_law_407 : decode cL_law 407 = .ok (.if_icmp .eq 569, 3) := by decide +kernel
theorem dL_law_410 : decode cL_law 410 = .ok (.iconst 0, 1) := by decide +kernel
theorem dL_law_411 : decode cL_law 411 = .ok (.ireturn, 1) := by decide +kernel
theorem dL_law_412 : decode cL_law 412 = .ok (.aload_n 1, 1) := by decide +kernel
theorem dL_law_413 : decode cL_law 413 = .ok (.aload_n 0, 1) := by decide +kernel
theorem dL_law_414 : decode cL_law 414 = .ok (.iload_n 3, 1) := by decide +kernel
theorem dL_law_415 : decode cL_law 415 = .ok (.iconst 1, 1) := by decide +kernel
theorem dL_law_416 : decode cL_law 416 = .ok (.iadd, 1) := by decide +kernel
theorem dL_law_417 : decode cL_law 417 = .ok (.iaload, 1) := by decide +kernel
theorem dL_law_418 : decode cL_law 418 = .ok (.invokevirtual 64, 3) := by decide +kernel
theorem dL_law_421 : decode cL_law 421 = .ok (.aload_n 2, 1) := by decide +kernel
theorem dL_law_422 : decode cL_law 422 = .ok (.aload_n 0, 1) := by decide +kernel
theorem dL_law_423 : decode cL_law 423 = .ok (.iload_n 3, 1) := by decide +kernel
theorem dL_law_424 : decode cL_law 424 = .ok (.iconst 1, 1) := by decide +kernel
theorem dL_law_425 : decode cL_law 425 = .ok (.iadd, 1) := by decide +kernel
theorem dL_law_426 : decode cL_law 426 = .ok (.iaload, 1) := by decide +kernel
theorem dL_law_427 : decode cL_law 427 = .ok (.invokevirtual 67, 3) := by decide +kernel
theorem dL_law_430 : decode cL_law 430 = .ok (.if_icmp .eq 546, 3) := by decide +kernel
theorem dL_law_433 : decode cL_law 433 = .ok (.iconst 0, 1) := by decide +kernel
theorem dL_law_434 : decode cL_law 434 = .ok (.ireturn, 1) := by decide +kernel
theorem dL_law_435 : decode cL_law 435 = .ok (.aload_n 1, 1) := by decide +kernel
theorem dL_law_436 : decode cL_law 436 = .ok (.aload_n 0, 1) := by decide +kernel
theorem dL_law_437 : decode cL_law 437 = .ok (.iload_n 3, 1) := by decide +kernel
theorem dL_law_438 : decode cL_law 438 = .ok (.iconst 1, 1) := by decide +kernel
theorem dL_law_439 : decode cL_law 439 = .ok (.iadd, 1) := by decide +kernel
theorem dL_law_440 : decode cL_law 440 = .ok (.iaload, 1) := by decide +kernel
theorem dL_law_441 : decode cL_law 441 = .ok (.invokevirtual 68, 3) := by decide +kernel
theorem dL_law_444 : decode cL_law 444 = .ok (.aload_n 2, 1) := by decide +kernel
theorem dL_law_445 : decode cL_law 445 = .ok (.aload_n 0, 1) := by decide +kernel
theorem dL_law_446 : decode cL_law 446 = .ok (.iload_n 3, 1) := by decide +kernel
theorem dL_law_447 : decode cL_law 447 = .ok (.iconst 1, 1) := by decide +kernel
theorem dL_law_448 : decode cL_law 448 = .ok (.iadd, 1) := by decide +kernel
theorem dL_law_449 : decode cL_law 449 = .ok (.iaload, 1) := by decide +kernel
theorem dL_law_450 : decode cL_law 450 = .ok (.invokevirtual 71, 3) := by decide +kernel
theorem dL_law_453 : decode cL_law 453 = .ok (.if_icmp .eq 523, 3) := by decide +kernel
theorem dL_law_456 : decode cL_law 456 = .ok (.iconst 0, 1) := by decide +kernel
theorem dL_law_457 : decode cL_law 457 = .ok (.ireturn, 1) := by decide +kernel
theorem dL_law_458 : decode cL_law 458 = .ok (.aload_n 1, 1) := by decide +kernel
theorem dL_law_459 : decode cL_law 459 = .ok (.aload_n 0, 1) := by decide +kernel
theorem dL_law_460 : decode cL_law 460 = .ok (.iload_n 3, 1) := by decide +kernel
theorem dL_law_461 : decode cL_law 461 = .ok (.iconst 1, 1) := by decide +kernel
theorem dL_law_462 : decode cL_law 462 = .ok (.iadd, 1) := by decide +kernel
theorem dL_law_463 : decode cL_law 463 = .ok (.iaload, 1) := by decide +kernel
theorem dL_law_464 : decode cL_law 464 = .ok (.invokevirtual 72, 3) := by decide +kernel
theorem dL_law_467 : decode cL_law 467 = .ok (.aload_n 2, 1) := by decide +kernel
theorem dL_law_468 : decode cL_law 468 = .ok (.aload_n 0, 1) := by decide +kernel
theorem dL_law_469 : decode cL_law 469 = .ok (.iload_n 3, 1) := by decide +kernel
theorem dL_law_470 : decode cL_law 470 = .ok (.iconst 1, 1) := by decide +kernel
theorem dL_law_471 : decode cL_law 471 = .ok (.iadd, 1) := by decide +kernel
theorem dL_law_472 : decode cL_law 472 = .ok (.iaload, 1) := by decide +kernel
theorem dL_law_473 : decode cL_law 473 = .ok (.invokevirtual 75, 3) := by decide +kernel
theorem dL_law_476 : decode cL_law 476 = .ok (.if_icmp .eq 500, 3) := by decide +kernel
theorem dL_law_479 : decode cL_law 479 = .ok (.iconst 0, 1) := by decide +kernel
theorem dL_law_480 : decode cL_law 480 = .ok (.ireturn, 1) := by decide +kernel
theorem dL_law_481 : decode cL_law 481 = .ok (.aload_n 1, 1) := by decide +kernel
theorem dL_law_482 : decode cL_law 482 = .ok (.aload_n 0, 1) := by decide +kernel
theorem dL_law_483 : decode cL_law 483 = .ok (.iload_n 3, 1) := by decide +kernel
theorem dL_law_484 : decode cL_law 484 = .ok (.iconst 1, 1) := by decide +kernel
theorem dL_law_485 : decode cL_law 485 = .ok (.iadd, 1) := by decide +kernel
theorem dL_law_486 : decode cL_law 486 = .ok (.iaload, 1) := by decide +kernel
theorem dL_law_487 : decode cL_law 487 = .ok (.aload_n 0, 1) := by decide +kernel
theorem dL_law_488 : decode cL_law 488 = .ok (.iload_n 3, 1) := by decide +kernel
theorem dL_law_489 : decode cL_law 489 = .ok (.iconst 2, 1) := by decide +kernel
theorem dL_law_490 : decode cL_law 490 = .ok (.iadd, 1) := by decide +kernel
theorem dL_law_491 : decode cL_law 491 = .ok (.iaload, 1) := by decide +kernel
theorem dL_law_492 : decode cL_law 492 = .ok (.invokevirtual 76, 3) := by decide +kernel
theorem dL_law_495 : decode cL_law 495 = .ok (.aload_n 2, 1) := by decide +kernel
theorem dL_law_496 : decode cL_law 496 = .ok (.aload_n 0, 1) := by decide +kernel
theorem dL_law_497 : decode cL_law 497 = .ok (.iload_n 3, 1) := by decide +kernel
theorem dL_law_498 : decode cL_law 498 = .ok (.iconst 1, 1) := by decide +kernel
theorem dL_law_499 : decode cL_law 499 = .ok (.iadd, 1) := by decide +kernel
theorem dL_law_500 : decode cL_law 500 = .ok (.iaload, 1) := by decide +kernel
theorem dL_law_501 : decode cL_law 501 = .ok (.aload_n 0, 1) := by decide +kernel
theorem dL_law_502 : decode cL_law 502 = .ok (.iload_n 3, 1) := by decide +kernel
theorem dL_law_503 : decode cL_law 503 = .ok (.iconst 2, 1) := by decide +kernel
theorem dL_law_504 : decode cL_law 504 = .ok (.iadd, 1) := by decide +kernel
theorem dL_law_505 : decode cL_law 505 = .ok (.iaload, 1) := by decide +kernel
theorem dL_law_506 : decode cL_law 506 = .ok (.invokevirtual 79, 3) := by decide +kernel
theorem dL_law_509 : decode cL_law 509 = .ok (.if_icmp .eq 467, 3) := by decide +kernel
theorem dL_law_512 : decode cL_law 512 = .ok (.iconst 0, 1) := by decide +kernel
theorem dL_law_513 : decode cL_law 513 = .ok (.ireturn, 1) := by decide +kernel
theorem dL_law_514 : decode cL_law 514 = .ok (.aload_n 1, 1) := by decide +kernel
theorem dL_law_515 : decode cL_law 515 = .ok (.aload_n 0, 1) := by decide +kernel
theorem dL_law_516 : decode cL_law 516 = .ok (.iload_n 3, 1) := by decide +kernel
theorem dL_law_517 : decode cL_law 517 = .ok (.iconst 1, 1) := by decide +kernel
theorem dL_law_518 : decode cL_law 518 = .ok (.iadd, 1) := by decide +kernel
theorem dL_law_519 : decode cL_law 519 = .ok (.iaload, 1) := by decide +kernel
theorem dL_law_520 : decode cL_law 520 = .ok (.aload_n 0, 1) := by decide +kernel
theorem dL_law_521 : decode cL_law 521 = .ok (.iload_n 3, 1) := by decide +kernel
theorem dL_law_522 : decode cL_law 522 = .ok (.iconst 2, 1) := by decide +kernel
theorem dL_law_523 : decode cL_law 523 = .ok (.iadd, 1) := by decide +kernel
theorem dL_law_524 : decode cL_law 524 = .ok (.iaload, 1) := by decide +kernel
theorem dL_law_525 : decode cL_law 525 = .ok (.aload_n 0, 1) := by decide +kernel
theorem dL_law_526 : decode cL_law 526 = .ok (.iload_n 3, 1) := by decide +kernel
theorem dL_law_527 : decode cL_law 527 = .ok (.iconst 3, 1) := by decide +kernel
theorem dL_law_528 : decode cL_law 528 = .ok (.iadd, 1) := by decide +kernel
theorem dL_law_529 : decode cL_law 529 = .ok (.iaload, 1) := by decide +kernel
theorem dL_law_530 : decode cL_law 530 = .ok (.ifCond .eq 7, 3) := by decide +kernel
theorem dL_law_533 : decode cL_law 533 = .ok (.iconst 1, 1) := by decide +kernel
theorem dL_law_534 : decode cL_law 534 = .ok (.goto 4, 3) := by decide +kernel
theorem dL_law_537 : decode cL_law 537 = .ok (.iconst 0, 1) := by decide +kernel
theorem dL_law_538 : decode cL_law 538 = .ok (.invokevirtual 80, 3) := by decide +kernel
theorem dL_law_541 : decode cL_law 541 = .ok (.aload_n 2, 1) := by decide +kernel
theorem dL_law_542 : decode cL_law 542 = .ok (.aload_n 0, 1) := by decide +kernel
theorem dL_law_543 : decode cL_law 543 = .ok (.iload_n 3, 1) := by decide +kernel
theorem dL_law_544 : decode cL_law 544 = .ok (.iconst 1, 1) := by decide +kernel
theorem dL_law_545 : decode cL_law 545 = .ok (.iadd, 1) := by decide +kernel
theorem dL_law_546 : decode cL_law 546 = .ok (.iaload, 1) := by decide +kernel
theorem dL_law_547 : decode cL_law 547 = .ok (.aload_n 0, 1) := by decide +kernel
theorem dL_law_548 : decode cL_law 548 = .ok (.iload_n 3, 1) := by decide +kernel
theorem dL_law_549 : decode cL_law 549 = .ok (.iconst 2, 1) := by decide +kernel
theorem dL_law_550 : decode cL_law 550 = .ok (.iadd, 1) := by decide +kernel
theorem dL_law_551 : decode cL_law 551 = .ok (.iaload, 1) := by decide +kernel
theorem dL_law_552 : decode cL_law 552 = .ok (.aload_n 0, 1) := by decide +kernel
theorem dL_law_553 : decode cL_law 553 = .ok (.iload_n 3, 1) := by decide +kernel
theorem dL_law_554 : decode cL_law 554 = .ok (.iconst 3, 1) := by decide +kernel
theorem dL_law_555 : decode cL_law 555 = .ok (.iadd, 1) := by decide +kernel
theorem dL_law_556 : decode cL_law 556 = .ok (.iaload, 1) := by decide +kernel
theorem dL_law_557 : decode cL_law 557 = .ok (.ifCond .eq 7, 3) := by decide +kernel
theorem dL_law_560 : decode cL_law 560 = .ok (.iconst 1, 1) := by decide +kernel
theorem dL_law_561 : decode cL_law 561 = .ok (.goto 4, 3) := by decide +kernel
theorem dL_law_564 : decode cL_law 564 = .ok (.iconst 0, 1) := by decide +kernel
theorem dL_law_565 : decode cL_law 565 = .ok (.invokevirtual 84, 3) := by decide +kernel
theorem dL_law_568 : decode cL_law 568 = .ok (.if_icmp .eq 408, 3) := by decide +kernel
theorem dL_law_571 : decode cL_law 571 = .ok (.iconst 0, 1) := by decide +kernel
theorem dL_law_572 : decode cL_law 572 = .ok (.ireturn, 1) := by decide +kernel
theorem dL_law_573 : decode cL_law 573 = .ok (.aload_n 1, 1) := by decide +kernel
theorem dL_law_574 : decode cL_law 574 = .ok (.aload_n 0, 1) := by decide +kernel
theorem dL_law_575 : decode cL_law 575 = .ok (.iload_n 3, 1) := by decide +kernel
theorem dL_law_576 : decode cL_law 576 = .ok (.iconst 1, 1) := by decide +kernel
theorem dL_law_577 : decode cL_law 577 = .ok (.iadd, 1) := by decide +kernel
theorem dL_law_578 : decode cL_law 578 = .ok (.iaload, 1) := by decide +kernel
theorem dL_law_579 : decode cL_law 579 = .ok (.aload_n 0, 1) := by decide +kernel
theorem dL_law_580 : decode cL_law 580 = .ok (.iload_n 3, 1) := by decide +kernel
theorem dL_law_581 : decode cL_law 581 = .ok (.iconst 2, 1) := by decide +kernel
theorem dL_law_582 : decode cL_law 582 = .ok (.iadd, 1) := by decide +kernel
theorem dL_law_583 : decode cL_law 583 = .ok (.iaload, 1) := by decide +kernel
theorem dL_law_584 : decode cL_law 584 = .ok (.invokevirtual 85, 3) := by decide +kernel
theorem dL_law_587 : decode cL_law 587 = .ok (.aload_n 2, 1) := by decide +kernel
theorem dL_law_588 : decode cL_law 588 = .ok (.aload_n 0, 1) := by decide +kernel
theorem dL_law_589 : decode cL_law 589 = .ok (.iload_n 3, 1) := by decide +kernel
theorem dL_law_590 : decode cL_law 590 = .ok (.iconst 1, 1) := by decide +kernel
theorem dL_law_591 : decode cL_law 591 = .ok (.iadd, 1) := by decide +kernel
theorem dL_law_592 : decode cL_law 592 = .ok (.iaload, 1) := by decide +kernel
theorem dL_law_593 : decode cL_law 593 = .ok (.aload_n 0, 1) := by decide +kernel
theorem dL_law_594 : decode cL_law 594 = .ok (.iload_n 3, 1) := by decide +kernel
theorem dL_law_595 : decode cL_law 595 = .ok (.iconst 2, 1) := by decide +kernel
theorem dL_law_596 : decode cL_law 596 = .ok (.iadd, 1) := by decide +kernel
theorem dL_law_597 : decode cL_law 597 = .ok (.iaload, 1) := by decide +kernel
theorem dL_law_598 : decode cL_law 598 = .ok (.invokevirtual 88, 3) := by decide +kernel
theorem dL_law_601 : decode cL_law 601 = .ok (.if_icmp .eq 375, 3) := by decide +kernel
theorem dL_law_604 : decode cL_law 604 = .ok (.iconst 0, 1) := by decide +kernel
theorem dL_law_605 : decode cL_law 605 = .ok (.ireturn, 1) := by decide +kernel
theorem dL_law_606 : decode cL_law 606 = .ok (.aload_n 1, 1) := by decide +kernel
theorem dL_law_607 : decode cL_law 607 = .ok (.aload_n 0, 1) := by decide +kernel
theorem dL_law_608 : decode cL_law 608 = .ok (.iload_n 3, 1) := by decide +kernel
theorem dL_law_609 : decode cL_law 609 = .ok (.iconst 1, 1) := by decide +kernel
theorem dL_law_610 : decode cL_law 610 = .ok (.iadd, 1) := by decide +kernel
theorem dL_law_611 : decode cL_law 611 = .ok (.iaload, 1) := by decide +kernel
theorem dL_law_612 : decode cL_law 612 = .ok (.aload_n 0, 1) := by decide +kernel
theorem dL_law_613 : decode cL_law 613 = .ok (.iload_n 3, 1) := by decide +kernel
theorem dL_law_614 : decode cL_law 614 = .ok (.iconst 2, 1) := by decide +kernel
theorem dL_law_615 : decode cL_law 615 = .ok (.iadd, 1) := by decide +kernel
theorem dL_law_616 : decode cL_law 616 = .ok (.iaload, 1) := by decide +kernel
theorem dL_law_617 : decode cL_law 617 = .ok (.ifCond .eq 7, 3) := by decide +kernel
theorem dL_law_620 : decode cL_law 620 = .ok (.iconst 1, 1) := by decide +kernel
theorem dL_law_621 : decode cL_law 621 = .ok (.goto 4, 3) := by decide +kernel
theorem dL_law_624 : decode cL_law 624 = .ok (.iconst 0, 1) := by decide +kernel
theorem dL_law_625 : decode cL_law 625 = .ok (.invokevirtual 89, 3) := by decide +kernel
theorem dL_law_628 : decode cL_law 628 = .ok (.aload_n 2, 1) := by decide +kernel
theorem dL_law_629 : decode cL_law 629 = .ok (.aload_n 0, 1) := by decide +kernel
theorem dL_law_630 : decode cL_law 630 = .ok (.iload_n 3, 1) := by decide +kernel
theorem dL_law_631 : decode cL_law 631 = .ok (.iconst 1, 1) := by decide +kernel
theorem dL_law_632 : decode cL_law 632 = .ok (.iadd, 1) := by decide +kernel
theorem dL_law_633 : decode cL_law 633 = .ok (.iaload, 1) := by decide +kernel
theorem dL_law_634 : decode cL_law 634 = .ok (.aload_n 0, 1) := by decide +kernel
theorem dL_law_635 : decode cL_law 635 = .ok (.iload_n 3, 1) := by decide +kernel
theorem dL_law_636 : decode cL_law 636 = .ok (.iconst 2, 1) := by decide +kernel
theorem dL_law_637 : decode cL_law 637 = .ok (.iadd, 1) := by decide +kernel
theorem dL_law_638 : decode cL_law 638 = .ok (.iaload, 1) := by decide +kernel
theorem dL_law_639 : decode cL_law 639 = .ok (.ifCond .eq 7, 3) := by decide +kernel
theorem dL_law_642 : decode cL_law 642 = .ok (.iconst 1, 1) := by decide +kernel
theorem dL_law_643 : decode cL_law 643 = .ok (.goto 4, 3) := by decide +kernel
theorem dL_law_646 : decode cL_law 646 = .ok (.iconst 0, 1) := by decide +kernel
theorem dL_law_647 : decode cL_law 647 = .ok (.invokevirtual 93, 3) := by decide +kernel
theorem dL_law_650 : decode cL_law 650 = .ok (.if_icmp .eq 326, 3) := by decide +kernel
theorem dL_law_653 : decode cL_law 653 = .ok (.iconst 0, 1) := by decide +kernel
theorem dL_law_654 : decode cL_law 654 = .ok (.ireturn, 1) := by decide +kernel
theorem dL_law_655 : decode cL_law 655 = .ok (.aload_n 1, 1) := by decide +kernel
theorem dL_law_656 : decode cL_law 656 = .ok (.aload_n 0, 1) := by decide +kernel
theorem dL_law_657 : decode cL_law 657 = .ok (.iload_n 3, 1) := by decide +kernel
theorem dL_law_658 : decode cL_law 658 = .ok (.iconst 1, 1) := by decide +kernel
theorem dL_law_659 : decode cL_law 659 = .ok (.iadd, 1) := by decide +kernel
theorem dL_law_660 : decode cL_law 660 = .ok (.iaload, 1) := by decide +kernel
theorem dL_law_661 : decode cL_law 661 = .ok (.aload_n 0, 1) := by decide +kernel
theorem dL_law_662 : decode cL_law 662 = .ok (.iload_n 3, 1) := by decide +kernel
theorem dL_law_663 : decode cL_law 663 = .ok (.iconst 2, 1) := by decide +kernel
theorem dL_law_664 : decode cL_law 664 = .ok (.iadd, 1) := by decide +kernel
theorem dL_law_665 : decode cL_law 665 = .ok (.iaload, 1) := by decide +kernel
theorem dL_law_666 : decode cL_law 666 = .ok (.aload_n 0, 1) := by decide +kernel
theorem dL_law_667 : decode cL_law 667 = .ok (.iload_n 3, 1) := by decide +kernel
theorem dL_law_668 : decode cL_law 668 = .ok (.iconst 3, 1) := by decide +kernel
theorem dL_law_669 : decode cL_law 669 = .ok (.iadd, 1) := by decide +kernel
theorem dL_law_670 : decode cL_law 670 = .ok (.iaload, 1) := by decide +kernel
theorem dL_law_671 : decode cL_law 671 = .ok (.invokevirtual 94, 3) := by decide +kernel
theorem dL_law_674 : decode cL_law 674 = .ok (.aload_n 2, 1) := by decide +kernel
theorem dL_law_675 : decode cL_law 675 = .ok (.aload_n 0, 1) := by decide +kernel
theorem dL_law_676 : decode cL_law 676 = .ok (.iload_n 3, 1) := by decide +kernel
theorem dL_law_677 : decode cL_law 677 = .ok (.iconst 1, 1) := by decide +kernel
theorem dL_law_678 : decode cL_law 678 = .ok (.iadd, 1) := by decide +kernel
theorem dL_law_679 : decode cL_law 679 = .ok (.iaload, 1) := by decide +kernel
theorem dL_law_680 : decode cL_law 680 = .ok (.aload_n 0, 1) := by decide +kernel
theorem dL_law_681 : decode cL_law 681 = .ok (.iload_n 3, 1) := by decide +kernel
theorem dL_law_682 : decode cL_law 682 = .ok (.iconst 2, 1) := by decide +kernel
theorem dL_law_683 : decode cL_law 683 = .ok (.iadd, 1) := by decide +kernel
theorem dL_law_684 : decode cL_law 684 = .ok (.iaload, 1) := by decide +kernel
theorem dL_law_685 : decode cL_law 685 = .ok (.aload_n 0, 1) := by decide +kernel
theorem dL_law_686 : decode cL_law 686 = .ok (.iload_n 3, 1) := by decide +kernel
theorem dL_law_687 : decode cL_law 687 = .ok (.iconst 3, 1) := by decide +kernel
theorem dL_law_688 : decode cL_law 688 = .ok (.iadd, 1) := by decide +kernel
theorem dL_law_689 : decode cL_law 689 = .ok (.iaload, 1) := by decide +kernel
theorem dL_law_690 : decode cL_law 690 = .ok (.invokevirtual 98, 3) := by decide +kernel
theorem dL_law_693 : decode cL_law 693 = .ok (.if_icmp .eq 283, 3) := by decide +kernel
theorem dL_law_696 : decode cL_law 696 = .ok (.iconst 0, 1) := by decide +kernel
theorem dL_law_697 : decode cL_law 697 = .ok (.ireturn, 1) := by decide +kernel
theorem dL_law_698 : decode cL_law 698 = .ok (.aload_n 1, 1) := by decide +kernel
theorem dL_law_699 : decode cL_law 699 = .ok (.aload_n 0, 1) := by decide +kernel
theorem dL_law_700 : decode cL_law 700 = .ok (.iload_n 3, 1) := by decide +kernel
theorem dL_law_701 : decode cL_law 701 = .ok (.iconst 1, 1) := by decide +kernel
theorem dL_law_702 : decode cL_law 702 = .ok (.iadd, 1) := by decide +kernel
theorem dL_law_703 : decode cL_law 703 = .ok (.iaload, 1) := by decide +kernel
theorem dL_law_704 : decode cL_law 704 = .ok (.aload_n 0, 1) := by decide +kernel
theorem dL_law_705 : decode cL_law 705 = .ok (.iload_n 3, 1) := by decide +kernel
theorem dL_law_706 : decode cL_law 706 = .ok (.iconst 2, 1) := by decide +kernel
theorem dL_law_707 : decode cL_law 707 = .ok (.iadd, 1) := by decide +kernel
theorem dL_law_708 : decode cL_law 708 = .ok (.iaload, 1) := by decide +kernel
theorem dL_law_709 : decode cL_law 709 = .ok (.aload_n 0, 1) := by decide +kernel
theorem dL_law_710 : decode cL_law 710 = .ok (.iload_n 3, 1) := by decide +kernel
theorem dL_law_711 : decode cL_law 711 = .ok (.iconst 3, 1) := by decide +kernel
theorem dL_law_712 : decode cL_law 712 = .ok (.iadd, 1) := by decide +kernel
theorem dL_law_713 : decode cL_law 713 = .ok (.iaload, 1) := by decide +kernel
theorem dL_law_714 : decode cL_law 714 = .ok (.aload_n 0, 1) := by decide +kernel
theorem dL_law_715 : decode cL_law 715 = .ok (.iload_n 3, 1) := by decide +kernel
theorem dL_law_716 : decode cL_law 716 = .ok (.iconst 4, 1) := by decide +kernel
theorem dL_law_717 : decode cL_law 717 = .ok (.iadd, 1) := by decide +kernel
theorem dL_law_718 : decode cL_law 718 = .ok (.iaload, 1) := by decide +kernel
theorem dL_law_719 : decode cL_law 719 = .ok (.invokevirtual 99, 3) := by decide +kernel
theorem dL_law_722 : decode cL_law 722 = .ok (.aload_n 2, 1) := by decide +kernel
theorem dL_law_723 : decode cL_law 723 = .ok (.aload_n 0, 1) := by decide +kernel
theorem dL_law_724 : decode cL_law 724 = .ok (.iload_n 3, 1) := by decide +kernel
theorem dL_law_725 : decode cL_law 725 = .ok (.iconst 1, 1) := by decide +kernel
theorem dL_law_726 : decode cL_law 726 = .ok (.iadd, 1) := by decide +kernel
theorem dL_law_727 : decode cL_law 727 = .ok (.iaload, 1) := by decide +kernel
theorem dL_law_728 : decode cL_law 728 = .ok (.aload_n 0, 1) := by decide +kernel
theorem dL_law_729 : decode cL_law 729 = .ok (.iload_n 3, 1) := by decide +kernel
theorem dL_law_730 : decode cL_law 730 = .ok (.iconst 2, 1) := by decide +kernel
theorem dL_law_731 : decode cL_law 731 = .ok (.iadd, 1) := by decide +kernel
theorem dL_law_732 : decode cL_law 732 = .ok (.iaload, 1) := by decide +kernel
theorem dL_law_733 : decode cL_law 733 = .ok (.aload_n 0, 1) := by decide +kernel
theorem dL_law_734 : decode cL_law 734 = .ok (.iload_n 3, 1) := by decide +kernel
theorem dL_law_735 : decode cL_law 735 = .ok (.iconst 3, 1) := by decide +kernel
theorem dL_law_736 : decode cL_law 736 = .ok (.iadd, 1) := by decide +kernel
theorem dL_law_737 : decode cL_law 737 = .ok (.iaload, 1) := by decide +kernel
theorem dL_law_738 : decode cL_law 738 = .ok (.aload_n 0, 1) := by decide +kernel
theorem dL_law_739 : decode cL_law 739 = .ok (.iload_n 3, 1) := by decide +kernel
theorem dL_law_740 : decode cL_law 740 = .ok (.iconst 4, 1) := by decide +kernel
theorem dL_law_741 : decode cL_law 741 = .ok (.iadd, 1) := by decide +kernel
theorem dL_law_742 : decode cL_law 742 = .ok (.iaload, 1) := by decide +kernel
theorem dL_law_743 : decode cL_law 743 = .ok (.invokevirtual 103, 3) := by decide +kernel
theorem dL_law_746 : decode cL_law 746 = .ok (.if_icmp .eq 230, 3) := by decide +kernel
theorem dL_law_749 : decode cL_law 749 = .ok (.iconst 0, 1) := by decide +kernel
theorem dL_law_750 : decode cL_law 750 = .ok (.ireturn, 1) := by decide +kernel
theorem dL_law_751 : decode cL_law 751 = .ok (.aload_n 1, 1) := by decide +kernel
theorem dL_law_752 : decode cL_law 752 = .ok (.aload_n 0, 1) := by decide +kernel
theorem dL_law_753 : decode cL_law 753 = .ok (.iload_n 3, 1) := by decide +kernel
theorem dL_law_754 : decode cL_law 754 = .ok (.iconst 1, 1) := by decide +kernel
theorem dL_law_755 : decode cL_law 755 = .ok (.iadd, 1) := by decide +kernel
theorem dL_law_756 : decode cL_law 756 = .ok (.iaload, 1) := by decide +kernel
theorem dL_law_757 : decode cL_law 757 = .ok (.aload_n 0, 1) := by decide +kernel
theorem dL_law_758 : decode cL_law 758 = .ok (.iload_n 3, 1) := by decide +kernel
theorem dL_law_759 : decode cL_law 759 = .ok (.iconst 2, 1) := by decide +kernel
theorem dL_law_760 : decode cL_law 760 = .ok (.iadd, 1) := by decide +kernel
theorem dL_law_761 : decode cL_law 761 = .ok (.iaload, 1) := by decide +kernel
theorem dL_law_762 : decode cL_law 762 = .ok (.aload_n 0, 1) := by decide +kernel
theorem dL_law_763 : decode cL_law 763 = .ok (.iload_n 3, 1) := by decide +kernel
theorem dL_law_764 : decode cL_law 764 = .ok (.iconst 3, 1) := by decide +kernel
theorem dL_law_765 : decode cL_law 765 = .ok (.iadd, 1) := by decide +kernel
theorem dL_law_766 : decode cL_law 766 = .ok (.iaload, 1) := by decide +kernel
theorem dL_law_767 : decode cL_law 767 = .ok (.aload_n 0, 1) := by decide +kernel
theorem dL_law_768 : decode cL_law 768 = .ok (.iload_n 3, 1) := by decide +kernel
theorem dL_law_769 : decode cL_law 769 = .ok (.iconst 4, 1) := by decide +kernel
theorem dL_law_770 : decode cL_law 770 = .ok (.iadd, 1) := by decide +kernel
theorem dL_law_771 : decode cL_law 771 = .ok (.iaload, 1) := by decide +kernel
theorem dL_law_772 : decode cL_law 772 = .ok (.ifCond .eq 7, 3) := by decide +kernel
theorem dL_law_775 : decode cL_law 775 = .ok (.iconst 1, 1) := by decide +kernel
theorem dL_law_776 : decode cL_law 776 = .ok (.goto 4, 3) := by decide +kernel
theorem dL_law_779 : decode cL_law 779 = .ok (.iconst 0, 1) := by decide +kernel
theorem dL_law_780 : decode cL_law 780 = .ok (.invokevirtual 104, 3) := by decide +kernel
theorem dL_law_783 : decode cL_law 783 = .ok (.aload_n 2, 1) := by decide +kernel
theorem dL_law_784 : decode cL_law 784 = .ok (.aload_n 0, 1) := by decide +kernel
theorem dL_law_785 : decode cL_law 785 = .ok (.iload_n 3, 1) := by decide +kernel
theorem dL_law_786 : decode cL_law 786 = .ok (.iconst 1, 1) := by decide +kernel
theorem dL_law_787 : decode cL_law 787 = .ok (.iadd, 1) := by decide +kernel
theorem dL_law_788 : decode cL_law 788 = .ok (.iaload, 1) := by decide +kernel
theorem dL_law_789 : decode cL_law 789 = .ok (.aload_n 0, 1) := by decide +kernel
theorem dL_law_790 : decode cL_law 790 = .ok (.iload_n 3, 1) := by decide +kernel
theorem dL_law_791 : decode cL_law 791 = .ok (.iconst 2, 1) := by decide +kernel
theorem dL_law_792 : decode cL_law 792 = .ok (.iadd, 1) := by decide +kernel
theorem dL_law_793 : decode cL_law 793 = .ok (.iaload, 1) := by decide +kernel
theorem dL_law_794 : decode cL_law 794 = .ok (.aload_n 0, 1) := by decide +kernel
theorem dL_law_795 : decode cL_law 795 = .ok (.iload_n 3, 1) := by decide +kernel
theorem dL_law_796 : decode cL_law 796 = .ok (.iconst 3, 1) := by decide +kernel
theorem dL_law_797 : decode cL_law 797 = .ok (.iadd, 1) := by decide +kernel
theorem dL_law_798 : decode cL_law 798 = .ok (.iaload, 1) := by decide +kernel
theorem dL_law_799 : decode cL_law 799 = .ok (.aload_n 0, 1) := by decide +kernel
theorem dL_law_800 : decode cL_law 800 = .ok (.iload_n 3, 1) := by decide +kernel
theorem dL_law_801 : decode cL_law 801 = .ok (.iconst 4, 1) := by decide +kernel
theorem dL_law_802 : decode cL_law 802 = .ok (.iadd, 1) := by decide +kernel
theorem dL_law_803 : decode cL_law 803 = .ok (.iaload, 1) := by decide +kernel
theorem dL_law_804 : decode cL_law 804 = .ok (.ifCond .eq 7, 3) := by decide +kernel
theorem dL_law_807 : decode cL_law 807 = .ok (.iconst 1, 1) := by decide +kernel
theorem dL_law_808 : decode cL_law 808 = .ok (.goto 4, 3) := by decide +kernel
theorem dL_law_811 : decode cL_law 811 = .ok (.iconst 0, 1) := by decide +kernel
theorem dL_law_812 : decode cL_law 812 = .ok (.invokevirtual 108, 3) := by decide +kernel
theorem dL_law_815 : decode cL_law 815 = .ok (.if_icmp .eq 161, 3) := by decide +kernel
theorem dL_law_818 : decode cL_law 818 = .ok (.iconst 0, 1) := by decide +kernel
theorem dL_law_819 : decode cL_law 819 = .ok (.ireturn, 1) := by decide +kernel
theorem dL_law_820 : decode cL_law 820 = .ok (.aload_n 1, 1) := by decide +kernel
theorem dL_law_821 : decode cL_law 821 = .ok (.aload_n 0, 1) := by decide +kernel
theorem dL_law_822 : decode cL_law 822 = .ok (.iload_n 3, 1) := by decide +kernel
theorem dL_law_823 : decode cL_law 823 = .ok (.iconst 1, 1) := by decide +kernel
theorem dL_law_824 : decode cL_law 824 = .ok (.iadd, 1) := by decide +kernel
theorem dL_law_825 : decode cL_law 825 = .ok (.iaload, 1) := by decide +kernel
theorem dL_law_826 : decode cL_law 826 = .ok (.i2l, 1) := by decide +kernel
theorem dL_law_827 : decode cL_law 827 = .ok (.bipush 32, 2) := by decide +kernel
theorem dL_law_829 : decode cL_law 829 = .ok (.lshl, 1) := by decide +kernel
theorem dL_law_830 : decode cL_law 830 = .ok (.aload_n 0, 1) := by decide +kernel
theorem dL_law_831 : decode cL_law 831 = .ok (.iload_n 3, 1) := by decide +kernel
theorem dL_law_832 : decode cL_law 832 = .ok (.iconst 2, 1) := by decide +kernel
theorem dL_law_833 : decode cL_law 833 = .ok (.iadd, 1) := by decide +kernel
theorem dL_law_834 : decode cL_law 834 = .ok (.iaload, 1) := by decide +kernel
theorem dL_law_835 : decode cL_law 835 = .ok (.i2l, 1) := by decide +kernel
theorem dL_law_836 : decode cL_law 836 = .ok (.ldc2_w 109, 3) := by decide +kernel
theorem dL_law_839 : decode cL_law 839 = .ok (.land, 1) := by decide +kernel
theorem dL_law_840 : decode cL_law 840 = .ok (.lor, 1) := by decide +kernel
theorem dL_law_841 : decode cL_law 841 = .ok (.invokevirtual 111, 3) := by decide +kernel
theorem dL_law_844 : decode cL_law 844 = .ok (.aload_n 2, 1) := by decide +kernel
theorem dL_law_845 : decode cL_law 845 = .ok (.aload_n 0, 1) := by decide +kernel
theorem dL_law_846 : decode cL_law 846 = .ok (.iload_n 3, 1) := by decide +kernel
theorem dL_law_847 : decode cL_law 847 = .ok (.iconst 1, 1) := by decide +kernel
theorem dL_law_848 : decode cL_law 848 = .ok (.iadd, 1) := by decide +kernel
theorem dL_law_849 : decode cL_law 849 = .ok (.iaload, 1) := by decide +kernel
theorem dL_law_850 : decode cL_law 850 = .ok (.i2l, 1) := by decide +kernel
theorem dL_law_851 : decode cL_law 851 = .ok (.bipush 32, 2) := by decide +kernel
theorem dL_law_853 : decode cL_law 853 = .ok (.lshl, 1) := by decide +kernel
theorem dL_law_854 : decode cL_law 854 = .ok (.aload_n 0, 1) := by decide +kernel
theorem dL_law_855 : decode cL_law 855 = .ok (.iload_n 3, 1) := by decide +kernel
theorem dL_law_856 : decode cL_law 856 = .ok (.iconst 2, 1) := by decide +kernel
theorem dL_law_857 : decode cL_law 857 = .ok (.iadd, 1) := by decide +kernel
theorem dL_law_858 : decode cL_law 858 = .ok (.iaload, 1) := by decide +kernel
theorem dL_law_859 : decode cL_law 859 = .ok (.i2l, 1) := by decide +kernel
theorem dL_law_860 : decode cL_law 860 = .ok (.ldc2_w 109, 3) := by decide +kernel
theorem dL_law_863 : decode cL_law 863 = .ok (.land, 1) := by decide +kernel
theorem dL_law_864 : decode cL_law 864 = .ok (.lor, 1) := by decide +kernel
theorem dL_law_865 : decode cL_law 865 = .ok (.invokevirtual 115, 3) := by decide +kernel
theorem dL_law_868 : decode cL_law 868 = .ok (.lcmp, 1) := by decide +kernel
theorem dL_law_869 : decode cL_law 869 = .ok (.ifCond .eq 107, 3) := by decide +kernel
theorem dL_law_872 : decode cL_law 872 = .ok (.iconst 0, 1) := by decide +kernel
theorem dL_law_873 : decode cL_law 873 = .ok (.ireturn, 1) := by decide +kernel
theorem dL_law_874 : decode cL_law 874 = .ok (.aload_n 1, 1) := by decide +kernel
theorem dL_law_875 : decode cL_law 875 = .ok (.aload_n 0, 1) := by decide +kernel
theorem dL_law_876 : decode cL_law 876 = .ok (.iload_n 3, 1) := by decide +kernel
theorem dL_law_877 : decode cL_law 877 = .ok (.iconst 1, 1) := by decide +kernel
theorem dL_law_878 : decode cL_law 878 = .ok (.iadd, 1) := by decide +kernel
theorem dL_law_879 : decode cL_law 879 = .ok (.iaload, 1) := by decide +kernel
theorem dL_law_880 : decode cL_law 880 = .ok (.aload_n 0, 1) := by decide +kernel
theorem dL_law_881 : decode cL_law 881 = .ok (.iload_n 3, 1) := by decide +kernel
theorem dL_law_882 : decode cL_law 882 = .ok (.iconst 2, 1) := by decide +kernel
theorem dL_law_883 : decode cL_law 883 = .ok (.iadd, 1) := by decide +kernel
theorem dL_law_884 : decode cL_law 884 = .ok (.iaload, 1) := by decide +kernel
theorem dL_law_885 : decode cL_law 885 = .ok (.invokevirtual 116, 3) := by decide +kernel
theorem dL_law_888 : decode cL_law 888 = .ok (.aload_n 2, 1) := by decide +kernel
theorem dL_law_889 : decode cL_law 889 = .ok (.aload_n 0, 1) := by decide +kernel
theorem dL_law_890 : decode cL_law 890 = .ok (.iload_n 3, 1) := by decide +kernel
theorem dL_law_891 : decode cL_law 891 = .ok (.iconst 1, 1) := by decide +kernel
theorem dL_law_892 : decode cL_law 892 = .ok (.iadd, 1) := by decide +kernel
theorem dL_law_893 : decode cL_law 893 = .ok (.iaload, 1) := by decide +kernel
theorem dL_law_894 : decode cL_law 894 = .ok (.aload_n 0, 1) := by decide +kernel
theorem dL_law_895 : decode cL_law 895 = .ok (.iload_n 3, 1) := by decide +kernel
theorem dL_law_896 : decode cL_law 896 = .ok (.iconst 2, 1) := by decide +kernel
theorem dL_law_897 : decode cL_law 897 = .ok (.iadd, 1) := by decide +kernel
theorem dL_law_898 : decode cL_law 898 = .ok (.iaload, 1) := by decide +kernel
theorem dL_law_899 : decode cL_law 899 = .ok (.invokevirtual 119, 3) := by decide +kernel
theorem dL_law_902 : decode cL_law 902 = .ok (.if_icmp .eq 74, 3) := by decide +kernel
theorem dL_law_905 : decode cL_law 905 = .ok (.iconst 0, 1) := by decide +kernel
theorem dL_law_906 : decode cL_law 906 = .ok (.ireturn, 1) := by decide +kernel
theorem dL_law_907 : decode cL_law 907 = .ok (.aload_n 1, 1) := by decide +kernel
theorem dL_law_908 : decode cL_law 908 = .ok (.aload_n 0, 1) := by decide +kernel
theorem dL_law_909 : decode cL_law 909 = .ok (.iload_n 3, 1) := by decide +kernel
theorem dL_law_910 : decode cL_law 910 = .ok (.iconst 1, 1) := by decide +kernel
theorem dL_law_911 : decode cL_law 911 = .ok (.iadd, 1) := by decide +kernel
theorem dL_law_912 : decode cL_law 912 = .ok (.iaload, 1) := by decide +kernel
theorem dL_law_913 : decode cL_law 913 = .ok (.invokevirtual 120, 3) := by decide +kernel
theorem dL_law_916 : decode cL_law 916 = .ok (.aload_n 2, 1) := by decide +kernel
theorem dL_law_917 : decode cL_law 917 = .ok (.aload_n 0, 1) := by decide +kernel
theorem dL_law_918 : decode cL_law 918 = .ok (.iload_n 3, 1) := by decide +kernel
theorem dL_law_919 : decode cL_law 919 = .ok (.iconst 1, 1) := by decide +kernel
theorem dL_law_920 : decode cL_law 920 = .ok (.iadd, 1) := by decide +kernel
theorem dL_law_921 : decode cL_law 921 = .ok (.iaload, 1) := by decide +kernel
theorem dL_law_922 : decode cL_law 922 = .ok (.invokevirtual 123, 3) := by decide +kernel
theorem dL_law_925 : decode cL_law 925 = .ok (.if_icmp .eq 51, 3) := by decide +kernel
theorem dL_law_928 : decode cL_law 928 = .ok (.iconst 0, 1) := by decide +kernel
theorem dL_law_929 : decode cL_law 929 = .ok (.ireturn, 1) := by decide +kernel
theorem dL_law_930 : decode cL_law 930 = .ok (.aload_n 1, 1) := by decide +kernel
theorem dL_law_931 : decode cL_law 931 = .ok (.aload_n 0, 1) := by decide +kernel
theorem dL_law_932 : decode cL_law 932 = .ok (.iload_n 3, 1) := by decide +kernel
theorem dL_law_933 : decode cL_law 933 = .ok (.iconst 1, 1) := by decide +kernel
theorem dL_law_934 : decode cL_law 934 = .ok (.iadd, 1) := by decide +kernel
theorem dL_law_935 : decode cL_law 935 = .ok (.iaload, 1) := by decide +kernel
theorem dL_law_936 : decode cL_law 936 = .ok (.invokevirtual 124, 3) := by decide +kernel
theorem dL_law_939 : decode cL_law 939 = .ok (.aload_n 2, 1) := by decide +kernel
theorem dL_law_940 : decode cL_law 940 = .ok (.aload_n 0, 1) := by decide +kernel
theorem dL_law_941 : decode cL_law 941 = .ok (.iload_n 3, 1) := by decide +kernel
theorem dL_law_942 : decode cL_law 942 = .ok (.iconst 1, 1) := by decide +kernel
theorem dL_law_943 : decode cL_law 943 = .ok (.iadd, 1) := by decide +kernel
theorem dL_law_944 : decode cL_law 944 = .ok (.iaload, 1) := by decide +kernel
theorem dL_law_945 : decode cL_law 945 = .ok (.invokevirtual 127, 3) := by decide +kernel
theorem dL_law_948 : decode cL_law 948 = .ok (.if_icmp .eq 28, 3) := by decide +kernel
theorem dL_law_951 : decode cL_law 951 = .ok (.iconst 0, 1) := by decide +kernel
theorem dL_law_952 : decode cL_law 952 = .ok (.ireturn, 1) := by decide +kernel
theorem dL_law_953 : decode cL_law 953 = .ok (.aload_n 1, 1) := by decide +kernel
theorem dL_law_954 : decode cL_law 954 = .ok (.aload_n 0, 1) := by decide +kernel
theorem dL_law_955 : decode cL_law 955 = .ok (.iload_n 3, 1) := by decide +kernel
theorem dL_law_956 : decode cL_law 956 = .ok (.iconst 1, 1) := by decide +kernel
theorem dL_law_957 : decode cL_law 957 = .ok (.iadd, 1) := by decide +kernel
theorem dL_law_958 : decode cL_law 958 = .ok (.iaload, 1) := by decide +kernel
theorem dL_law_959 : decode cL_law 959 = .ok (.invokevirtual 128, 3) := by decide +kernel
theorem dL_law_962 : decode cL_law 962 = .ok (.aload_n 2, 1) := by decide +kernel
theorem dL_law_963 : decode cL_law 963 = .ok (.aload_n 0, 1) := by decide +kernel
theorem dL_law_964 : decode cL_law 964 = .ok (.iload_n 3, 1) := by decide +kernel
theorem dL_law_965 : decode cL_law 965 = .ok (.iconst 1, 1) := by decide +kernel
theorem dL_law_966 : decode cL_law 966 = .ok (.iadd, 1) := by decide +kernel
theorem dL_law_967 : decode cL_law 967 = .ok (.iaload, 1) := by decide +kernel
theorem dL_law_968 : decode cL_law 968 = .ok (.invokevirtual 131, 3) := by decide +kernel
theorem dL_law_971 : decode cL_law 971 = .ok (.if_icmp .eq 5, 3) := by decide +kernel
theorem dL_law_974 : decode cL_law 974 = .ok (.iconst 0, 1) := by decide +kernel
theorem dL_law_975 : decode cL_law 975 = .ok (.ireturn, 1) := by decide +kernel
theorem dL_law_976 : decode cL_law 976 = .ok (.iinc 3 5, 3) := by decide +kernel
theorem dL_law_979 : decode cL_law 979 = .ok (.goto (-961), 3) := by decide +kernel
theorem dL_law_982 : decode cL_law 982 = .ok (.iconst 1, 1) := by decide +kernel
theorem dL_law_983 : decode cL_law 983 = .ok (.ireturn, 1) := by decide +kernel
end
