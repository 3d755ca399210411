-- ===== PART A: goes FIRST, ahead of the names: the tables' words, and 'selects' of the private methods out of them =====
/-- a private method of a class that the tables say can be made, by its rows of tables_1 -/
def lw_okq (q : MethodName × Nat) : Prop := (q.1.cls ≠ "java/lang/invoke/MethodHandle" ∧ q.1.cls ≠ "java/lang/invoke/VarHandle") ∧ Cond.instantiable q.1.cls q.2 ∈ tables_1 ∧ Cond.privateMethod q.1 ∈ tables_1 ∧ Cond.instanceMethod q.1 ∈ tables_1
theorem lw_p0 : lw_okq (⟨"EelLocks", "refusalOfTwo", "(II)I"⟩, 7) := ⟨⟨by decide +kernel, by decide +kernel⟩, List.mem_of_getElem? (i := 14) (by decide +kernel), List.mem_of_getElem? (i := 423) (by decide +kernel), List.mem_of_getElem? (i := 424) (by decide +kernel)⟩
theorem lw_p1 : lw_okq (⟨"EelLocks$Outlook", "suits", "(LEelLocks$Canal;LEelLocks$State;II)Z"⟩, 2) := ⟨⟨by decide +kernel, by decide +kernel⟩, List.mem_of_getElem? (i := 157) (by decide +kernel), List.mem_of_getElem? (i := 435) (by decide +kernel), List.mem_of_getElem? (i := 436) (by decide +kernel)⟩
theorem lw_p2 : lw_okq (⟨"EelLocks$Outlook", "makeNextOrder", "(I)V"⟩, 2) := ⟨⟨by decide +kernel, by decide +kernel⟩, List.mem_of_getElem? (i := 157) (by decide +kernel), List.mem_of_getElem? (i := 444) (by decide +kernel), List.mem_of_getElem? (i := 445) (by decide +kernel)⟩
theorem lw_p3 : lw_okq (⟨"EelLocks$Outlook", "exchange", "(II)V"⟩, 2) := ⟨⟨by decide +kernel, by decide +kernel⟩, List.mem_of_getElem? (i := 157) (by decide +kernel), List.mem_of_getElem? (i := 448) (by decide +kernel), List.mem_of_getElem? (i := 449) (by decide +kernel)⟩
theorem lw_p4 : lw_okq (⟨"EelLocks$Outlook", "suitsWith", "(LEelLocks$Canal;IIII)Z"⟩, 2) := ⟨⟨by decide +kernel, by decide +kernel⟩, List.mem_of_getElem? (i := 157) (by decide +kernel), List.mem_of_getElem? (i := 460) (by decide +kernel), List.mem_of_getElem? (i := 461) (by decide +kernel)⟩
theorem lw_p5 : lw_okq (⟨"EelLocks$Outlook", "canGive", "(LEelLocks$Canal;I)Z"⟩, 2) := ⟨⟨by decide +kernel, by decide +kernel⟩, List.mem_of_getElem? (i := 157) (by decide +kernel), List.mem_of_getElem? (i := 465) (by decide +kernel), List.mem_of_getElem? (i := 466) (by decide +kernel)⟩
theorem lw_p6 : lw_okq (⟨"EelLocks$Outlook", "canGiveBoth", "(LEelLocks$Canal;II)Z"⟩, 2) := ⟨⟨by decide +kernel, by decide +kernel⟩, List.mem_of_getElem? (i := 157) (by decide +kernel), List.mem_of_getElem? (i := 472) (by decide +kernel), List.mem_of_getElem? (i := 473) (by decide +kernel)⟩
theorem lw_p7 : lw_okq (⟨"EelLocks$Outlook", "lastHourOf", "(LEelLocks$Canal;I)I"⟩, 2) := ⟨⟨by decide +kernel, by decide +kernel⟩, List.mem_of_getElem? (i := 157) (by decide +kernel), List.mem_of_getElem? (i := 507) (by decide +kernel), List.mem_of_getElem? (i := 508) (by decide +kernel)⟩
theorem lw_p8 : lw_okq (⟨"EelLocks$Guesses", "comesOutSo", "(LEelLocks$Canal;III)Z"⟩, 6) := ⟨⟨by decide +kernel, by decide +kernel⟩, List.mem_of_getElem? (i := 170) (by decide +kernel), List.mem_of_getElem? (i := 540) (by decide +kernel), List.mem_of_getElem? (i := 541) (by decide +kernel)⟩
theorem lw_p9 : lw_okq (⟨"EelLocks$Guesses", "addGivers", "(LEelLocks$Canal;LEelLocks$State;II)V"⟩, 6) := ⟨⟨by decide +kernel, by decide +kernel⟩, List.mem_of_getElem? (i := 170) (by decide +kernel), List.mem_of_getElem? (i := 545) (by decide +kernel), List.mem_of_getElem? (i := 546) (by decide +kernel)⟩
theorem lw_p10 : lw_okq (⟨"EelLocks$Guesses", "findLosses", "(LEelLocks$Canal;III)V"⟩, 6) := ⟨⟨by decide +kernel, by decide +kernel⟩, List.mem_of_getElem? (i := 170) (by decide +kernel), List.mem_of_getElem? (i := 560) (by decide +kernel), List.mem_of_getElem? (i := 561) (by decide +kernel)⟩
theorem lw_p11 : lw_okq (⟨"EelLocks$Guesses", "isAtRest", "(II)Z"⟩, 6) := ⟨⟨by decide +kernel, by decide +kernel⟩, List.mem_of_getElem? (i := 170) (by decide +kernel), List.mem_of_getElem? (i := 565) (by decide +kernel), List.mem_of_getElem? (i := 566) (by decide +kernel)⟩
theorem lw_p12 : lw_okq (⟨"EelLocks$Guesses", "isAtWith", "(LEelLocks$Canal;III)Z"⟩, 6) := ⟨⟨by decide +kernel, by decide +kernel⟩, List.mem_of_getElem? (i := 170) (by decide +kernel), List.mem_of_getElem? (i := 581) (by decide +kernel), List.mem_of_getElem? (i := 582) (by decide +kernel)⟩
theorem lw_p13 : lw_okq (⟨"EelLocksModel", "readText", "()I"⟩, 23) := ⟨⟨by decide +kernel, by decide +kernel⟩, List.mem_of_getElem? (i := 625) (by decide +kernel), List.mem_of_getElem? (i := 717) (by decide +kernel), List.mem_of_getElem? (i := 718) (by decide +kernel)⟩
theorem lw_p14 : lw_okq (⟨"EelLocksModel", "figure", "(II)I"⟩, 23) := ⟨⟨by decide +kernel, by decide +kernel⟩, List.mem_of_getElem? (i := 625) (by decide +kernel), List.mem_of_getElem? (i := 721) (by decide +kernel), List.mem_of_getElem? (i := 722) (by decide +kernel)⟩
theorem lw_p15 : lw_okq (⟨"EelLocksModel", "isBarge", "(I)Z"⟩, 23) := ⟨⟨by decide +kernel, by decide +kernel⟩, List.mem_of_getElem? (i := 625) (by decide +kernel), List.mem_of_getElem? (i := 733) (by decide +kernel), List.mem_of_getElem? (i := 734) (by decide +kernel)⟩
def lw_privs_1 : List (MethodName × Nat) := [(⟨"EelLocks", "refusalOfTwo", "(II)I"⟩, 7), (⟨"EelLocks$Outlook", "suits", "(LEelLocks$Canal;LEelLocks$State;II)Z"⟩, 2), (⟨"EelLocks$Outlook", "makeNextOrder", "(I)V"⟩, 2), (⟨"EelLocks$Outlook", "exchange", "(II)V"⟩, 2), (⟨"EelLocks$Outlook", "suitsWith", "(LEelLocks$Canal;IIII)Z"⟩, 2), (⟨"EelLocks$Outlook", "canGive", "(LEelLocks$Canal;I)Z"⟩, 2), (⟨"EelLocks$Outlook", "canGiveBoth", "(LEelLocks$Canal;II)Z"⟩, 2), (⟨"EelLocks$Outlook", "lastHourOf", "(LEelLocks$Canal;I)I"⟩, 2), (⟨"EelLocks$Guesses", "comesOutSo", "(LEelLocks$Canal;III)Z"⟩, 6), (⟨"EelLocks$Guesses", "addGivers", "(LEelLocks$Canal;LEelLocks$State;II)V"⟩, 6), (⟨"EelLocks$Guesses", "findLosses", "(LEelLocks$Canal;III)V"⟩, 6), (⟨"EelLocks$Guesses", "isAtRest", "(II)Z"⟩, 6), (⟨"EelLocks$Guesses", "isAtWith", "(LEelLocks$Canal;III)Z"⟩, 6), (⟨"EelLocksModel", "readText", "()I"⟩, 23), (⟨"EelLocksModel", "figure", "(II)I"⟩, 23), (⟨"EelLocksModel", "isBarge", "(I)Z"⟩, 23)]
theorem lw_r1 : ∀ q ∈ lw_privs_1, lw_okq q := List.forall_mem_cons.mpr ⟨lw_p0, List.forall_mem_cons.mpr ⟨lw_p1, List.forall_mem_cons.mpr ⟨lw_p2, List.forall_mem_cons.mpr ⟨lw_p3, List.forall_mem_cons.mpr ⟨lw_p4, List.forall_mem_cons.mpr ⟨lw_p5, List.forall_mem_cons.mpr ⟨lw_p6, List.forall_mem_cons.mpr ⟨lw_p7, List.forall_mem_cons.mpr ⟨lw_p8, List.forall_mem_cons.mpr ⟨lw_p9, List.forall_mem_cons.mpr ⟨lw_p10, List.forall_mem_cons.mpr ⟨lw_p11, List.forall_mem_cons.mpr ⟨lw_p12, List.forall_mem_cons.mpr ⟨lw_p13, List.forall_mem_cons.mpr ⟨lw_p14, List.forall_mem_cons.mpr ⟨lw_p15, fun _ h => absurd h List.not_mem_nil⟩⟩⟩⟩⟩⟩⟩⟩⟩⟩⟩⟩⟩⟩⟩⟩
theorem lw_p16 : lw_okq (⟨"EelLocksModel", "placeOf", "(III)I"⟩, 23) := ⟨⟨by decide +kernel, by decide +kernel⟩, List.mem_of_getElem? (i := 625) (by decide +kernel), List.mem_of_getElem? (i := 737) (by decide +kernel), List.mem_of_getElem? (i := 738) (by decide +kernel)⟩
theorem lw_p17 : lw_okq (⟨"EelLocksModel", "isLock", "(I)Z"⟩, 23) := ⟨⟨by decide +kernel, by decide +kernel⟩, List.mem_of_getElem? (i := 625) (by decide +kernel), List.mem_of_getElem? (i := 745) (by decide +kernel), List.mem_of_getElem? (i := 746) (by decide +kernel)⟩
theorem lw_p18 : lw_okq (⟨"EelLocksModel", "givenAt", "(I)I"⟩, 23) := ⟨⟨by decide +kernel, by decide +kernel⟩, List.mem_of_getElem? (i := 625) (by decide +kernel), List.mem_of_getElem? (i := 749) (by decide +kernel), List.mem_of_getElem? (i := 750) (by decide +kernel)⟩
theorem lw_p19 : lw_okq (⟨"EelLocksModel", "keepAct", "()V"⟩, 23) := ⟨⟨by decide +kernel, by decide +kernel⟩, List.mem_of_getElem? (i := 625) (by decide +kernel), List.mem_of_getElem? (i := 757) (by decide +kernel), List.mem_of_getElem? (i := 758) (by decide +kernel)⟩
theorem lw_p20 : lw_okq (⟨"EelLocksModel", "passOn", "(II)V"⟩, 23) := ⟨⟨by decide +kernel, by decide +kernel⟩, List.mem_of_getElem? (i := 625) (by decide +kernel), List.mem_of_getElem? (i := 761) (by decide +kernel), List.mem_of_getElem? (i := 762) (by decide +kernel)⟩
theorem lw_p21 : lw_okq (⟨"EelLocksModel", "isChanged", "(IIII)Z"⟩, 23) := ⟨⟨by decide +kernel, by decide +kernel⟩, List.mem_of_getElem? (i := 625) (by decide +kernel), List.mem_of_getElem? (i := 768) (by decide +kernel), List.mem_of_getElem? (i := 769) (by decide +kernel)⟩
theorem lw_p22 : lw_okq (⟨"EelLocksModel", "figuresOf", "(II)I"⟩, 23) := ⟨⟨by decide +kernel, by decide +kernel⟩, List.mem_of_getElem? (i := 625) (by decide +kernel), List.mem_of_getElem? (i := 772) (by decide +kernel), List.mem_of_getElem? (i := 773) (by decide +kernel)⟩
theorem lw_p23 : lw_okq (⟨"EelLocksModel", "layBasin", "()V"⟩, 23) := ⟨⟨by decide +kernel, by decide +kernel⟩, List.mem_of_getElem? (i := 625) (by decide +kernel), List.mem_of_getElem? (i := 797) (by decide +kernel), List.mem_of_getElem? (i := 798) (by decide +kernel)⟩
theorem lw_p24 : lw_okq (⟨"EelLocksModel", "layTrial", "()V"⟩, 23) := ⟨⟨by decide +kernel, by decide +kernel⟩, List.mem_of_getElem? (i := 625) (by decide +kernel), List.mem_of_getElem? (i := 801) (by decide +kernel), List.mem_of_getElem? (i := 802) (by decide +kernel)⟩
theorem lw_p25 : lw_okq (⟨"EelLocksModel", "passAll", "(I)V"⟩, 23) := ⟨⟨by decide +kernel, by decide +kernel⟩, List.mem_of_getElem? (i := 625) (by decide +kernel), List.mem_of_getElem? (i := 805) (by decide +kernel), List.mem_of_getElem? (i := 806) (by decide +kernel)⟩
theorem lw_p26 : lw_okq (⟨"EelLocksModel", "layOrder", "(I)V"⟩, 23) := ⟨⟨by decide +kernel, by decide +kernel⟩, List.mem_of_getElem? (i := 625) (by decide +kernel), List.mem_of_getElem? (i := 828) (by decide +kernel), List.mem_of_getElem? (i := 829) (by decide +kernel)⟩
theorem lw_p27 : lw_okq (⟨"EelLocksModel", "isSo", "(II)Z"⟩, 23) := ⟨⟨by decide +kernel, by decide +kernel⟩, List.mem_of_getElem? (i := 625) (by decide +kernel), List.mem_of_getElem? (i := 835) (by decide +kernel), List.mem_of_getElem? (i := 836) (by decide +kernel)⟩
theorem lw_p28 : lw_okq (⟨"EelLocksModel", "giveTrial", "(II)Z"⟩, 23) := ⟨⟨by decide +kernel, by decide +kernel⟩, List.mem_of_getElem? (i := 625) (by decide +kernel), List.mem_of_getElem? (i := 843) (by decide +kernel), List.mem_of_getElem? (i := 844) (by decide +kernel)⟩
theorem lw_p29 : lw_okq (⟨"EelLocksModel", "hoursBy", "(I)I"⟩, 23) := ⟨⟨by decide +kernel, by decide +kernel⟩, List.mem_of_getElem? (i := 625) (by decide +kernel), List.mem_of_getElem? (i := 859) (by decide +kernel), List.mem_of_getElem? (i := 860) (by decide +kernel)⟩
theorem lw_p30 : lw_okq (⟨"EelLocksModel", "greatest", "(II)I"⟩, 23) := ⟨⟨by decide +kernel, by decide +kernel⟩, List.mem_of_getElem? (i := 625) (by decide +kernel), List.mem_of_getElem? (i := 863) (by decide +kernel), List.mem_of_getElem? (i := 864) (by decide +kernel)⟩
theorem lw_p31 : lw_okq (⟨"EelLocksModel", "isOrder", "(I)Z"⟩, 23) := ⟨⟨by decide +kernel, by decide +kernel⟩, List.mem_of_getElem? (i := 625) (by decide +kernel), List.mem_of_getElem? (i := 877) (by decide +kernel), List.mem_of_getElem? (i := 878) (by decide +kernel)⟩
def lw_privs_2 : List (MethodName × Nat) := [(⟨"EelLocksModel", "placeOf", "(III)I"⟩, 23), (⟨"EelLocksModel", "isLock", "(I)Z"⟩, 23), (⟨"EelLocksModel", "givenAt", "(I)I"⟩, 23), (⟨"EelLocksModel", "keepAct", "()V"⟩, 23), (⟨"EelLocksModel", "passOn", "(II)V"⟩, 23), (⟨"EelLocksModel", "isChanged", "(IIII)Z"⟩, 23), (⟨"EelLocksModel", "figuresOf", "(II)I"⟩, 23), (⟨"EelLocksModel", "layBasin", "()V"⟩, 23), (⟨"EelLocksModel", "layTrial", "()V"⟩, 23), (⟨"EelLocksModel", "passAll", "(I)V"⟩, 23), (⟨"EelLocksModel", "layOrder", "(I)V"⟩, 23), (⟨"EelLocksModel", "isSo", "(II)Z"⟩, 23), (⟨"EelLocksModel", "giveTrial", "(II)Z"⟩, 23), (⟨"EelLocksModel", "hoursBy", "(I)I"⟩, 23), (⟨"EelLocksModel", "greatest", "(II)I"⟩, 23), (⟨"EelLocksModel", "isOrder", "(I)Z"⟩, 23)]
theorem lw_r2 : ∀ q ∈ lw_privs_2, lw_okq q := List.forall_mem_cons.mpr ⟨lw_p16, List.forall_mem_cons.mpr ⟨lw_p17, List.forall_mem_cons.mpr ⟨lw_p18, List.forall_mem_cons.mpr ⟨lw_p19, List.forall_mem_cons.mpr ⟨lw_p20, List.forall_mem_cons.mpr ⟨lw_p21, List.forall_mem_cons.mpr ⟨lw_p22, List.forall_mem_cons.mpr ⟨lw_p23, List.forall_mem_cons.mpr ⟨lw_p24, List.forall_mem_cons.mpr ⟨lw_p25, List.forall_mem_cons.mpr ⟨lw_p26, List.forall_mem_cons.mpr ⟨lw_p27, List.forall_mem_cons.mpr ⟨lw_p28, List.forall_mem_cons.mpr ⟨lw_p29, List.forall_mem_cons.mpr ⟨lw_p30, List.forall_mem_cons.mpr ⟨lw_p31, fun _ h => absurd h List.not_mem_nil⟩⟩⟩⟩⟩⟩⟩⟩⟩⟩⟩⟩⟩⟩⟩⟩
theorem lw_p32 : lw_okq (⟨"EelLocksModel", "comesSo", "(III)Z"⟩, 23) := ⟨⟨by decide +kernel, by decide +kernel⟩, List.mem_of_getElem? (i := 625) (by decide +kernel), List.mem_of_getElem? (i := 882) (by decide +kernel), List.mem_of_getElem? (i := 883) (by decide +kernel)⟩
theorem lw_p33 : lw_okq (⟨"EelLocksModel", "layLosses", "(III)V"⟩, 23) := ⟨⟨by decide +kernel, by decide +kernel⟩, List.mem_of_getElem? (i := 625) (by decide +kernel), List.mem_of_getElem? (i := 890) (by decide +kernel), List.mem_of_getElem? (i := 891) (by decide +kernel)⟩
theorem lw_p34 : lw_okq (⟨"EelLocksModel", "isRest", "(I)Z"⟩, 23) := ⟨⟨by decide +kernel, by decide +kernel⟩, List.mem_of_getElem? (i := 625) (by decide +kernel), List.mem_of_getElem? (i := 894) (by decide +kernel), List.mem_of_getElem? (i := 895) (by decide +kernel)⟩
theorem lw_p35 : lw_okq (⟨"EelLocksModel", "isFirst", "(I)Z"⟩, 23) := ⟨⟨by decide +kernel, by decide +kernel⟩, List.mem_of_getElem? (i := 625) (by decide +kernel), List.mem_of_getElem? (i := 915) (by decide +kernel), List.mem_of_getElem? (i := 916) (by decide +kernel)⟩
theorem lw_p36 : lw_okq (⟨"EelLocksModel", "sumOf", "(II)I"⟩, 23) := ⟨⟨by decide +kernel, by decide +kernel⟩, List.mem_of_getElem? (i := 625) (by decide +kernel), List.mem_of_getElem? (i := 931) (by decide +kernel), List.mem_of_getElem? (i := 932) (by decide +kernel)⟩
def lw_privs_3 : List (MethodName × Nat) := [(⟨"EelLocksModel", "comesSo", "(III)Z"⟩, 23), (⟨"EelLocksModel", "layLosses", "(III)V"⟩, 23), (⟨"EelLocksModel", "isRest", "(I)Z"⟩, 23), (⟨"EelLocksModel", "isFirst", "(I)Z"⟩, 23), (⟨"EelLocksModel", "sumOf", "(II)I"⟩, 23)]
theorem lw_r3 : ∀ q ∈ lw_privs_3, lw_okq q := List.forall_mem_cons.mpr ⟨lw_p32, List.forall_mem_cons.mpr ⟨lw_p33, List.forall_mem_cons.mpr ⟨lw_p34, List.forall_mem_cons.mpr ⟨lw_p35, List.forall_mem_cons.mpr ⟨lw_p36, fun _ h => absurd h List.not_mem_nil⟩⟩⟩⟩⟩
def lw_privs : List (MethodName × Nat) := lw_privs_1 ++ (lw_privs_2 ++ (lw_privs_3))
def lw_tbl : List Cond := k2_sels lw_privs ++ tables_1
theorem lw_privs_ok : ∀ q ∈ lw_privs, lw_okq q := by
  show ∀ q ∈ lw_privs_1 ++ (lw_privs_2 ++ (lw_privs_3)), lw_okq q
  exact List.forall_mem_append.mpr ⟨lw_r1, List.forall_mem_append.mpr ⟨lw_r2, lw_r3⟩⟩
def RX0 : String := "EelLocks$Acts"
def TX0 : u_T := fun k => match k with
  | 0 => ("EelLocks$Acts", "before", "[LEelLocks$State;", true)
  | 1 => ("EelLocks$Acts", "oldest", "I", false)
  | _ => ("EelLocks$Acts", "size", "I", false)
def tyX0 : Nat → FieldType := fun k => match k with
  | 0 => .array (.object "EelLocks$State")
  | 1 => .int
  | _ => .int
theorem nmX0 : ∀ a, a < 3 → ∀ b, b < 3 → a ≠ b → (TX0 a).2.1 ≠ (TX0 b).2.1 := by decide +kernel
theorem tyX0_ok : ∀ k, k < 3 → parseFieldDescriptor (TX0 k).2.2.1 = some (tyX0 k) := by decide +kernel
abbrev cX0_init : ByteArray := prog_2_method_1_code
def yX0_init : MethodName := ⟨RX0, "<init>", "()V"⟩
abbrev cX0_remember : ByteArray := prog_2_method_2_code
def yX0_remember : MethodName := ⟨RX0, "remember", "(LEelLocks$State;)V"⟩
abbrev cX0_takeBack : ByteArray := prog_2_method_3_code
def yX0_takeBack : MethodName := ⟨RX0, "takeBack", "(LEelLocks$State;)V"⟩
abbrev cX0_forgetAll : ByteArray := prog_2_method_4_code
def yX0_forgetAll : MethodName := ⟨RX0, "forgetAll", "()V"⟩
def RX1 : String := "EelLocks$Canal"
def TX1 : u_T := fun k => match k with
  | 0 => ("EelLocks$Canal", "lengths", "[I", true)
  | 1 => ("EelLocks$Canal", "weights", "[I", true)
  | 2 => ("EelLocks$Canal", "now", "LEelLocks$State;", true)
  | 3 => ("EelLocks$Canal", "trial", "LEelLocks$State;", true)
  | 4 => ("EelLocks$Canal", "locks", "I", false)
  | _ => ("EelLocks$Canal", "barges", "I", false)
def tyX1 : Nat → FieldType := fun k => match k with
  | 0 => .array .int
  | 1 => .array .int
  | 2 => .object "EelLocks$State"
  | 3 => .object "EelLocks$State"
  | 4 => .int
  | _ => .int
theorem nmX1 : ∀ a, a < 6 → ∀ b, b < 6 → a ≠ b → (TX1 a).2.1 ≠ (TX1 b).2.1 := by decide +kernel
theorem tyX1_ok : ∀ k, k < 6 → parseFieldDescriptor (TX1 k).2.2.1 = some (tyX1 k) := by decide +kernel
abbrev cX1_init : ByteArray := prog_3_method_1_code
def yX1_init : MethodName := ⟨RX1, "<init>", "()V"⟩
abbrev cX1_makeFrom : ByteArray := prog_3_method_2_code
def yX1_makeFrom : MethodName := ⟨RX1, "makeFrom", "(LEelLocks$Text;)V"⟩
abbrev cX1_hasBarge : ByteArray := prog_3_method_3_code
def yX1_hasBarge : MethodName := ⟨RX1, "hasBarge", "(I)Z"⟩
abbrev cX1_hasLock : ByteArray := prog_3_method_4_code
def yX1_hasLock : MethodName := ⟨RX1, "hasLock", "(I)Z"⟩
abbrev cX1_isPassed : ByteArray := prog_3_method_5_code
def yX1_isPassed : MethodName := ⟨RX1, "isPassed", "(I)Z"⟩
abbrev cX1_locksLeft : ByteArray := prog_3_method_6_code
def yX1_locksLeft : MethodName := ⟨RX1, "locksLeft", "()I"⟩
abbrev cX1_newTrial : ByteArray := prog_3_method_7_code
def yX1_newTrial : MethodName := ⟨RX1, "newTrial", "()LEelLocks$State;"⟩
abbrev cX1_atBasin : ByteArray := prog_3_method_8_code
def yX1_atBasin : MethodName := ⟨RX1, "atBasin", "()LEelLocks$State;"⟩
abbrev cX1_goOnTo : ByteArray := prog_3_method_9_code
def yX1_goOnTo : MethodName := ⟨RX1, "goOnTo", "(LEelLocks$State;I)V"⟩
abbrev cX1_goThroughNext : ByteArray := prog_3_method_10_code
def yX1_goThroughNext : MethodName := ⟨RX1, "goThroughNext", "(LEelLocks$State;)V"⟩
abbrev cX1_holdsTwo : ByteArray := prog_3_method_11_code
def yX1_holdsTwo : MethodName := ⟨RX1, "holdsTwo", "(LEelLocks$State;I)Z"⟩
abbrev cX1_isSecondFirst : ByteArray := prog_3_method_12_code
def yX1_isSecondFirst : MethodName := ⟨RX1, "isSecondFirst", "(LEelLocks$State;III)Z"⟩
abbrev cX1_mateAtNext : ByteArray := prog_3_method_13_code
def yX1_mateAtNext : MethodName := ⟨RX1, "mateAtNext", "(LEelLocks$State;I)I"⟩
def RX2 : String := "EelLocks$Guesses"
def TX2 : u_T := fun k => match k with
  | 0 => ("EelLocks$Guesses", "lossOfOne", "[I", true)
  | 1 => ("EelLocks$Guesses", "lossOfOther", "[I", true)
  | 2 => ("EelLocks$Guesses", "found", "I", false)
  | 3 => ("EelLocks$Guesses", "inAll", "I", false)
  | 4 => ("EelLocks$Guesses", "inNone", "I", false)
  | _ => ("EelLocks$Guesses", "firstRest", "I", false)
def tyX2 : Nat → FieldType := fun k => match k with
  | 0 => .array .int
  | 1 => .array .int
  | 2 => .int
  | 3 => .int
  | 4 => .int
  | _ => .int
theorem nmX2 : ∀ a, a < 6 → ∀ b, b < 6 → a ≠ b → (TX2 a).2.1 ≠ (TX2 b).2.1 := by decide +kernel
theorem tyX2_ok : ∀ k, k < 6 → parseFieldDescriptor (TX2 k).2.2.1 = some (tyX2 k) := by decide +kernel
abbrev cX2_init : ByteArray := prog_4_method_1_code
def yX2_init : MethodName := ⟨RX2, "<init>", "()V"⟩
abbrev cX2_findGivers : ByteArray := prog_4_method_2_code
def yX2_findGivers : MethodName := ⟨RX2, "findGivers", "(LEelLocks$Canal;II)V"⟩
abbrev cX2_comesOutSo : ByteArray := prog_4_method_3_code
def yX2_comesOutSo : MethodName := ⟨RX2, "comesOutSo", "(LEelLocks$Canal;III)Z"⟩
abbrev cX2_addGivers : ByteArray := prog_4_method_4_code
def yX2_addGivers : MethodName := ⟨RX2, "addGivers", "(LEelLocks$Canal;LEelLocks$State;II)V"⟩
abbrev cX2_findRests : ByteArray := prog_4_method_5_code
def yX2_findRests : MethodName := ⟨RX2, "findRests", "(LEelLocks$Canal;III)V"⟩
abbrev cX2_findLosses : ByteArray := prog_4_method_6_code
def yX2_findLosses : MethodName := ⟨RX2, "findLosses", "(LEelLocks$Canal;III)V"⟩
abbrev cX2_isAtRest : ByteArray := prog_4_method_7_code
def yX2_isAtRest : MethodName := ⟨RX2, "isAtRest", "(II)Z"⟩
abbrev cX2_asleepAbove : ByteArray := prog_4_method_8_code
def yX2_asleepAbove : MethodName := ⟨RX2, "asleepAbove", "(LEelLocks$Canal;III)I"⟩
abbrev cX2_isAtWith : ByteArray := prog_4_method_9_code
def yX2_isAtWith : MethodName := ⟨RX2, "isAtWith", "(LEelLocks$Canal;III)Z"⟩
abbrev cX2_isFirstIfAllGive : ByteArray := prog_4_method_10_code
def yX2_isFirstIfAllGive : MethodName := ⟨RX2, "isFirstIfAllGive", "(LEelLocks$Canal;II)Z"⟩
def RX3 : String := "EelLocks$Outlook"
def TX3 : u_T := fun k => match k with
  | 0 => ("EelLocks$Outlook", "order", "[I", true)
  | _ => ("EelLocks$Outlook", "figures", "[I", true)
def tyX3 : Nat → FieldType := fun k => match k with
  | 0 => .array .int
  | _ => .array .int
theorem nmX3 : ∀ a, a < 2 → ∀ b, b < 2 → a ≠ b → (TX3 a).2.1 ≠ (TX3 b).2.1 := by decide +kernel
theorem tyX3_ok : ∀ k, k < 2 → parseFieldDescriptor (TX3 k).2.2.1 = some (tyX3 k) := by decide +kernel
abbrev cX3_init : ByteArray := prog_5_method_1_code
def yX3_init : MethodName := ⟨RX3, "<init>", "()V"⟩
abbrev cX3_gainsOf : ByteArray := prog_5_method_2_code
def yX3_gainsOf : MethodName := ⟨RX3, "gainsOf", "(LEelLocks$Canal;I)I"⟩
abbrev cX3_matesOf : ByteArray := prog_5_method_3_code
def yX3_matesOf : MethodName := ⟨RX3, "matesOf", "(LEelLocks$Canal;I)I"⟩
abbrev cX3_firstOrder : ByteArray := prog_5_method_4_code
def yX3_firstOrder : MethodName := ⟨RX3, "firstOrder", "(LEelLocks$Canal;II)I"⟩
abbrev cX3_makeNextOrder : ByteArray := prog_5_method_5_code
def yX3_makeNextOrder : MethodName := ⟨RX3, "makeNextOrder", "(I)V"⟩
abbrev cX3_exchange : ByteArray := prog_5_method_6_code
def yX3_exchange : MethodName := ⟨RX3, "exchange", "(II)V"⟩
abbrev cX3_suits : ByteArray := prog_5_method_7_code
def yX3_suits : MethodName := ⟨RX3, "suits", "(LEelLocks$Canal;LEelLocks$State;II)Z"⟩
abbrev cX3_leastLoads : ByteArray := prog_5_method_8_code
def yX3_leastLoads : MethodName := ⟨RX3, "leastLoads", "(LEelLocks$Canal;II)I"⟩
abbrev cX3_howManyLoads : ByteArray := prog_5_method_9_code
def yX3_howManyLoads : MethodName := ⟨RX3, "howManyLoads", "(I)I"⟩
abbrev cX3_canGive : ByteArray := prog_5_method_10_code
def yX3_canGive : MethodName := ⟨RX3, "canGive", "(LEelLocks$Canal;I)Z"⟩
abbrev cX3_canGiveBoth : ByteArray := prog_5_method_11_code
def yX3_canGiveBoth : MethodName := ⟨RX3, "canGiveBoth", "(LEelLocks$Canal;II)Z"⟩
abbrev cX3_suitsWith : ByteArray := prog_5_method_12_code
def yX3_suitsWith : MethodName := ⟨RX3, "suitsWith", "(LEelLocks$Canal;IIII)Z"⟩
abbrev cX3_spread : ByteArray := prog_5_method_13_code
def yX3_spread : MethodName := ⟨RX3, "spread", "(II)Z"⟩
abbrev cX3_areAllBarges : ByteArray := prog_5_method_14_code
def yX3_areAllBarges : MethodName := ⟨RX3, "areAllBarges", "(LEelLocks$Canal;I)Z"⟩
abbrev cX3_firstMisplaced : ByteArray := prog_5_method_15_code
def yX3_firstMisplaced : MethodName := ⟨RX3, "firstMisplaced", "(LEelLocks$Canal;I)I"⟩
abbrev cX3_shareAbove : ByteArray := prog_5_method_16_code
def yX3_shareAbove : MethodName := ⟨RX3, "shareAbove", "(LEelLocks$Canal;I)I"⟩
abbrev cX3_lastHourOf : ByteArray := prog_5_method_17_code
def yX3_lastHourOf : MethodName := ⟨RX3, "lastHourOf", "(LEelLocks$Canal;I)I"⟩
def RX4 : String := "EelLocks$Slots"
def TX4 : u_T := fun k => match k with
  | 0 => ("EelLocks$Slots", "states", "[LEelLocks$State;", true)
  | _ => ("EelLocks$Slots", "isKept", "[Z", true)
def tyX4 : Nat → FieldType := fun k => match k with
  | 0 => .array (.object "EelLocks$State")
  | _ => .array .boolean
theorem nmX4 : ∀ a, a < 2 → ∀ b, b < 2 → a ≠ b → (TX4 a).2.1 ≠ (TX4 b).2.1 := by decide +kernel
theorem tyX4_ok : ∀ k, k < 2 → parseFieldDescriptor (TX4 k).2.2.1 = some (tyX4 k) := by decide +kernel
abbrev cX4_init : ByteArray := prog_6_method_1_code
def yX4_init : MethodName := ⟨RX4, "<init>", "()V"⟩
abbrev cX4_put : ByteArray := prog_6_method_2_code
def yX4_put : MethodName := ⟨RX4, "put", "(ILEelLocks$State;)V"⟩
abbrev cX4_forgetAll : ByteArray := prog_6_method_3_code
def yX4_forgetAll : MethodName := ⟨RX4, "forgetAll", "()V"⟩
def RX5 : String := "EelLocks$State"
def TX5 : u_T := fun k => match k with
  | 0 => ("EelLocks$State", "row", "[I", true)
  | 1 => ("EelLocks$State", "hours", "[I", true)
  | 2 => ("EelLocks$State", "tea", "[I", true)
  | 3 => ("EelLocks$State", "laws", "[I", true)
  | 4 => ("EelLocks$State", "given", "[I", true)
  | 5 => ("EelLocks$State", "size", "I", false)
  | _ => ("EelLocks$State", "passed", "I", false)
def tyX5 : Nat → FieldType := fun k => match k with
  | 0 => .array .int
  | 1 => .array .int
  | 2 => .array .int
  | 3 => .array .int
  | 4 => .array .int
  | 5 => .int
  | _ => .int
theorem nmX5 : ∀ a, a < 7 → ∀ b, b < 7 → a ≠ b → (TX5 a).2.1 ≠ (TX5 b).2.1 := by decide +kernel
theorem tyX5_ok : ∀ k, k < 7 → parseFieldDescriptor (TX5 k).2.2.1 = some (tyX5 k) := by decide +kernel
abbrev cX5_init : ByteArray := prog_7_method_1_code
def yX5_init : MethodName := ⟨RX5, "<init>", "()V"⟩
abbrev cX5_copyFrom : ByteArray := prog_7_method_2_code
def yX5_copyFrom : MethodName := ⟨RX5, "copyFrom", "(LEelLocks$State;)V"⟩
abbrev cX5_clearAll : ByteArray := prog_7_method_3_code
def yX5_clearAll : MethodName := ⟨RX5, "clearAll", "()V"⟩
abbrev cX5_clearHours : ByteArray := prog_7_method_4_code
def yX5_clearHours : MethodName := ⟨RX5, "clearHours", "()V"⟩
abbrev cX5_placeOf : ByteArray := prog_7_method_5_code
def yX5_placeOf : MethodName := ⟨RX5, "placeOf", "(I)I"⟩
abbrev cX5_isAt : ByteArray := prog_7_method_6_code
def yX5_isAt : MethodName := ⟨RX5, "isAt", "(II)Z"⟩
abbrev cX5_turn : ByteArray := prog_7_method_7_code
def yX5_turn : MethodName := ⟨RX5, "turn", "(I)V"⟩
abbrev cX5_figures : ByteArray := prog_7_method_8_code
def yX5_figures : MethodName := ⟨RX5, "figures", "()I"⟩
abbrev cX5_greatestHour : ByteArray := prog_7_method_9_code
def yX5_greatestHour : MethodName := ⟨RX5, "greatestHour", "()I"⟩
abbrev cX5_loadsOf : ByteArray := prog_7_method_10_code
def yX5_loadsOf : MethodName := ⟨RX5, "loadsOf", "(II)I"⟩
abbrev cX5_addLoads : ByteArray := prog_7_method_11_code
def yX5_addLoads : MethodName := ⟨RX5, "addLoads", "(III)V"⟩
abbrev cX5_loadsAt : ByteArray := prog_7_method_12_code
def yX5_loadsAt : MethodName := ⟨RX5, "loadsAt", "(I)I"⟩
def RX6 : String := "EelLocks$Text"
def TX6 : u_T := fun k => match k with
  | 0 => ("EelLocks$Text", "letters", "[I", true)
  | _ => ("EelLocks$Text", "length", "I", false)
def tyX6 : Nat → FieldType := fun k => match k with
  | 0 => .array .int
  | _ => .int
theorem nmX6 : ∀ a, a < 2 → ∀ b, b < 2 → a ≠ b → (TX6 a).2.1 ≠ (TX6 b).2.1 := by decide +kernel
theorem tyX6_ok : ∀ k, k < 2 → parseFieldDescriptor (TX6 k).2.2.1 = some (tyX6 k) := by decide +kernel
abbrev cX6_init : ByteArray := prog_8_method_1_code
def yX6_init : MethodName := ⟨RX6, "<init>", "()V"⟩
abbrev cX6_append : ByteArray := prog_8_method_2_code
def yX6_append : MethodName := ⟨RX6, "append", "(I)V"⟩
abbrev cX6_faultPlace : ByteArray := prog_8_method_3_code
def yX6_faultPlace : MethodName := ⟨RX6, "faultPlace", "()I"⟩
abbrev cX6_dueBehind : ByteArray := prog_8_method_4_code
def yX6_dueBehind : MethodName := ⟨RX6, "dueBehind", "(II)I"⟩
abbrev cX6_figureAt : ByteArray := prog_8_method_5_code
def yX6_figureAt : MethodName := ⟨RX6, "figureAt", "(I)I"⟩
def RX7 : String := "EelLocks"
def TX7 : u_T := fun k => match k with
  | 0 => ("EelLocks", "text", "LEelLocks$Text;", true)
  | 1 => ("EelLocks", "way", "LEelLocks$Canal;", true)
  | 2 => ("EelLocks", "acts", "LEelLocks$Acts;", true)
  | 3 => ("EelLocks", "slots", "LEelLocks$Slots;", true)
  | 4 => ("EelLocks", "outlook", "LEelLocks$Outlook;", true)
  | 5 => ("EelLocks", "guesses", "LEelLocks$Guesses;", true)
  | _ => ("EelLocks", "seedNow", "J", false)
def tyX7 : Nat → FieldType := fun k => match k with
  | 0 => .object "EelLocks$Text"
  | 1 => .object "EelLocks$Canal"
  | 2 => .object "EelLocks$Acts"
  | 3 => .object "EelLocks$Slots"
  | 4 => .object "EelLocks$Outlook"
  | 5 => .object "EelLocks$Guesses"
  | _ => .long
theorem nmX7 : ∀ a, a < 7 → ∀ b, b < 7 → a ≠ b → (TX7 a).2.1 ≠ (TX7 b).2.1 := by decide +kernel
theorem tyX7_ok : ∀ k, k < 7 → parseFieldDescriptor (TX7 k).2.2.1 = some (tyX7 k) := by decide +kernel
abbrev cX7_init : ByteArray := prog_1_method_1_code
def yX7_init : MethodName := ⟨RX7, "<init>", "()V"⟩
abbrev cX7_write : ByteArray := prog_1_method_2_code
def yX7_write : MethodName := ⟨RX7, "write", "(I)I"⟩
abbrev cX7_wipe : ByteArray := prog_1_method_3_code
def yX7_wipe : MethodName := ⟨RX7, "wipe", "()I"⟩
abbrev cX7_fault : ByteArray := prog_1_method_4_code
def yX7_fault : MethodName := ⟨RX7, "fault", "()I"⟩
abbrev cX7_canal : ByteArray := prog_1_method_5_code
def yX7_canal : MethodName := ⟨RX7, "canal", "()I"⟩
abbrev cX7_barge : ByteArray := prog_1_method_6_code
def yX7_barge : MethodName := ⟨RX7, "barge", "(II)I"⟩
abbrev cX7_lock : ByteArray := prog_1_method_7_code
def yX7_lock : MethodName := ⟨RX7, "lock", "(II)I"⟩
abbrev cX7_pass : ByteArray := prog_1_method_8_code
def yX7_pass : MethodName := ⟨RX7, "pass", "()I"⟩
abbrev cX7_give : ByteArray := prog_1_method_9_code
def yX7_give : MethodName := ⟨RX7, "give", "(II)I"⟩
abbrev cX7_letBy : ByteArray := prog_1_method_10_code
def yX7_letBy : MethodName := ⟨RX7, "letBy", "(I)I"⟩
abbrev cX7_learn : ByteArray := prog_1_method_11_code
def yX7_learn : MethodName := ⟨RX7, "learn", "(II)I"⟩
abbrev cX7_undo : ByteArray := prog_1_method_12_code
def yX7_undo : MethodName := ⟨RX7, "undo", "()I"⟩
abbrev cX7_basin : ByteArray := prog_1_method_13_code
def yX7_basin : MethodName := ⟨RX7, "basin", "()I"⟩
abbrev cX7_hour : ByteArray := prog_1_method_14_code
def yX7_hour : MethodName := ⟨RX7, "hour", "(I)I"⟩
abbrev cX7_gains : ByteArray := prog_1_method_15_code
def yX7_gains : MethodName := ⟨RX7, "gains", "(I)I"⟩
abbrev cX7_mates : ByteArray := prog_1_method_16_code
def yX7_mates : MethodName := ⟨RX7, "mates", "(I)I"⟩
abbrev cX7_first : ByteArray := prog_1_method_17_code
def yX7_first : MethodName := ⟨RX7, "first", "(II)I"⟩
abbrev cX7_tea : ByteArray := prog_1_method_18_code
def yX7_tea : MethodName := ⟨RX7, "tea", "(IIZ)I"⟩
abbrev cX7_judge : ByteArray := prog_1_method_19_code
def yX7_judge : MethodName := ⟨RX7, "judge", "(II)I"⟩
abbrev cX7_share : ByteArray := prog_1_method_20_code
def yX7_share : MethodName := ⟨RX7, "share", "(IZ)I"⟩
abbrev cX7_gave : ByteArray := prog_1_method_21_code
def yX7_gave : MethodName := ⟨RX7, "gave", "(III)I"⟩
abbrev cX7_rests : ByteArray := prog_1_method_22_code
def yX7_rests : MethodName := ⟨RX7, "rests", "(IIII)I"⟩
abbrev cX7_asleep : ByteArray := prog_1_method_23_code
def yX7_asleep : MethodName := ⟨RX7, "asleep", "(IIIZ)I"⟩
abbrev cX7_seed : ByteArray := prog_1_method_24_code
def yX7_seed : MethodName := ⟨RX7, "seed", "(J)J"⟩
abbrev cX7_days : ByteArray := prog_1_method_25_code
def yX7_days : MethodName := ⟨RX7, "days", "(II)I"⟩
abbrev cX7_keep : ByteArray := prog_1_method_26_code
def yX7_keep : MethodName := ⟨RX7, "keep", "(I)I"⟩
abbrev cX7_again : ByteArray := prog_1_method_27_code
def yX7_again : MethodName := ⟨RX7, "again", "(I)I"⟩
abbrev cX7_count : ByteArray := prog_1_method_28_code
def yX7_count : MethodName := ⟨RX7, "count", "(I)I"⟩
abbrev cX7_refusalOfTwo : ByteArray := prog_1_method_29_code
def yX7_refusalOfTwo : MethodName := ⟨RX7, "refusalOfTwo", "(II)I"⟩
abbrev cX7_sum : ByteArray := prog_1_method_30_code
def yX7_sum : MethodName := ⟨RX7, "sum", "([II)I"⟩
abbrev cX7_power : ByteArray := prog_1_method_31_code
def yX7_power : MethodName := ⟨RX7, "power", "(II)I"⟩
abbrev cX7_tellFraction : ByteArray := prog_1_method_32_code
def yX7_tellFraction : MethodName := ⟨RX7, "tellFraction", "(IIZ)I"⟩
abbrev cX7_greatestDivisor : ByteArray := prog_1_method_33_code
def yX7_greatestDivisor : MethodName := ⟨RX7, "greatestDivisor", "(II)I"⟩
def RX8 : String := "EelLocksModel"
def TX8 : u_T := fun k => match k with
  | 0 => ("EelLocksModel", "locks", "I", false)
  | 1 => ("EelLocksModel", "barges", "I", false)
  | 2 => ("EelLocksModel", "longs", "[I", true)
  | 3 => ("EelLocksModel", "heavy", "[I", true)
  | 4 => ("EelLocksModel", "now", "[I", true)
  | 5 => ("EelLocksModel", "readLaw", "[I", true)
  | 6 => ("EelLocksModel", "readBarge", "[I", true)
  | 7 => ("EelLocksModel", "readLocks", "I", false)
  | 8 => ("EelLocksModel", "readBarges", "I", false)
  | 9 => ("EelLocksModel", "text", "[I", true)
  | 10 => ("EelLocksModel", "length", "I", false)
  | 11 => ("EelLocksModel", "at", "I", false)
  | 12 => ("EelLocksModel", "faultAt", "I", false)
  | 13 => ("EelLocksModel", "with", "[I", true)
  | 14 => ("EelLocksModel", "acts", "I", false)
  | 15 => ("EelLocksModel", "next", "I", false)
  | 16 => ("EelLocksModel", "row", "[I", true)
  | 17 => ("EelLocksModel", "greatests", "[I", true)
  | 18 => ("EelLocksModel", "ones16", "[I", true)
  | 19 => ("EelLocksModel", "others16", "[I", true)
  | 20 => ("EelLocksModel", "seed", "J", false)
  | 21 => ("EelLocksModel", "isKept", "[Z", true)
  | _ => ("EelLocksModel", "kept", "[I", true)
def tyX8 : Nat → FieldType := fun k => match k with
  | 0 => .int
  | 1 => .int
  | 2 => .array .int
  | 3 => .array .int
  | 4 => .array .int
  | 5 => .array .int
  | 6 => .array .int
  | 7 => .int
  | 8 => .int
  | 9 => .array .int
  | 10 => .int
  | 11 => .int
  | 12 => .int
  | 13 => .array .int
  | 14 => .int
  | 15 => .int
  | 16 => .array .int
  | 17 => .array .int
  | 18 => .array .int
  | 19 => .array .int
  | 20 => .long
  | 21 => .array .boolean
  | _ => .array .int
theorem nmX8 : ∀ a, a < 23 → ∀ b, b < 23 → a ≠ b → (TX8 a).2.1 ≠ (TX8 b).2.1 := by decide +kernel
theorem tyX8_ok : ∀ k, k < 23 → parseFieldDescriptor (TX8 k).2.2.1 = some (tyX8 k) := by decide +kernel
abbrev cX8_init : ByteArray := prog_10_method_1_code
def yX8_init : MethodName := ⟨RX8, "<init>", "()V"⟩
abbrev cX8_in : ByteArray := prog_10_method_3_code
def yX8_in : MethodName := ⟨RX8, "in", "(JJJ)Z"⟩
abbrev cX8_has : ByteArray := prog_10_method_4_code
def yX8_has : MethodName := ⟨RX8, "has", "(II)Z"⟩
abbrev cX8_ones : ByteArray := prog_10_method_5_code
def yX8_ones : MethodName := ⟨RX8, "ones", "(I)I"⟩
abbrev cX8_write : ByteArray := prog_10_method_6_code
def yX8_write : MethodName := ⟨RX8, "write", "(I)I"⟩
abbrev cX8_wipe : ByteArray := prog_10_method_7_code
def yX8_wipe : MethodName := ⟨RX8, "wipe", "()I"⟩
abbrev cX8_figure : ByteArray := prog_10_method_8_code
def yX8_figure : MethodName := ⟨RX8, "figure", "(II)I"⟩
abbrev cX8_readText : ByteArray := prog_10_method_9_code
def yX8_readText : MethodName := ⟨RX8, "readText", "()I"⟩
abbrev cX8_fault : ByteArray := prog_10_method_10_code
def yX8_fault : MethodName := ⟨RX8, "fault", "()I"⟩
abbrev cX8_canal : ByteArray := prog_10_method_11_code
def yX8_canal : MethodName := ⟨RX8, "canal", "()I"⟩
abbrev cX8_isBarge : ByteArray := prog_10_method_12_code
def yX8_isBarge : MethodName := ⟨RX8, "isBarge", "(I)Z"⟩
abbrev cX8_isLock : ByteArray := prog_10_method_13_code
def yX8_isLock : MethodName := ⟨RX8, "isLock", "(I)Z"⟩
abbrev cX8_placeOf : ByteArray := prog_10_method_14_code
def yX8_placeOf : MethodName := ⟨RX8, "placeOf", "(III)I"⟩
abbrev cX8_barge : ByteArray := prog_10_method_15_code
def yX8_barge : MethodName := ⟨RX8, "barge", "(II)I"⟩
abbrev cX8_givenAt : ByteArray := prog_10_method_16_code
def yX8_givenAt : MethodName := ⟨RX8, "givenAt", "(I)I"⟩
abbrev cX8_lock : ByteArray := prog_10_method_17_code
def yX8_lock : MethodName := ⟨RX8, "lock", "(II)I"⟩
abbrev cX8_isChanged : ByteArray := prog_10_method_18_code
def yX8_isChanged : MethodName := ⟨RX8, "isChanged", "(IIII)Z"⟩
abbrev cX8_more : ByteArray := prog_10_method_19_code
def yX8_more : MethodName := ⟨RX8, "more", "(II)I"⟩
abbrev cX8_passOn : ByteArray := prog_10_method_20_code
def yX8_passOn : MethodName := ⟨RX8, "passOn", "(II)V"⟩
abbrev cX8_figuresOf : ByteArray := prog_10_method_21_code
def yX8_figuresOf : MethodName := ⟨RX8, "figuresOf", "(II)I"⟩
abbrev cX8_keepAct : ByteArray := prog_10_method_22_code
def yX8_keepAct : MethodName := ⟨RX8, "keepAct", "()V"⟩
abbrev cX8_pass : ByteArray := prog_10_method_23_code
def yX8_pass : MethodName := ⟨RX8, "pass", "()I"⟩
abbrev cX8_give : ByteArray := prog_10_method_24_code
def yX8_give : MethodName := ⟨RX8, "give", "(II)I"⟩
abbrev cX8_letBy : ByteArray := prog_10_method_25_code
def yX8_letBy : MethodName := ⟨RX8, "letBy", "(I)I"⟩
abbrev cX8_learn : ByteArray := prog_10_method_26_code
def yX8_learn : MethodName := ⟨RX8, "learn", "(II)I"⟩
abbrev cX8_undo : ByteArray := prog_10_method_27_code
def yX8_undo : MethodName := ⟨RX8, "undo", "()I"⟩
abbrev cX8_layTrial : ByteArray := prog_10_method_28_code
def yX8_layTrial : MethodName := ⟨RX8, "layTrial", "()V"⟩
abbrev cX8_passAll : ByteArray := prog_10_method_29_code
def yX8_passAll : MethodName := ⟨RX8, "passAll", "(I)V"⟩
abbrev cX8_layBasin : ByteArray := prog_10_method_30_code
def yX8_layBasin : MethodName := ⟨RX8, "layBasin", "()V"⟩
abbrev cX8_basin : ByteArray := prog_10_method_31_code
def yX8_basin : MethodName := ⟨RX8, "basin", "()I"⟩
abbrev cX8_hour : ByteArray := prog_10_method_32_code
def yX8_hour : MethodName := ⟨RX8, "hour", "(I)I"⟩
abbrev cX8_gains : ByteArray := prog_10_method_33_code
def yX8_gains : MethodName := ⟨RX8, "gains", "(I)I"⟩
abbrev cX8_mates : ByteArray := prog_10_method_34_code
def yX8_mates : MethodName := ⟨RX8, "mates", "(I)I"⟩
abbrev cX8_isSo : ByteArray := prog_10_method_35_code
def yX8_isSo : MethodName := ⟨RX8, "isSo", "(II)Z"⟩
abbrev cX8_factorial : ByteArray := prog_10_method_36_code
def yX8_factorial : MethodName := ⟨RX8, "factorial", "(I)I"⟩
abbrev cX8_layOrder : ByteArray := prog_10_method_37_code
def yX8_layOrder : MethodName := ⟨RX8, "layOrder", "(I)V"⟩
abbrev cX8_first : ByteArray := prog_10_method_38_code
def yX8_first : MethodName := ⟨RX8, "first", "(II)I"⟩
abbrev cX8_giveTrial : ByteArray := prog_10_method_39_code
def yX8_giveTrial : MethodName := ⟨RX8, "giveTrial", "(II)Z"⟩
abbrev cX8_tea : ByteArray := prog_10_method_40_code
def yX8_tea : MethodName := ⟨RX8, "tea", "(IIZ)I"⟩
abbrev cX8_tenTo : ByteArray := prog_10_method_41_code
def yX8_tenTo : MethodName := ⟨RX8, "tenTo", "(I)I"⟩
abbrev cX8_judge : ByteArray := prog_10_method_42_code
def yX8_judge : MethodName := ⟨RX8, "judge", "(II)I"⟩
abbrev cX8_greatest : ByteArray := prog_10_method_43_code
def yX8_greatest : MethodName := ⟨RX8, "greatest", "(II)I"⟩
abbrev cX8_hoursBy : ByteArray := prog_10_method_44_code
def yX8_hoursBy : MethodName := ⟨RX8, "hoursBy", "(I)I"⟩
abbrev cX8_common : ByteArray := prog_10_method_45_code
def yX8_common : MethodName := ⟨RX8, "common", "(II)I"⟩
abbrev cX8_share : ByteArray := prog_10_method_46_code
def yX8_share : MethodName := ⟨RX8, "share", "(IZ)I"⟩
abbrev cX8_isOrder : ByteArray := prog_10_method_47_code
def yX8_isOrder : MethodName := ⟨RX8, "isOrder", "(I)Z"⟩
abbrev cX8_comesSo : ByteArray := prog_10_method_48_code
def yX8_comesSo : MethodName := ⟨RX8, "comesSo", "(III)Z"⟩
abbrev cX8_gave : ByteArray := prog_10_method_49_code
def yX8_gave : MethodName := ⟨RX8, "gave", "(III)I"⟩
abbrev cX8_layLosses : ByteArray := prog_10_method_50_code
def yX8_layLosses : MethodName := ⟨RX8, "layLosses", "(III)V"⟩
abbrev cX8_isRest : ByteArray := prog_10_method_51_code
def yX8_isRest : MethodName := ⟨RX8, "isRest", "(I)Z"⟩
abbrev cX8_rests : ByteArray := prog_10_method_52_code
def yX8_rests : MethodName := ⟨RX8, "rests", "(IIII)I"⟩
abbrev cX8_asleep : ByteArray := prog_10_method_53_code
def yX8_asleep : MethodName := ⟨RX8, "asleep", "(IIIZ)I"⟩
abbrev cX8_seed : ByteArray := prog_10_method_54_code
def yX8_seed : MethodName := ⟨RX8, "seed", "(J)J"⟩
abbrev cX8_days : ByteArray := prog_10_method_55_code
def yX8_days : MethodName := ⟨RX8, "days", "(II)I"⟩
abbrev cX8_isFirst : ByteArray := prog_10_method_56_code
def yX8_isFirst : MethodName := ⟨RX8, "isFirst", "(I)Z"⟩
abbrev cX8_keep : ByteArray := prog_10_method_57_code
def yX8_keep : MethodName := ⟨RX8, "keep", "(I)I"⟩
abbrev cX8_again : ByteArray := prog_10_method_58_code
def yX8_again : MethodName := ⟨RX8, "again", "(I)I"⟩
abbrev cX8_sumOf : ByteArray := prog_10_method_59_code
def yX8_sumOf : MethodName := ⟨RX8, "sumOf", "(II)I"⟩
abbrev cX8_count : ByteArray := prog_10_method_60_code
def yX8_count : MethodName := ⟨RX8, "count", "(I)I"⟩
def RJ6 : String := "java/lang/Integer"
def TJ6 : u_T := fun k => match k with
  | _ => ("", "", "", false)
def tyJ6 : Nat → FieldType := fun k => match k with
  | _ => .int
theorem nmJ6 : ∀ a, a < 0 → ∀ b, b < 0 → a ≠ b → (TJ6 a).2.1 ≠ (TJ6 b).2.1 := by decide +kernel
theorem tyJ6_ok : ∀ k, k < 0 → parseFieldDescriptor (TJ6 k).2.2.1 = some (tyJ6 k) := by decide +kernel
abbrev cJ6_bitCount_0f7a4 : ByteArray := prog_11_method_49_code
def yJ6_bitCount_0f7a4 : MethodName := ⟨RJ6, "bitCount", "(I)I"⟩
def RJ9 : String := "java/lang/Math"
def TJ9 : u_T := fun k => match k with
  | _ => ("", "", "", false)
def tyJ9 : Nat → FieldType := fun k => match k with
  | _ => .int
theorem nmJ9 : ∀ a, a < 0 → ∀ b, b < 0 → a ≠ b → (TJ9 a).2.1 ≠ (TJ9 b).2.1 := by decide +kernel
theorem tyJ9_ok : ∀ k, k < 0 → parseFieldDescriptor (TJ9 k).2.2.1 = some (tyJ9 k) := by decide +kernel
abbrev cJ9_abs_0f7a4 : ByteArray := prog_12_method_59_code
def yJ9_abs_0f7a4 : MethodName := ⟨RJ9, "abs", "(I)I"⟩
abbrev cJ9_max_7cf53 : ByteArray := prog_12_method_65_code
def yJ9_max_7cf53 : MethodName := ⟨RJ9, "max", "(II)I"⟩
def RJ10 : String := "java/lang/System"
def TJ10 : u_T := fun k => match k with
  | _ => ("", "", "", false)
def tyJ10 : Nat → FieldType := fun k => match k with
  | _ => .int
theorem nmJ10 : ∀ a, a < 0 → ∀ b, b < 0 → a ≠ b → (TJ10 a).2.1 ≠ (TJ10 b).2.1 := by decide +kernel
theorem tyJ10_ok : ∀ k, k < 0 → parseFieldDescriptor (TJ10 k).2.2.1 = some (tyJ10 k) := by decide +kernel
def RL : String := "EelLocksLaw"
abbrev cL_law : ByteArray := code
def yL_law : MethodName := ⟨RL, "law", "([I)Z"⟩
