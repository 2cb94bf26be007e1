section
-- ===== PART A: goes FIRST, ahead of the names: the tables' words, and 'selects' of the private methods out of them =====
/-- a private method of a class that the tables say can be made, by its rows of tables_1 -/
def lw_okq (q : MethodName × Nat) : Prop := (q.1.cls ≠ "java/lang/invoke/MethodHandle" ∧ q.1.cls ≠ "java/lang/invoke/VarHandle") ∧ Cond.instantiable q.1.cls q.2 ∈ tables_1 ∧ Cond.privateMethod q.1 ∈ tables_1 ∧ Cond.instanceMethod q.1 ∈ tables_1
theorem lw_p0 : lw_okq (⟨"LameLead$Text", "letterAt", "(I)I"⟩, 2) := ⟨⟨by decide +kernel, by decide +kernel⟩, List.mem_of_getElem? (i := 22) (by decide +kernel), List.mem_of_getElem? (i := 234) (by decide +kernel), List.mem_of_getElem? (i := 235) (by decide +kernel)⟩
theorem lw_p1 : lw_okq (⟨"LameLead$Text", "misfitFrom", "(I[I[I)I"⟩, 2) := ⟨⟨by decide +kernel, by decide +kernel⟩, List.mem_of_getElem? (i := 22) (by decide +kernel), List.mem_of_getElem? (i := 242) (by decide +kernel), List.mem_of_getElem? (i := 243) (by decide +kernel)⟩
theorem lw_p2 : lw_okq (⟨"LameLead$Text", "figureAt", "(I)I"⟩, 2) := ⟨⟨by decide +kernel, by decide +kernel⟩, List.mem_of_getElem? (i := 22) (by decide +kernel), List.mem_of_getElem? (i := 246) (by decide +kernel), List.mem_of_getElem? (i := 247) (by decide +kernel)⟩
theorem lw_p3 : lw_okq (⟨"LameLead$Acts", "forgetFirst", "()V"⟩, 2) := ⟨⟨by decide +kernel, by decide +kernel⟩, List.mem_of_getElem? (i := 105) (by decide +kernel), List.mem_of_getElem? (i := 407) (by decide +kernel), List.mem_of_getElem? (i := 408) (by decide +kernel)⟩
theorem lw_p4 : lw_okq (⟨"LameLead$March", "healAll", "()V"⟩, 6) := ⟨⟨by decide +kernel, by decide +kernel⟩, List.mem_of_getElem? (i := 80) (by decide +kernel), List.mem_of_getElem? (i := 436) (by decide +kernel), List.mem_of_getElem? (i := 437) (by decide +kernel)⟩
theorem lw_p5 : lw_okq (⟨"LameLead$Outlook", "daysIfEased", "(I)I"⟩, 3) := ⟨⟨by decide +kernel, by decide +kernel⟩, List.mem_of_getElem? (i := 119) (by decide +kernel), List.mem_of_getElem? (i := 543) (by decide +kernel), List.mem_of_getElem? (i := 544) (by decide +kernel)⟩
theorem lw_p6 : lw_okq (⟨"LameLead$Outlook", "pullsOf", "(II)I"⟩, 3) := ⟨⟨by decide +kernel, by decide +kernel⟩, List.mem_of_getElem? (i := 119) (by decide +kernel), List.mem_of_getElem? (i := 563) (by decide +kernel), List.mem_of_getElem? (i := 564) (by decide +kernel)⟩
theorem lw_p7 : lw_okq (⟨"LameLead$Outlook", "canPull", "(I)Z"⟩, 3) := ⟨⟨by decide +kernel, by decide +kernel⟩, List.mem_of_getElem? (i := 119) (by decide +kernel), List.mem_of_getElem? (i := 567) (by decide +kernel), List.mem_of_getElem? (i := 568) (by decide +kernel)⟩
theorem lw_p8 : lw_okq (⟨"LameLead$Outlook", "isInTime", "(II)Z"⟩, 3) := ⟨⟨by decide +kernel, by decide +kernel⟩, List.mem_of_getElem? (i := 119) (by decide +kernel), List.mem_of_getElem? (i := 572) (by decide +kernel), List.mem_of_getElem? (i := 573) (by decide +kernel)⟩
theorem lw_p9 : lw_okq (⟨"LameLead$Outlook", "does", "(III)Z"⟩, 3) := ⟨⟨by decide +kernel, by decide +kernel⟩, List.mem_of_getElem? (i := 119) (by decide +kernel), List.mem_of_getElem? (i := 598) (by decide +kernel), List.mem_of_getElem? (i := 599) (by decide +kernel)⟩
theorem lw_p10 : lw_okq (⟨"LameLead$Outlook", "doesPlain", "(II)Z"⟩, 3) := ⟨⟨by decide +kernel, by decide +kernel⟩, List.mem_of_getElem? (i := 119) (by decide +kernel), List.mem_of_getElem? (i := 602) (by decide +kernel), List.mem_of_getElem? (i := 603) (by decide +kernel)⟩
theorem lw_p11 : lw_okq (⟨"LameLead$Outlook", "mileOfSome", "(I)I"⟩, 3) := ⟨⟨by decide +kernel, by decide +kernel⟩, List.mem_of_getElem? (i := 119) (by decide +kernel), List.mem_of_getElem? (i := 629) (by decide +kernel), List.mem_of_getElem? (i := 630) (by decide +kernel)⟩
theorem lw_p12 : lw_okq (⟨"LameLead$Trials", "fits", "(II)Z"⟩, 4) := ⟨⟨by decide +kernel, by decide +kernel⟩, List.mem_of_getElem? (i := 154) (by decide +kernel), List.mem_of_getElem? (i := 675) (by decide +kernel), List.mem_of_getElem? (i := 676) (by decide +kernel)⟩
theorem lw_p13 : lw_okq (⟨"LameLead$Chances", "isRest", "(I)Z"⟩, 4) := ⟨⟨by decide +kernel, by decide +kernel⟩, List.mem_of_getElem? (i := 135) (by decide +kernel), List.mem_of_getElem? (i := 701) (by decide +kernel), List.mem_of_getElem? (i := 702) (by decide +kernel)⟩
theorem lw_p14 : lw_okq (⟨"LameLead$Chances", "isInTimePricked", "(II)Z"⟩, 4) := ⟨⟨by decide +kernel, by decide +kernel⟩, List.mem_of_getElem? (i := 135) (by decide +kernel), List.mem_of_getElem? (i := 721) (by decide +kernel), List.mem_of_getElem? (i := 722) (by decide +kernel)⟩
theorem lw_p15 : lw_okq (⟨"LameLeadModel", "readArmy", "()I"⟩, 36) := ⟨⟨by decide +kernel, by decide +kernel⟩, List.mem_of_getElem? (i := 756) (by decide +kernel), List.mem_of_getElem? (i := 887) (by decide +kernel), List.mem_of_getElem? (i := 888) (by decide +kernel)⟩
def lw_privs_1 : List (MethodName × Nat) := [(⟨"LameLead$Text", "letterAt", "(I)I"⟩, 2), (⟨"LameLead$Text", "misfitFrom", "(I[I[I)I"⟩, 2), (⟨"LameLead$Text", "figureAt", "(I)I"⟩, 2), (⟨"LameLead$Acts", "forgetFirst", "()V"⟩, 2), (⟨"LameLead$March", "healAll", "()V"⟩, 6), (⟨"LameLead$Outlook", "daysIfEased", "(I)I"⟩, 3), (⟨"LameLead$Outlook", "pullsOf", "(II)I"⟩, 3), (⟨"LameLead$Outlook", "canPull", "(I)Z"⟩, 3), (⟨"LameLead$Outlook", "isInTime", "(II)Z"⟩, 3), (⟨"LameLead$Outlook", "does", "(III)Z"⟩, 3), (⟨"LameLead$Outlook", "doesPlain", "(II)Z"⟩, 3), (⟨"LameLead$Outlook", "mileOfSome", "(I)I"⟩, 3), (⟨"LameLead$Trials", "fits", "(II)Z"⟩, 4), (⟨"LameLead$Chances", "isRest", "(I)Z"⟩, 4), (⟨"LameLead$Chances", "isInTimePricked", "(II)Z"⟩, 4), (⟨"LameLeadModel", "readArmy", "()I"⟩, 36)]
theorem lw_r1 : ∀ q ∈ lw_privs_1, lw_okq q := List.forall_mem_cons.mpr ⟨lw_p0, List.forall_mem_cons.mpr ⟨lw_p1, List.forall_mem_cons.mpr ⟨lw_p2, List.forall_mem_cons.mpr ⟨lw_p3, List.forall_mem_cons.mpr ⟨lw_p4, List.forall_mem_cons.mpr ⟨lw_p5, List.forall_mem_cons.mpr ⟨lw_p6, List.forall_mem_cons.mpr ⟨lw_p7, List.forall_mem_cons.mpr ⟨lw_p8, List.forall_mem_cons.mpr ⟨lw_p9, List.forall_mem_cons.mpr ⟨lw_p10, List.forall_mem_cons.mpr ⟨lw_p11, List.forall_mem_cons.mpr ⟨lw_p12, List.forall_mem_cons.mpr ⟨lw_p13, List.forall_mem_cons.mpr ⟨lw_p14, List.forall_mem_cons.mpr ⟨lw_p15, fun _ h => absurd h List.not_mem_nil⟩⟩⟩⟩⟩⟩⟩⟩⟩⟩⟩⟩⟩⟩⟩⟩
theorem lw_p16 : lw_okq (⟨"LameLeadModel", "readThing", "()Z"⟩, 36) := ⟨⟨by decide +kernel, by decide +kernel⟩, List.mem_of_getElem? (i := 756) (by decide +kernel), List.mem_of_getElem? (i := 891) (by decide +kernel), List.mem_of_getElem? (i := 892) (by decide +kernel)⟩
theorem lw_p17 : lw_okq (⟨"LameLeadModel", "readOneStretch", "()Z"⟩, 36) := ⟨⟨by decide +kernel, by decide +kernel⟩, List.mem_of_getElem? (i := 756) (by decide +kernel), List.mem_of_getElem? (i := 895) (by decide +kernel), List.mem_of_getElem? (i := 896) (by decide +kernel)⟩
theorem lw_p18 : lw_okq (⟨"LameLeadModel", "figure", "(II)I"⟩, 36) := ⟨⟨by decide +kernel, by decide +kernel⟩, List.mem_of_getElem? (i := 756) (by decide +kernel), List.mem_of_getElem? (i := 899) (by decide +kernel), List.mem_of_getElem? (i := 900) (by decide +kernel)⟩
theorem lw_p19 : lw_okq (⟨"LameLeadModel", "readOneMan", "()Z"⟩, 36) := ⟨⟨by decide +kernel, by decide +kernel⟩, List.mem_of_getElem? (i := 756) (by decide +kernel), List.mem_of_getElem? (i := 903) (by decide +kernel), List.mem_of_getElem? (i := 904) (by decide +kernel)⟩
theorem lw_p20 : lw_okq (⟨"LameLeadModel", "leader", "([II)I"⟩, 36) := ⟨⟨by decide +kernel, by decide +kernel⟩, List.mem_of_getElem? (i := 756) (by decide +kernel), List.mem_of_getElem? (i := 915) (by decide +kernel), List.mem_of_getElem? (i := 916) (by decide +kernel)⟩
theorem lw_p21 : lw_okq (⟨"LameLeadModel", "speed", "([II)I"⟩, 36) := ⟨⟨by decide +kernel, by decide +kernel⟩, List.mem_of_getElem? (i := 756) (by decide +kernel), List.mem_of_getElem? (i := 922) (by decide +kernel), List.mem_of_getElem? (i := 923) (by decide +kernel)⟩
theorem lw_p22 : lw_okq (⟨"LameLeadModel", "stretchAt", "(I)I"⟩, 36) := ⟨⟨by decide +kernel, by decide +kernel⟩, List.mem_of_getElem? (i := 756) (by decide +kernel), List.mem_of_getElem? (i := 929) (by decide +kernel), List.mem_of_getElem? (i := 930) (by decide +kernel)⟩
theorem lw_p23 : lw_okq (⟨"LameLeadModel", "begins", "(I)I"⟩, 36) := ⟨⟨by decide +kernel, by decide +kernel⟩, List.mem_of_getElem? (i := 756) (by decide +kernel), List.mem_of_getElem? (i := 933) (by decide +kernel), List.mem_of_getElem? (i := 934) (by decide +kernel)⟩
theorem lw_p24 : lw_okq (⟨"LameLeadModel", "noMan", "(I)Z"⟩, 36) := ⟨⟨by decide +kernel, by decide +kernel⟩, List.mem_of_getElem? (i := 756) (by decide +kernel), List.mem_of_getElem? (i := 944) (by decide +kernel), List.mem_of_getElem? (i := 945) (by decide +kernel)⟩
theorem lw_p25 : lw_okq (⟨"LameLeadModel", "note", "()V"⟩, 36) := ⟨⟨by decide +kernel, by decide +kernel⟩, List.mem_of_getElem? (i := 756) (by decide +kernel), List.mem_of_getElem? (i := 956) (by decide +kernel), List.mem_of_getElem? (i := 957) (by decide +kernel)⟩
theorem lw_p26 : lw_okq (⟨"LameLeadModel", "goDay", "([II)I"⟩, 36) := ⟨⟨by decide +kernel, by decide +kernel⟩, List.mem_of_getElem? (i := 756) (by decide +kernel), List.mem_of_getElem? (i := 960) (by decide +kernel), List.mem_of_getElem? (i := 961) (by decide +kernel)⟩
theorem lw_p27 : lw_okq (⟨"LameLeadModel", "heal", "([I)V"⟩, 36) := ⟨⟨by decide +kernel, by decide +kernel⟩, List.mem_of_getElem? (i := 756) (by decide +kernel), List.mem_of_getElem? (i := 967) (by decide +kernel), List.mem_of_getElem? (i := 968) (by decide +kernel)⟩
theorem lw_p28 : lw_okq (⟨"LameLeadModel", "goHalt", "([I)I"⟩, 36) := ⟨⟨by decide +kernel, by decide +kernel⟩, List.mem_of_getElem? (i := 756) (by decide +kernel), List.mem_of_getElem? (i := 975) (by decide +kernel), List.mem_of_getElem? (i := 976) (by decide +kernel)⟩
theorem lw_p29 : lw_okq (⟨"LameLeadModel", "begin", "()V"⟩, 36) := ⟨⟨by decide +kernel, by decide +kernel⟩, List.mem_of_getElem? (i := 756) (by decide +kernel), List.mem_of_getElem? (i := 996) (by decide +kernel), List.mem_of_getElem? (i := 997) (by decide +kernel)⟩
theorem lw_p30 : lw_okq (⟨"LameLeadModel", "goDays", "(II)V"⟩, 36) := ⟨⟨by decide +kernel, by decide +kernel⟩, List.mem_of_getElem? (i := 756) (by decide +kernel), List.mem_of_getElem? (i := 1000) (by decide +kernel), List.mem_of_getElem? (i := 1001) (by decide +kernel)⟩
theorem lw_p31 : lw_okq (⟨"LameLeadModel", "comesOf", "()I"⟩, 36) := ⟨⟨by decide +kernel, by decide +kernel⟩, List.mem_of_getElem? (i := 756) (by decide +kernel), List.mem_of_getElem? (i := 1008) (by decide +kernel), List.mem_of_getElem? (i := 1009) (by decide +kernel)⟩
def lw_privs_2 : List (MethodName × Nat) := [(⟨"LameLeadModel", "readThing", "()Z"⟩, 36), (⟨"LameLeadModel", "readOneStretch", "()Z"⟩, 36), (⟨"LameLeadModel", "figure", "(II)I"⟩, 36), (⟨"LameLeadModel", "readOneMan", "()Z"⟩, 36), (⟨"LameLeadModel", "leader", "([II)I"⟩, 36), (⟨"LameLeadModel", "speed", "([II)I"⟩, 36), (⟨"LameLeadModel", "stretchAt", "(I)I"⟩, 36), (⟨"LameLeadModel", "begins", "(I)I"⟩, 36), (⟨"LameLeadModel", "noMan", "(I)Z"⟩, 36), (⟨"LameLeadModel", "note", "()V"⟩, 36), (⟨"LameLeadModel", "goDay", "([II)I"⟩, 36), (⟨"LameLeadModel", "heal", "([I)V"⟩, 36), (⟨"LameLeadModel", "goHalt", "([I)I"⟩, 36), (⟨"LameLeadModel", "begin", "()V"⟩, 36), (⟨"LameLeadModel", "goDays", "(II)V"⟩, 36), (⟨"LameLeadModel", "comesOf", "()I"⟩, 36)]
theorem lw_r2 : ∀ q ∈ lw_privs_2, lw_okq q := List.forall_mem_cons.mpr ⟨lw_p16, List.forall_mem_cons.mpr ⟨lw_p17, List.forall_mem_cons.mpr ⟨lw_p18, List.forall_mem_cons.mpr ⟨lw_p19, List.forall_mem_cons.mpr ⟨lw_p20, List.forall_mem_cons.mpr ⟨lw_p21, List.forall_mem_cons.mpr ⟨lw_p22, List.forall_mem_cons.mpr ⟨lw_p23, List.forall_mem_cons.mpr ⟨lw_p24, List.forall_mem_cons.mpr ⟨lw_p25, List.forall_mem_cons.mpr ⟨lw_p26, List.forall_mem_cons.mpr ⟨lw_p27, List.forall_mem_cons.mpr ⟨lw_p28, List.forall_mem_cons.mpr ⟨lw_p29, List.forall_mem_cons.mpr ⟨lw_p30, List.forall_mem_cons.mpr ⟨lw_p31, fun _ h => absurd h List.not_mem_nil⟩⟩⟩⟩⟩⟩⟩⟩⟩⟩⟩⟩⟩⟩⟩⟩
theorem lw_p32 : lw_okq (⟨"LameLeadModel", "findPlan", "(I)V"⟩, 36) := ⟨⟨by decide +kernel, by decide +kernel⟩, List.mem_of_getElem? (i := 756) (by decide +kernel), List.mem_of_getElem? (i := 1025) (by decide +kernel), List.mem_of_getElem? (i := 1026) (by decide +kernel)⟩
theorem lw_p33 : lw_okq (⟨"LameLeadModel", "pulls", "(I)I"⟩, 36) := ⟨⟨by decide +kernel, by decide +kernel⟩, List.mem_of_getElem? (i := 756) (by decide +kernel), List.mem_of_getElem? (i := 1032) (by decide +kernel), List.mem_of_getElem? (i := 1033) (by decide +kernel)⟩
theorem lw_p34 : lw_okq (⟨"LameLeadModel", "does", "(I)Z"⟩, 36) := ⟨⟨by decide +kernel, by decide +kernel⟩, List.mem_of_getElem? (i := 756) (by decide +kernel), List.mem_of_getElem? (i := 1045) (by decide +kernel), List.mem_of_getElem? (i := 1046) (by decide +kernel)⟩
theorem lw_p35 : lw_okq (⟨"LameLeadModel", "gravels", "(I)Z"⟩, 36) := ⟨⟨by decide +kernel, by decide +kernel⟩, List.mem_of_getElem? (i := 756) (by decide +kernel), List.mem_of_getElem? (i := 1049) (by decide +kernel), List.mem_of_getElem? (i := 1050) (by decide +kernel)⟩
theorem lw_p36 : lw_okq (⟨"LameLeadModel", "isPulled", "(I)Z"⟩, 36) := ⟨⟨by decide +kernel, by decide +kernel⟩, List.mem_of_getElem? (i := 756) (by decide +kernel), List.mem_of_getElem? (i := 1053) (by decide +kernel), List.mem_of_getElem? (i := 1054) (by decide +kernel)⟩
def lw_privs_3 : List (MethodName × Nat) := [(⟨"LameLeadModel", "findPlan", "(I)V"⟩, 36), (⟨"LameLeadModel", "pulls", "(I)I"⟩, 36), (⟨"LameLeadModel", "does", "(I)Z"⟩, 36), (⟨"LameLeadModel", "gravels", "(I)Z"⟩, 36), (⟨"LameLeadModel", "isPulled", "(I)Z"⟩, 36)]
theorem lw_r3 : ∀ q ∈ lw_privs_3, lw_okq q := List.forall_mem_cons.mpr ⟨lw_p32, List.forall_mem_cons.mpr ⟨lw_p33, List.forall_mem_cons.mpr ⟨lw_p34, List.forall_mem_cons.mpr ⟨lw_p35, List.forall_mem_cons.mpr ⟨lw_p36, fun _ h => absurd h List.not_mem_nil⟩⟩⟩⟩⟩
def lw_privs : List (MethodName × Nat) := lw_privs_1 ++ (lw_privs_2 ++ (lw_privs_3))
def lw_tbl : List Cond := k2_sels lw_privs ++ tables_1
theorem lw_privs_ok : ∀ q ∈ lw_privs, lw_okq q := by
  show ∀ q ∈ lw_privs_1 ++ (lw_privs_2 ++ (lw_privs_3)), lw_okq q
  exact List.forall_mem_append.mpr ⟨lw_r1, List.forall_mem_append.mpr ⟨lw_r2, lw_r3⟩⟩
end
section
def RX0 : String := "LameLead$Acts"
def TX0 : u_T := fun k => match k with
  | 0 => ("LameLead$Acts", "before", "[J", true)
  | _ => ("LameLead$Acts", "count", "I", false)
def tyX0 : Nat → FieldType := fun k => match k with
  | 0 => .array .long
  | _ => .int
theorem nmX0 : ∀ a, a < 2 → ∀ b, b < 2 → a ≠ b → (TX0 a).2.1 ≠ (TX0 b).2.1 := by decide +kernel
theorem tyX0_ok : ∀ k, k < 2 → parseFieldDescriptor (TX0 k).2.2.1 = some (tyX0 k) := by decide +kernel
abbrev cX0_init : ByteArray := prog_2_method_1_code
def yX0_init : MethodName := ⟨RX0, "<init>", "()V"⟩
abbrev cX0_count : ByteArray := prog_2_method_2_code
def yX0_count : MethodName := ⟨RX0, "count", "()I"⟩
abbrev cX0_forgetAll : ByteArray := prog_2_method_3_code
def yX0_forgetAll : MethodName := ⟨RX0, "forgetAll", "()V"⟩
abbrev cX0_remember : ByteArray := prog_2_method_4_code
def yX0_remember : MethodName := ⟨RX0, "remember", "(J)V"⟩
abbrev cX0_forgetFirst : ByteArray := prog_2_method_5_code
def yX0_forgetFirst : MethodName := ⟨RX0, "forgetFirst", "()V"⟩
abbrev cX0_takeLast : ByteArray := prog_2_method_6_code
def yX0_takeLast : MethodName := ⟨RX0, "takeLast", "()J"⟩
def RX1 : String := "LameLead$Chances"
def TX1 : u_T := fun k => match k with
  | 0 => ("LameLead$Chances", "now", "LLameLead$March;", true)
  | 1 => ("LameLead$Chances", "ahead", "LLameLead$March;", true)
  | 2 => ("LameLead$Chances", "oneHas", "[I", true)
  | _ => ("LameLead$Chances", "otherHas", "[I", true)
def tyX1 : Nat → FieldType := fun k => match k with
  | 0 => .object "LameLead$March"
  | 1 => .object "LameLead$March"
  | 2 => .array .int
  | _ => .array .int
theorem nmX1 : ∀ a, a < 4 → ∀ b, b < 4 → a ≠ b → (TX1 a).2.1 ≠ (TX1 b).2.1 := by decide +kernel
theorem tyX1_ok : ∀ k, k < 4 → parseFieldDescriptor (TX1 k).2.2.1 = some (tyX1 k) := by decide +kernel
abbrev cX1_init : ByteArray := prog_3_method_1_code
def yX1_init : MethodName := ⟨RX1, "<init>", "(LLameLead$March;LLameLead$March;)V"⟩
abbrev cX1_weighPairs : ByteArray := prog_3_method_2_code
def yX1_weighPairs : MethodName := ⟨RX1, "weighPairs", "(II)V"⟩
abbrev cX1_isRest : ByteArray := prog_3_method_3_code
def yX1_isRest : MethodName := ⟨RX1, "isRest", "(I)Z"⟩
abbrev cX1_restCount : ByteArray := prog_3_method_4_code
def yX1_restCount : MethodName := ⟨RX1, "restCount", "()I"⟩
abbrev cX1_firstRest : ByteArray := prog_3_method_5_code
def yX1_firstRest : MethodName := ⟨RX1, "firstRest", "()I"⟩
abbrev cX1_weightInTime : ByteArray := prog_3_method_6_code
def yX1_weightInTime : MethodName := ⟨RX1, "weightInTime", "(II)I"⟩
abbrev cX1_isInTimePricked : ByteArray := prog_3_method_7_code
def yX1_isInTimePricked : MethodName := ⟨RX1, "isInTimePricked", "(II)Z"⟩
abbrev cX1_setOut : ByteArray := prog_3_method_8_code
def yX1_setOut : MethodName := ⟨RX1, "setOut", "()V"⟩
abbrev cX1_mileBehindLot : ByteArray := prog_3_method_9_code
def yX1_mileBehindLot : MethodName := ⟨RX1, "mileBehindLot", "(I)I"⟩
def RX2 : String := "LameLead$March"
def TX2 : u_T := fun k => match k with
  | 0 => ("LameLead$March", "road", "LLameLead$Road;", true)
  | 1 => ("LameLead$March", "troop", "LLameLead$Troop;", true)
  | 2 => ("LameLead$March", "thorns", "[I", true)
  | 3 => ("LameLead$March", "mile", "I", false)
  | 4 => ("LameLead$March", "dayNumber", "I", false)
  | _ => ("LameLead$March", "present", "I", false)
def tyX2 : Nat → FieldType := fun k => match k with
  | 0 => .object "LameLead$Road"
  | 1 => .object "LameLead$Troop"
  | 2 => .array .int
  | 3 => .int
  | 4 => .int
  | _ => .int
theorem nmX2 : ∀ a, a < 6 → ∀ b, b < 6 → a ≠ b → (TX2 a).2.1 ≠ (TX2 b).2.1 := by decide +kernel
theorem tyX2_ok : ∀ k, k < 6 → parseFieldDescriptor (TX2 k).2.2.1 = some (tyX2 k) := by decide +kernel
abbrev cX2_init : ByteArray := prog_4_method_1_code
def yX2_init : MethodName := ⟨RX2, "<init>", "(LLameLead$Road;LLameLead$Troop;)V"⟩
abbrev cX2_mile : ByteArray := prog_4_method_2_code
def yX2_mile : MethodName := ⟨RX2, "mile", "()I"⟩
abbrev cX2_dayNumber : ByteArray := prog_4_method_3_code
def yX2_dayNumber : MethodName := ⟨RX2, "dayNumber", "()I"⟩
abbrev cX2_end : ByteArray := prog_4_method_4_code
def yX2_end : MethodName := ⟨RX2, "end", "()I"⟩
abbrev cX2_menCount : ByteArray := prog_4_method_5_code
def yX2_menCount : MethodName := ⟨RX2, "menCount", "()I"⟩
abbrev cX2_isThere : ByteArray := prog_4_method_6_code
def yX2_isThere : MethodName := ⟨RX2, "isThere", "()Z"⟩
abbrev cX2_begin : ByteArray := prog_4_method_7_code
def yX2_begin : MethodName := ⟨RX2, "begin", "()V"⟩
abbrev cX2_follow : ByteArray := prog_4_method_8_code
def yX2_follow : MethodName := ⟨RX2, "follow", "(LLameLead$March;)V"⟩
abbrev cX2_followWith : ByteArray := prog_4_method_9_code
def yX2_followWith : MethodName := ⟨RX2, "followWith", "(LLameLead$March;I)V"⟩
abbrev cX2_packed : ByteArray := prog_4_method_10_code
def yX2_packed : MethodName := ⟨RX2, "packed", "()J"⟩
abbrev cX2_unpack : ByteArray := prog_4_method_11_code
def yX2_unpack : MethodName := ⟨RX2, "unpack", "(J)V"⟩
abbrev cX2_thornsOf : ByteArray := prog_4_method_12_code
def yX2_thornsOf : MethodName := ⟨RX2, "thornsOf", "(I)I"⟩
abbrev cX2_allThorns : ByteArray := prog_4_method_13_code
def yX2_allThorns : MethodName := ⟨RX2, "allThorns", "()I"⟩
abbrev cX2_speedOf : ByteArray := prog_4_method_14_code
def yX2_speedOf : MethodName := ⟨RX2, "speedOf", "(I)I"⟩
abbrev cX2_leader : ByteArray := prog_4_method_15_code
def yX2_leader : MethodName := ⟨RX2, "leader", "()I"⟩
abbrev cX2_leaderSpeed : ByteArray := prog_4_method_16_code
def yX2_leaderSpeed : MethodName := ⟨RX2, "leaderSpeed", "()I"⟩
abbrev cX2_canPrick : ByteArray := prog_4_method_17_code
def yX2_canPrick : MethodName := ⟨RX2, "canPrick", "(I)Z"⟩
abbrev cX2_prick : ByteArray := prog_4_method_18_code
def yX2_prick : MethodName := ⟨RX2, "prick", "(I)V"⟩
abbrev cX2_canEase : ByteArray := prog_4_method_19_code
def yX2_canEase : MethodName := ⟨RX2, "canEase", "(I)Z"⟩
abbrev cX2_ease : ByteArray := prog_4_method_20_code
def yX2_ease : MethodName := ⟨RX2, "ease", "(I)V"⟩
abbrev cX2_easeTimes : ByteArray := prog_4_method_21_code
def yX2_easeTimes : MethodName := ⟨RX2, "easeTimes", "(II)V"⟩
abbrev cX2_goDay : ByteArray := prog_4_method_22_code
def yX2_goDay : MethodName := ⟨RX2, "goDay", "()I"⟩
abbrev cX2_milesOver : ByteArray := prog_4_method_23_code
def yX2_milesOver : MethodName := ⟨RX2, "milesOver", "(II)I"⟩
abbrev cX2_goDays : ByteArray := prog_4_method_24_code
def yX2_goDays : MethodName := ⟨RX2, "goDays", "(I)V"⟩
abbrev cX2_goToEnd : ByteArray := prog_4_method_25_code
def yX2_goToEnd : MethodName := ⟨RX2, "goToEnd", "(I)I"⟩
abbrev cX2_stay : ByteArray := prog_4_method_26_code
def yX2_stay : MethodName := ⟨RX2, "stay", "()V"⟩
abbrev cX2_healAll : ByteArray := prog_4_method_27_code
def yX2_healAll : MethodName := ⟨RX2, "healAll", "()V"⟩
def RX3 : String := "LameLead$Outlook"
def TX3 : u_T := fun k => match k with
  | 0 => ("LameLead$Outlook", "now", "LLameLead$March;", true)
  | 1 => ("LameLead$Outlook", "ahead", "LLameLead$March;", true)
  | _ => ("LameLead$Outlook", "doings", "[I", true)
def tyX3 : Nat → FieldType := fun k => match k with
  | 0 => .object "LameLead$March"
  | 1 => .object "LameLead$March"
  | _ => .array .int
theorem nmX3 : ∀ a, a < 3 → ∀ b, b < 3 → a ≠ b → (TX3 a).2.1 ≠ (TX3 b).2.1 := by decide +kernel
theorem tyX3_ok : ∀ k, k < 3 → parseFieldDescriptor (TX3 k).2.2.1 = some (tyX3 k) := by decide +kernel
abbrev cX3_init : ByteArray := prog_5_method_1_code
def yX3_init : MethodName := ⟨RX3, "<init>", "(LLameLead$March;LLameLead$March;)V"⟩
abbrev cX3_mileIn : ByteArray := prog_5_method_2_code
def yX3_mileIn : MethodName := ⟨RX3, "mileIn", "(I)I"⟩
abbrev cX3_leaderIn : ByteArray := prog_5_method_3_code
def yX3_leaderIn : MethodName := ⟨RX3, "leaderIn", "(I)I"⟩
abbrev cX3_daysToEnd : ByteArray := prog_5_method_4_code
def yX3_daysToEnd : MethodName := ⟨RX3, "daysToEnd", "()I"⟩
abbrev cX3_daysToLead : ByteArray := prog_5_method_5_code
def yX3_daysToLead : MethodName := ⟨RX3, "daysToLead", "(I)I"⟩
abbrev cX3_bestCure : ByteArray := prog_5_method_6_code
def yX3_bestCure : MethodName := ⟨RX3, "bestCure", "(Z)I"⟩
abbrev cX3_daysIfEased : ByteArray := prog_5_method_7_code
def yX3_daysIfEased : MethodName := ⟨RX3, "daysIfEased", "(I)I"⟩
abbrev cX3_fewestPulls : ByteArray := prog_5_method_8_code
def yX3_fewestPulls : MethodName := ⟨RX3, "fewestPulls", "(I)I"⟩
abbrev cX3_pullsOf : ByteArray := prog_5_method_9_code
def yX3_pullsOf : MethodName := ⟨RX3, "pullsOf", "(II)I"⟩
abbrev cX3_canPull : ByteArray := prog_5_method_10_code
def yX3_canPull : MethodName := ⟨RX3, "canPull", "(I)Z"⟩
abbrev cX3_isInTime : ByteArray := prog_5_method_11_code
def yX3_isInTime : MethodName := ⟨RX3, "isInTime", "(II)Z"⟩
abbrev cX3_pullsInAll : ByteArray := prog_5_method_12_code
def yX3_pullsInAll : MethodName := ⟨RX3, "pullsInAll", "(I)I"⟩
abbrev cX3_pullFigures : ByteArray := prog_5_method_13_code
def yX3_pullFigures : MethodName := ⟨RX3, "pullFigures", "(I)I"⟩
abbrev cX3_firstImpossible : ByteArray := prog_5_method_14_code
def yX3_firstImpossible : MethodName := ⟨RX3, "firstImpossible", "(IJ)I"⟩
abbrev cX3_does : ByteArray := prog_5_method_15_code
def yX3_does : MethodName := ⟨RX3, "does", "(III)Z"⟩
abbrev cX3_doesPlain : ByteArray := prog_5_method_16_code
def yX3_doesPlain : MethodName := ⟨RX3, "doesPlain", "(II)Z"⟩
abbrev cX3_lossOverOrders : ByteArray := prog_5_method_17_code
def yX3_lossOverOrders : MethodName := ⟨RX3, "lossOverOrders", "(I)I"⟩
abbrev cX3_mileOfSome : ByteArray := prog_5_method_18_code
def yX3_mileOfSome : MethodName := ⟨RX3, "mileOfSome", "(I)I"⟩
def RX4 : String := "LameLead$Road"
def TX4 : u_T := fun k => match k with
  | 0 => ("LameLead$Road", "miles", "[I", true)
  | 1 => ("LameLead$Road", "grounds", "[I", true)
  | 2 => ("LameLead$Road", "begins", "[I", true)
  | 3 => ("LameLead$Road", "stretchOfMile", "[I", true)
  | 4 => ("LameLead$Road", "count", "I", false)
  | _ => ("LameLead$Road", "end", "I", false)
def tyX4 : Nat → FieldType := fun k => match k with
  | 0 => .array .int
  | 1 => .array .int
  | 2 => .array .int
  | 3 => .array .int
  | 4 => .int
  | _ => .int
theorem nmX4 : ∀ a, a < 6 → ∀ b, b < 6 → a ≠ b → (TX4 a).2.1 ≠ (TX4 b).2.1 := by decide +kernel
theorem tyX4_ok : ∀ k, k < 6 → parseFieldDescriptor (TX4 k).2.2.1 = some (tyX4 k) := by decide +kernel
abbrev cX4_init : ByteArray := prog_6_method_1_code
def yX4_init : MethodName := ⟨RX4, "<init>", "()V"⟩
abbrev cX4_count : ByteArray := prog_6_method_2_code
def yX4_count : MethodName := ⟨RX4, "count", "()I"⟩
abbrev cX4_end : ByteArray := prog_6_method_3_code
def yX4_end : MethodName := ⟨RX4, "end", "()I"⟩
abbrev cX4_empty : ByteArray := prog_6_method_4_code
def yX4_empty : MethodName := ⟨RX4, "empty", "()V"⟩
abbrev cX4_add : ByteArray := prog_6_method_5_code
def yX4_add : MethodName := ⟨RX4, "add", "(II)V"⟩
abbrev cX4_has : ByteArray := prog_6_method_6_code
def yX4_has : MethodName := ⟨RX4, "has", "(I)Z"⟩
abbrev cX4_milesOf : ByteArray := prog_6_method_7_code
def yX4_milesOf : MethodName := ⟨RX4, "milesOf", "(I)I"⟩
abbrev cX4_groundOf : ByteArray := prog_6_method_8_code
def yX4_groundOf : MethodName := ⟨RX4, "groundOf", "(I)I"⟩
abbrev cX4_beginOf : ByteArray := prog_6_method_9_code
def yX4_beginOf : MethodName := ⟨RX4, "beginOf", "(I)I"⟩
abbrev cX4_stretchAt : ByteArray := prog_6_method_10_code
def yX4_stretchAt : MethodName := ⟨RX4, "stretchAt", "(I)I"⟩
def RX5 : String := "LameLead$Text"
def TX5 : u_T := fun k => match k with
  | 0 => ("LameLead$Text", "letters", "[I", true)
  | _ => ("LameLead$Text", "size", "I", false)
def tyX5 : Nat → FieldType := fun k => match k with
  | 0 => .array .int
  | _ => .int
theorem nmX5 : ∀ a, a < 2 → ∀ b, b < 2 → a ≠ b → (TX5 a).2.1 ≠ (TX5 b).2.1 := by decide +kernel
theorem tyX5_ok : ∀ k, k < 2 → parseFieldDescriptor (TX5 k).2.2.1 = some (tyX5 k) := by decide +kernel
abbrev cX5_init : ByteArray := prog_7_method_1_code
def yX5_init : MethodName := ⟨RX5, "<init>", "()V"⟩
abbrev cX5_size : ByteArray := prog_7_method_2_code
def yX5_size : MethodName := ⟨RX5, "size", "()I"⟩
abbrev cX5_empty : ByteArray := prog_7_method_3_code
def yX5_empty : MethodName := ⟨RX5, "empty", "()V"⟩
abbrev cX5_append : ByteArray := prog_7_method_4_code
def yX5_append : MethodName := ⟨RX5, "append", "(I)V"⟩
abbrev cX5_letterAt : ByteArray := prog_7_method_5_code
def yX5_letterAt : MethodName := ⟨RX5, "letterAt", "(I)I"⟩
abbrev cX5_figureAt : ByteArray := prog_7_method_6_code
def yX5_figureAt : MethodName := ⟨RX5, "figureAt", "(I)I"⟩
abbrev cX5_faultPlace : ByteArray := prog_7_method_7_code
def yX5_faultPlace : MethodName := ⟨RX5, "faultPlace", "()I"⟩
abbrev cX5_misfitFrom : ByteArray := prog_7_method_8_code
def yX5_misfitFrom : MethodName := ⟨RX5, "misfitFrom", "(I[I[I)I"⟩
abbrev cX5_tell : ByteArray := prog_7_method_9_code
def yX5_tell : MethodName := ⟨RX5, "tell", "(LLameLead$Road;LLameLead$Troop;)V"⟩
def RX6 : String := "LameLead$Trials"
def TX6 : u_T := fun k => match k with
  | 0 => ("LameLead$Trials", "thorns", "[I", true)
  | 1 => ("LameLead$Trials", "speeds", "[I", true)
  | 2 => ("LameLead$Trials", "slow", "[Z", true)
  | _ => ("LameLead$Trials", "count", "I", false)
def tyX6 : Nat → FieldType := fun k => match k with
  | 0 => .array .int
  | 1 => .array .int
  | 2 => .array .boolean
  | _ => .int
theorem nmX6 : ∀ a, a < 4 → ∀ b, b < 4 → a ≠ b → (TX6 a).2.1 ≠ (TX6 b).2.1 := by decide +kernel
theorem tyX6_ok : ∀ k, k < 4 → parseFieldDescriptor (TX6 k).2.2.1 = some (tyX6 k) := by decide +kernel
abbrev cX6_init : ByteArray := prog_8_method_1_code
def yX6_init : MethodName := ⟨RX6, "<init>", "()V"⟩
abbrev cX6_count : ByteArray := prog_8_method_2_code
def yX6_count : MethodName := ⟨RX6, "count", "()I"⟩
abbrev cX6_forgetAll : ByteArray := prog_8_method_3_code
def yX6_forgetAll : MethodName := ⟨RX6, "forgetAll", "()V"⟩
abbrev cX6_add : ByteArray := prog_8_method_4_code
def yX6_add : MethodName := ⟨RX6, "add", "(IIZ)V"⟩
abbrev cX6_fits : ByteArray := prog_8_method_5_code
def yX6_fits : MethodName := ⟨RX6, "fits", "(II)Z"⟩
abbrev cX6_fittingCount : ByteArray := prog_8_method_6_code
def yX6_fittingCount : MethodName := ⟨RX6, "fittingCount", "()I"⟩
abbrev cX6_firstFitting : ByteArray := prog_8_method_7_code
def yX6_firstFitting : MethodName := ⟨RX6, "firstFitting", "()I"⟩
def RX7 : String := "LameLead$Troop"
def TX7 : u_T := fun k => match k with
  | 0 => ("LameLead$Troop", "pace", "[I", true)
  | 1 => ("LameLead$Troop", "kind", "[I", true)
  | 2 => ("LameLead$Troop", "told", "[I", true)
  | _ => ("LameLead$Troop", "count", "I", false)
def tyX7 : Nat → FieldType := fun k => match k with
  | 0 => .array .int
  | 1 => .array .int
  | 2 => .array .int
  | _ => .int
theorem nmX7 : ∀ a, a < 4 → ∀ b, b < 4 → a ≠ b → (TX7 a).2.1 ≠ (TX7 b).2.1 := by decide +kernel
theorem tyX7_ok : ∀ k, k < 4 → parseFieldDescriptor (TX7 k).2.2.1 = some (tyX7 k) := by decide +kernel
abbrev cX7_init : ByteArray := prog_9_method_1_code
def yX7_init : MethodName := ⟨RX7, "<init>", "()V"⟩
abbrev cX7_count : ByteArray := prog_9_method_2_code
def yX7_count : MethodName := ⟨RX7, "count", "()I"⟩
abbrev cX7_empty : ByteArray := prog_9_method_3_code
def yX7_empty : MethodName := ⟨RX7, "empty", "()V"⟩
abbrev cX7_add : ByteArray := prog_9_method_4_code
def yX7_add : MethodName := ⟨RX7, "add", "(III)V"⟩
abbrev cX7_has : ByteArray := prog_9_method_5_code
def yX7_has : MethodName := ⟨RX7, "has", "(I)Z"⟩
abbrev cX7_paceOf : ByteArray := prog_9_method_6_code
def yX7_paceOf : MethodName := ⟨RX7, "paceOf", "(I)I"⟩
abbrev cX7_kindOf : ByteArray := prog_9_method_7_code
def yX7_kindOf : MethodName := ⟨RX7, "kindOf", "(I)I"⟩
abbrev cX7_toldThornsOf : ByteArray := prog_9_method_8_code
def yX7_toldThornsOf : MethodName := ⟨RX7, "toldThornsOf", "(I)I"⟩
def RX8 : String := "LameLead"
def TX8 : u_T := fun k => match k with
  | 0 => ("LameLead", "text", "LLameLead$Text;", true)
  | 1 => ("LameLead", "road", "LLameLead$Road;", true)
  | 2 => ("LameLead", "troop", "LLameLead$Troop;", true)
  | 3 => ("LameLead", "now", "LLameLead$March;", true)
  | 4 => ("LameLead", "acts", "LLameLead$Acts;", true)
  | 5 => ("LameLead", "outlook", "LLameLead$Outlook;", true)
  | 6 => ("LameLead", "chances", "LLameLead$Chances;", true)
  | 7 => ("LameLead", "trials", "LLameLead$Trials;", true)
  | 8 => ("LameLead", "kept", "[J", true)
  | _ => ("LameLead", "seed", "J", false)
def tyX8 : Nat → FieldType := fun k => match k with
  | 0 => .object "LameLead$Text"
  | 1 => .object "LameLead$Road"
  | 2 => .object "LameLead$Troop"
  | 3 => .object "LameLead$March"
  | 4 => .object "LameLead$Acts"
  | 5 => .object "LameLead$Outlook"
  | 6 => .object "LameLead$Chances"
  | 7 => .object "LameLead$Trials"
  | 8 => .array .long
  | _ => .long
theorem nmX8 : ∀ a, a < 10 → ∀ b, b < 10 → a ≠ b → (TX8 a).2.1 ≠ (TX8 b).2.1 := by decide +kernel
theorem tyX8_ok : ∀ k, k < 10 → parseFieldDescriptor (TX8 k).2.2.1 = some (tyX8 k) := by decide +kernel
abbrev cX8_init : ByteArray := prog_1_method_1_code
def yX8_init : MethodName := ⟨RX8, "<init>", "()V"⟩
abbrev cX8_write : ByteArray := prog_1_method_2_code
def yX8_write : MethodName := ⟨RX8, "write", "(I)I"⟩
abbrev cX8_wipe : ByteArray := prog_1_method_3_code
def yX8_wipe : MethodName := ⟨RX8, "wipe", "()I"⟩
abbrev cX8_fault : ByteArray := prog_1_method_4_code
def yX8_fault : MethodName := ⟨RX8, "fault", "()I"⟩
abbrev cX8_army : ByteArray := prog_1_method_5_code
def yX8_army : MethodName := ⟨RX8, "army", "()I"⟩
abbrev cX8_about : ByteArray := prog_1_method_6_code
def yX8_about : MethodName := ⟨RX8, "about", "(I)I"⟩
abbrev cX8_man : ByteArray := prog_1_method_7_code
def yX8_man : MethodName := ⟨RX8, "man", "(II)I"⟩
abbrev cX8_stretch : ByteArray := prog_1_method_8_code
def yX8_stretch : MethodName := ⟨RX8, "stretch", "(II)I"⟩
abbrev cX8_day : ByteArray := prog_1_method_9_code
def yX8_day : MethodName := ⟨RX8, "day", "()I"⟩
abbrev cX8_halt : ByteArray := prog_1_method_10_code
def yX8_halt : MethodName := ⟨RX8, "halt", "()I"⟩
abbrev cX8_gravel : ByteArray := prog_1_method_11_code
def yX8_gravel : MethodName := ⟨RX8, "gravel", "(I)I"⟩
abbrev cX8_pull : ByteArray := prog_1_method_12_code
def yX8_pull : MethodName := ⟨RX8, "pull", "(I)I"⟩
abbrev cX8_undo : ByteArray := prog_1_method_13_code
def yX8_undo : MethodName := ⟨RX8, "undo", "()I"⟩
abbrev cX8_later : ByteArray := prog_1_method_14_code
def yX8_later : MethodName := ⟨RX8, "later", "(II)I"⟩
abbrev cX8_comes : ByteArray := prog_1_method_15_code
def yX8_comes : MethodName := ⟨RX8, "comes", "()I"⟩
abbrev cX8_leads : ByteArray := prog_1_method_16_code
def yX8_leads : MethodName := ⟨RX8, "leads", "(I)I"⟩
abbrev cX8_cure : ByteArray := prog_1_method_17_code
def yX8_cure : MethodName := ⟨RX8, "cure", "(I)I"⟩
abbrev cX8_plan : ByteArray := prog_1_method_18_code
def yX8_plan : MethodName := ⟨RX8, "plan", "(II)I"⟩
abbrev cX8_judge : ByteArray := prog_1_method_19_code
def yX8_judge : MethodName := ⟨RX8, "judge", "(IJ)I"⟩
abbrev cX8_share : ByteArray := prog_1_method_20_code
def yX8_share : MethodName := ⟨RX8, "share", "(IZ)I"⟩
abbrev cX8_attempt : ByteArray := prog_1_method_21_code
def yX8_attempt : MethodName := ⟨RX8, "attempt", "(III)I"⟩
abbrev cX8_unattempt : ByteArray := prog_1_method_22_code
def yX8_unattempt : MethodName := ⟨RX8, "unattempt", "()I"⟩
abbrev cX8_paces : ByteArray := prog_1_method_23_code
def yX8_paces : MethodName := ⟨RX8, "paces", "(I)I"⟩
abbrev cX8_rests : ByteArray := prog_1_method_24_code
def yX8_rests : MethodName := ⟨RX8, "rests", "(III)I"⟩
abbrev cX8_thorny : ByteArray := prog_1_method_25_code
def yX8_thorny : MethodName := ⟨RX8, "thorny", "(IIZ)I"⟩
abbrev cX8_seed : ByteArray := prog_1_method_26_code
def yX8_seed : MethodName := ⟨RX8, "seed", "(J)J"⟩
abbrev cX8_campaigns : ByteArray := prog_1_method_27_code
def yX8_campaigns : MethodName := ⟨RX8, "campaigns", "(I)I"⟩
abbrev cX8_keep : ByteArray := prog_1_method_28_code
def yX8_keep : MethodName := ⟨RX8, "keep", "(I)I"⟩
abbrev cX8_again : ByteArray := prog_1_method_29_code
def yX8_again : MethodName := ⟨RX8, "again", "(I)I"⟩
abbrev cX8_isChoice : ByteArray := prog_1_method_30_code
def yX8_isChoice : MethodName := ⟨RX8, "isChoice", "(I)Z"⟩
abbrev cX8_factorial : ByteArray := prog_1_method_31_code
def yX8_factorial : MethodName := ⟨RX8, "factorial", "(I)I"⟩
abbrev cX8_power : ByteArray := prog_1_method_32_code
def yX8_power : MethodName := ⟨RX8, "power", "(II)I"⟩
abbrev cX8_speedBy : ByteArray := prog_1_method_33_code
def yX8_speedBy : MethodName := ⟨RX8, "speedBy", "(III)I"⟩
abbrev cX8_termOf : ByteArray := prog_1_method_34_code
def yX8_termOf : MethodName := ⟨RX8, "termOf", "(IIZ)I"⟩
abbrev cX8_commonDivisor : ByteArray := prog_1_method_35_code
def yX8_commonDivisor : MethodName := ⟨RX8, "commonDivisor", "(II)I"⟩
def RX9 : String := "LameLeadModel"
def TX9 : u_T := fun k => match k with
  | 0 => ("LameLeadModel", "thrown", "I", false)
  | 1 => ("LameLeadModel", "text", "[I", true)
  | 2 => ("LameLeadModel", "textSize", "I", false)
  | 3 => ("LameLeadModel", "place", "I", false)
  | 4 => ("LameLeadModel", "stretches", "I", false)
  | 5 => ("LameLeadModel", "length", "[I", true)
  | 6 => ("LameLeadModel", "ground", "[I", true)
  | 7 => ("LameLeadModel", "men", "I", false)
  | 8 => ("LameLeadModel", "pace", "[I", true)
  | 9 => ("LameLeadModel", "kind", "[I", true)
  | 10 => ("LameLeadModel", "end", "I", false)
  | 11 => ("LameLeadModel", "readStretches", "I", false)
  | 12 => ("LameLeadModel", "readStretch", "[I", true)
  | 13 => ("LameLeadModel", "readMen", "I", false)
  | 14 => ("LameLeadModel", "readMan", "[I", true)
  | 15 => ("LameLeadModel", "page", "[I", true)
  | 16 => ("LameLeadModel", "trial", "[I", true)
  | 17 => ("LameLeadModel", "once", "[I", true)
  | 18 => ("LameLeadModel", "book", "[I", true)
  | 19 => ("LameLeadModel", "acts", "I", false)
  | 20 => ("LameLeadModel", "kept", "[I", true)
  | 21 => ("LameLeadModel", "isKept", "[Z", true)
  | 22 => ("LameLeadModel", "tried", "I", false)
  | 23 => ("LameLeadModel", "triedThorns", "[I", true)
  | 24 => ("LameLeadModel", "triedSpeed", "[I", true)
  | 25 => ("LameLeadModel", "triedIs", "[I", true)
  | 26 => ("LameLeadModel", "seed", "J", false)
  | 27 => ("LameLeadModel", "bestMany", "I", false)
  | 28 => ("LameLeadModel", "bestWhich", "I", false)
  | 29 => ("LameLeadModel", "paceMany", "I", false)
  | 30 => ("LameLeadModel", "paceFirst", "I", false)
  | 31 => ("LameLeadModel", "restMany", "I", false)
  | 32 => ("LameLeadModel", "restFirst", "I", false)
  | 33 => ("LameLeadModel", "gains", "[I", true)
  | 34 => ("LameLeadModel", "value", "[I", true)
  | _ => ("LameLeadModel", "planWay", "I", false)
def tyX9 : Nat → FieldType := fun k => match k with
  | 0 => .int
  | 1 => .array .int
  | 2 => .int
  | 3 => .int
  | 4 => .int
  | 5 => .array .int
  | 6 => .array .int
  | 7 => .int
  | 8 => .array .int
  | 9 => .array .int
  | 10 => .int
  | 11 => .int
  | 12 => .array .int
  | 13 => .int
  | 14 => .array .int
  | 15 => .array .int
  | 16 => .array .int
  | 17 => .array .int
  | 18 => .array .int
  | 19 => .int
  | 20 => .array .int
  | 21 => .array .boolean
  | 22 => .int
  | 23 => .array .int
  | 24 => .array .int
  | 25 => .array .int
  | 26 => .long
  | 27 => .int
  | 28 => .int
  | 29 => .int
  | 30 => .int
  | 31 => .int
  | 32 => .int
  | 33 => .array .int
  | 34 => .array .int
  | _ => .int
theorem nmX9 : ∀ a, a < 36 → ∀ b, b < 36 → a ≠ b → (TX9 a).2.1 ≠ (TX9 b).2.1 := by decide +kernel
theorem tyX9_ok : ∀ k, k < 36 → parseFieldDescriptor (TX9 k).2.2.1 = some (tyX9 k) := by decide +kernel
abbrev cX9_init : ByteArray := prog_11_method_1_code
def yX9_init : MethodName := ⟨RX9, "<init>", "()V"⟩
abbrev cX9_in : ByteArray := prog_11_method_3_code
def yX9_in : MethodName := ⟨RX9, "in", "(JJJ)Z"⟩
abbrev cX9_has : ByteArray := prog_11_method_4_code
def yX9_has : MethodName := ⟨RX9, "has", "(II)Z"⟩
abbrev cX9_many : ByteArray := prog_11_method_5_code
def yX9_many : MethodName := ⟨RX9, "many", "(I)I"⟩
abbrev cX9_power : ByteArray := prog_11_method_6_code
def yX9_power : MethodName := ⟨RX9, "power", "(II)I"⟩
abbrev cX9_noMan : ByteArray := prog_11_method_7_code
def yX9_noMan : MethodName := ⟨RX9, "noMan", "(I)Z"⟩
abbrev cX9_write : ByteArray := prog_11_method_8_code
def yX9_write : MethodName := ⟨RX9, "write", "(I)I"⟩
abbrev cX9_wipe : ByteArray := prog_11_method_9_code
def yX9_wipe : MethodName := ⟨RX9, "wipe", "()I"⟩
abbrev cX9_figure : ByteArray := prog_11_method_10_code
def yX9_figure : MethodName := ⟨RX9, "figure", "(II)I"⟩
abbrev cX9_readOneStretch : ByteArray := prog_11_method_11_code
def yX9_readOneStretch : MethodName := ⟨RX9, "readOneStretch", "()Z"⟩
abbrev cX9_readOneMan : ByteArray := prog_11_method_12_code
def yX9_readOneMan : MethodName := ⟨RX9, "readOneMan", "()Z"⟩
abbrev cX9_readThing : ByteArray := prog_11_method_13_code
def yX9_readThing : MethodName := ⟨RX9, "readThing", "()Z"⟩
abbrev cX9_readArmy : ByteArray := prog_11_method_14_code
def yX9_readArmy : MethodName := ⟨RX9, "readArmy", "()I"⟩
abbrev cX9_fault : ByteArray := prog_11_method_15_code
def yX9_fault : MethodName := ⟨RX9, "fault", "()I"⟩
abbrev cX9_army : ByteArray := prog_11_method_16_code
def yX9_army : MethodName := ⟨RX9, "army", "()I"⟩
abbrev cX9_speedBy : ByteArray := prog_11_method_17_code
def yX9_speedBy : MethodName := ⟨RX9, "speedBy", "(III)I"⟩
abbrev cX9_speed : ByteArray := prog_11_method_18_code
def yX9_speed : MethodName := ⟨RX9, "speed", "([II)I"⟩
abbrev cX9_leader : ByteArray := prog_11_method_19_code
def yX9_leader : MethodName := ⟨RX9, "leader", "([II)I"⟩
abbrev cX9_begins : ByteArray := prog_11_method_20_code
def yX9_begins : MethodName := ⟨RX9, "begins", "(I)I"⟩
abbrev cX9_stretchAt : ByteArray := prog_11_method_21_code
def yX9_stretchAt : MethodName := ⟨RX9, "stretchAt", "(I)I"⟩
abbrev cX9_heal : ByteArray := prog_11_method_22_code
def yX9_heal : MethodName := ⟨RX9, "heal", "([I)V"⟩
abbrev cX9_prick : ByteArray := prog_11_method_23_code
def yX9_prick : MethodName := ⟨RX9, "prick", "([II)V"⟩
abbrev cX9_goDay : ByteArray := prog_11_method_24_code
def yX9_goDay : MethodName := ⟨RX9, "goDay", "([II)I"⟩
abbrev cX9_allThorns : ByteArray := prog_11_method_25_code
def yX9_allThorns : MethodName := ⟨RX9, "allThorns", "([I)I"⟩
abbrev cX9_goHalt : ByteArray := prog_11_method_26_code
def yX9_goHalt : MethodName := ⟨RX9, "goHalt", "([I)I"⟩
abbrev cX9_about : ByteArray := prog_11_method_27_code
def yX9_about : MethodName := ⟨RX9, "about", "(I)I"⟩
abbrev cX9_man : ByteArray := prog_11_method_28_code
def yX9_man : MethodName := ⟨RX9, "man", "(II)I"⟩
abbrev cX9_stretch : ByteArray := prog_11_method_29_code
def yX9_stretch : MethodName := ⟨RX9, "stretch", "(II)I"⟩
abbrev cX9_note : ByteArray := prog_11_method_30_code
def yX9_note : MethodName := ⟨RX9, "note", "()V"⟩
abbrev cX9_day : ByteArray := prog_11_method_31_code
def yX9_day : MethodName := ⟨RX9, "day", "()I"⟩
abbrev cX9_halt : ByteArray := prog_11_method_32_code
def yX9_halt : MethodName := ⟨RX9, "halt", "()I"⟩
abbrev cX9_gravel : ByteArray := prog_11_method_33_code
def yX9_gravel : MethodName := ⟨RX9, "gravel", "(I)I"⟩
abbrev cX9_pull : ByteArray := prog_11_method_34_code
def yX9_pull : MethodName := ⟨RX9, "pull", "(I)I"⟩
abbrev cX9_undo : ByteArray := prog_11_method_35_code
def yX9_undo : MethodName := ⟨RX9, "undo", "()I"⟩
abbrev cX9_begin : ByteArray := prog_11_method_36_code
def yX9_begin : MethodName := ⟨RX9, "begin", "()V"⟩
abbrev cX9_goDays : ByteArray := prog_11_method_37_code
def yX9_goDays : MethodName := ⟨RX9, "goDays", "(II)V"⟩
abbrev cX9_later : ByteArray := prog_11_method_38_code
def yX9_later : MethodName := ⟨RX9, "later", "(II)I"⟩
abbrev cX9_comesOf : ByteArray := prog_11_method_39_code
def yX9_comesOf : MethodName := ⟨RX9, "comesOf", "()I"⟩
abbrev cX9_comes : ByteArray := prog_11_method_40_code
def yX9_comes : MethodName := ⟨RX9, "comes", "()I"⟩
abbrev cX9_leads : ByteArray := prog_11_method_41_code
def yX9_leads : MethodName := ⟨RX9, "leads", "(I)I"⟩
abbrev cX9_cure : ByteArray := prog_11_method_42_code
def yX9_cure : MethodName := ⟨RX9, "cure", "(I)I"⟩
abbrev cX9_pulls : ByteArray := prog_11_method_43_code
def yX9_pulls : MethodName := ⟨RX9, "pulls", "(I)I"⟩
abbrev cX9_findPlan : ByteArray := prog_11_method_44_code
def yX9_findPlan : MethodName := ⟨RX9, "findPlan", "(I)V"⟩
abbrev cX9_plan : ByteArray := prog_11_method_45_code
def yX9_plan : MethodName := ⟨RX9, "plan", "(II)I"⟩
abbrev cX9_longPower : ByteArray := prog_11_method_46_code
def yX9_longPower : MethodName := ⟨RX9, "longPower", "(JI)J"⟩
abbrev cX9_gravels : ByteArray := prog_11_method_47_code
def yX9_gravels : MethodName := ⟨RX9, "gravels", "(I)Z"⟩
abbrev cX9_isPulled : ByteArray := prog_11_method_48_code
def yX9_isPulled : MethodName := ⟨RX9, "isPulled", "(I)Z"⟩
abbrev cX9_does : ByteArray := prog_11_method_49_code
def yX9_does : MethodName := ⟨RX9, "does", "(I)Z"⟩
abbrev cX9_judge : ByteArray := prog_11_method_50_code
def yX9_judge : MethodName := ⟨RX9, "judge", "(IJ)I"⟩
abbrev cX9_ways : ByteArray := prog_11_method_51_code
def yX9_ways : MethodName := ⟨RX9, "ways", "(I)I"⟩
abbrev cX9_divisor : ByteArray := prog_11_method_52_code
def yX9_divisor : MethodName := ⟨RX9, "divisor", "(II)I"⟩
abbrev cX9_fraction : ByteArray := prog_11_method_53_code
def yX9_fraction : MethodName := ⟨RX9, "fraction", "(IIZ)I"⟩
abbrev cX9_share : ByteArray := prog_11_method_54_code
def yX9_share : MethodName := ⟨RX9, "share", "(IZ)I"⟩
abbrev cX9_attempt : ByteArray := prog_11_method_55_code
def yX9_attempt : MethodName := ⟨RX9, "attempt", "(III)I"⟩
abbrev cX9_unattempt : ByteArray := prog_11_method_56_code
def yX9_unattempt : MethodName := ⟨RX9, "unattempt", "()I"⟩
abbrev cX9_paces : ByteArray := prog_11_method_57_code
def yX9_paces : MethodName := ⟨RX9, "paces", "(I)I"⟩
abbrev cX9_rests : ByteArray := prog_11_method_58_code
def yX9_rests : MethodName := ⟨RX9, "rests", "(III)I"⟩
abbrev cX9_thorny : ByteArray := prog_11_method_59_code
def yX9_thorny : MethodName := ⟨RX9, "thorny", "(IIZ)I"⟩
abbrev cX9_seed : ByteArray := prog_11_method_60_code
def yX9_seed : MethodName := ⟨RX9, "seed", "(J)J"⟩
abbrev cX9_campaigns : ByteArray := prog_11_method_61_code
def yX9_campaigns : MethodName := ⟨RX9, "campaigns", "(I)I"⟩
abbrev cX9_keep : ByteArray := prog_11_method_62_code
def yX9_keep : MethodName := ⟨RX9, "keep", "(I)I"⟩
abbrev cX9_again : ByteArray := prog_11_method_63_code
def yX9_again : MethodName := ⟨RX9, "again", "(I)I"⟩
def RJ6 : String := "java/lang/Integer"
def TJ6 : u_T := fun k => match k with
  | _ => ("", "", "", false)
def tyJ6 : Nat → FieldType := fun k => match k with
  | _ => .int
theorem nmJ6 : ∀ a, a < 0 → ∀ b, b < 0 → a ≠ b → (TJ6 a).2.1 ≠ (TJ6 b).2.1 := by decide +kernel
theorem tyJ6_ok : ∀ k, k < 0 → parseFieldDescriptor (TJ6 k).2.2.1 = some (tyJ6 k) := by decide +kernel
abbrev cJ6_bitCount_0f7a4 : ByteArray := prog_12_method_49_code
def yJ6_bitCount_0f7a4 : MethodName := ⟨RJ6, "bitCount", "(I)I"⟩
def RJ9 : String := "java/lang/Math"
def TJ9 : u_T := fun k => match k with
  | _ => ("", "", "", false)
def tyJ9 : Nat → FieldType := fun k => match k with
  | _ => .int
theorem nmJ9 : ∀ a, a < 0 → ∀ b, b < 0 → a ≠ b → (TJ9 a).2.1 ≠ (TJ9 b).2.1 := by decide +kernel
theorem tyJ9_ok : ∀ k, k < 0 → parseFieldDescriptor (TJ9 k).2.2.1 = some (tyJ9 k) := by decide +kernel
abbrev cJ9_abs_0f7a4 : ByteArray := prog_13_method_59_code
def yJ9_abs_0f7a4 : MethodName := ⟨RJ9, "abs", "(I)I"⟩
abbrev cJ9_max_7cf53 : ByteArray := prog_13_method_65_code
def yJ9_max_7cf53 : MethodName := ⟨RJ9, "max", "(II)I"⟩
abbrev cJ9_min_7cf53 : ByteArray := prog_13_method_69_code
def yJ9_min_7cf53 : MethodName := ⟨RJ9, "min", "(II)I"⟩
def RL : String := "LameLeadLaw"
abbrev cL_law : ByteArray := code
def yL_law : MethodName := ⟨RL, "law", "([I)Z"⟩
abbrev vwCl : List vw_C := [(RX0, TX0, 2), (RX1, TX1, 4), (RX2, TX2, 6), (RX3, TX3, 3), (RX4, TX4, 6), (RX5, TX5, 2), (RX6, TX6, 4), (RX7, TX7, 4), (RX8, TX8, 10), (RX9, TX9, 36)]
end
section
theorem dX0_init_0 : decode cX0_init 0 = .ok (.aload_n 0, 1) := by decide +kernel
theorem dX0_init_1 : decode cX0_init 1 = .ok (.invokespecial 3, 3) := by decide +kernel
theorem dX0_init_4 : decode cX0_init 4 = .ok (.aload_n 0, 1) := by decide +kernel
theorem dX0_init_5 : decode cX0_init 5 = .ok (.bipush 14, 2) := by decide +kernel
theorem dX0_init_7 : decode cX0_init 7 = .ok (.newarray .long, 2) := by decide +kernel
theorem dX0_init_9 : decode cX0_init 9 = .ok (.putfield 9, 3) := by decide +kernel
theorem dX0_init_12 : decode cX0_init 12 = .ok (.return_, 1) := by decide +kernel
theorem dX0_count_0 : decode cX0_count 0 = .ok (.aload_n 0, 1) := by decide +kernel
theorem dX0_count_1 : decode cX0_count 1 = .ok (.getfield 15, 3) := by decide +kernel
theorem dX0_count_4 : decode cX0_count 4 = .ok (.ireturn, 1) := by decide +kernel
theorem dX0_forgetAll_0 : decode cX0_forgetAll 0 = .ok (.aload_n 0, 1) := by decide +kernel
theorem dX0_forgetAll_1 : decode cX0_forgetAll 1 = .ok (.iconst 0, 1) := by decide +kernel
theorem dX0_forgetAll_2 : decode cX0_forgetAll 2 = .ok (.putfield 15, 3) := by decide +kernel
theorem dX0_forgetAll_5 : decode cX0_forgetAll 5 = .ok (.return_, 1) := by decide +kernel
theorem dX0_remember_0 : decode cX0_remember 0 = .ok (.aload_n 0, 1) := by decide +kernel
theorem dX0_remember_1 : decode cX0_remember 1 = .ok (.getfield 15, 3) := by decide +kernel
theorem dX0_remember_4 : decode cX0_remember 4 = .ok (.aload_n 0, 1) := by decide +kernel
theorem dX0_remember_5 : decode cX0_remember 5 = .ok (.getfield 9, 3) := by decide +kernel
theorem dX0_remember_8 : decode cX0_remember 8 = .ok (.arraylength, 1) := by decide +kernel
theorem dX0_remember_9 : decode cX0_remember 9 = .ok (.if_icmp .lt 7, 3) := by decide +kernel
theorem dX0_remember_12 : decode cX0_remember 12 = .ok (.aload_n 0, 1) := by decide +kernel
theorem dX0_remember_13 : decode cX0_remember 13 = .ok (.invokevirtual 19, 3) := by decide +kernel
theorem dX0_remember_16 : decode cX0_remember 16 = .ok (.aload_n 0, 1) := by decide +kernel
theorem dX0_remember_17 : decode cX0_remember 17 = .ok (.getfield 15, 3) := by decide +kernel
theorem dX0_remember_20 : decode cX0_remember 20 = .ok (.ifCond .lt 35, 3) := by decide +kernel
theorem dX0_remember_23 : decode cX0_remember 23 = .ok (.aload_n 0, 1) := by decide +kernel
theorem dX0_remember_24 : decode cX0_remember 24 = .ok (.getfield 15, 3) := by decide +kernel
theorem dX0_remember_27 : decode cX0_remember 27 = .ok (.aload_n 0, 1) := by decide +kernel
theorem dX0_remember_28 : decode cX0_remember 28 = .ok (.getfield 9, 3) := by decide +kernel
theorem dX0_remember_31 : decode cX0_remember 31 = .ok (.arraylength, 1) := by decide +kernel
theorem dX0_remember_32 : decode cX0_remember 32 = .ok (.if_icmp .ge 23, 3) := by decide +kernel
theorem dX0_remember_35 : decode cX0_remember 35 = .ok (.aload_n 0, 1) := by decide +kernel
theorem dX0_remember_36 : decode cX0_remember 36 = .ok (.getfield 9, 3) := by decide +kernel
theorem dX0_remember_39 : decode cX0_remember 39 = .ok (.aload_n 0, 1) := by decide +kernel
theorem dX0_remember_40 : decode cX0_remember 40 = .ok (.getfield 15, 3) := by decide +kernel
theorem dX0_remember_43 : decode cX0_remember 43 = .ok (.lload_n 1, 1) := by decide +kernel
theorem dX0_remember_44 : decode cX0_remember 44 = .ok (.lastore, 1) := by decide +kernel
theorem dX0_remember_45 : decode cX0_remember 45 = .ok (.aload_n 0, 1) := by decide +kernel
theorem dX0_remember_46 : decode cX0_remember 46 = .ok (.dup, 1) := by decide +kernel
theorem dX0_remember_47 : decode cX0_remember 47 = .ok (.getfield 15, 3) := by decide +kernel
theorem dX0_remember_50 : decode cX0_remember 50 = .ok (.iconst 1, 1) := by decide +kernel
theorem dX0_remember_51 : decode cX0_remember 51 = .ok (.iadd, 1) := by decide +kernel
theorem dX0_remember_52 : decode cX0_remember 52 = .ok (.putfield 15, 3) := by decide +kernel
theorem dX0_remember_55 : decode cX0_remember 55 = .ok (.return_, 1) := by decide +kernel
theorem dX0_forgetFirst_0 : decode cX0_forgetFirst 0 = .ok (.iconst 1, 1) := by decide +kernel
theorem dX0_forgetFirst_1 : decode cX0_forgetFirst 1 = .ok (.istore_n 1, 1) := by decide +kernel
theorem dX0_forgetFirst_2 : decode cX0_forgetFirst 2 = .ok (.iload_n 1, 1) := by decide +kernel
theorem dX0_forgetFirst_3 : decode cX0_forgetFirst 3 = .ok (.aload_n 0, 1) := by decide +kernel
theorem dX0_forgetFirst_4 : decode cX0_forgetFirst 4 = .ok (.getfield 9, 3) := by decide +kernel
theorem dX0_forgetFirst_7 : decode cX0_forgetFirst 7 = .ok (.arraylength, 1) := by decide +kernel
theorem dX0_forgetFirst_8 : decode cX0_forgetFirst 8 = .ok (.if_icmp .ge 23, 3) := by decide +kernel
theorem dX0_forgetFirst_11 : decode cX0_forgetFirst 11 = .ok (.aload_n 0, 1) := by decide +kernel
theorem dX0_forgetFirst_12 : decode cX0_forgetFirst 12 = .ok (.getfield 9, 3) := by decide +kernel
theorem dX0_forgetFirst_15 : decode cX0_forgetFirst 15 = .ok (.iload_n 1, 1) := by decide +kernel
theorem dX0_forgetFirst_16 : decode cX0_forgetFirst 16 = .ok (.iconst 1, 1) := by decide +kernel
theorem dX0_forgetFirst_17 : decode cX0_forgetFirst 17 = .ok (.isub, 1) := by decide +kernel
theorem dX0_forgetFirst_18 : decode cX0_forgetFirst 18 = .ok (.aload_n 0, 1) := by decide +kernel
theorem dX0_forgetFirst_19 : decode cX0_forgetFirst 19 = .ok (.getfield 9, 3) := by decide +kernel
theorem dX0_forgetFirst_22 : decode cX0_forgetFirst 22 = .ok (.iload_n 1, 1) := by decide +kernel
theorem dX0_forgetFirst_23 : decode cX0_forgetFirst 23 = .ok (.laload, 1) := by decide +kernel
theorem dX0_forgetFirst_24 : decode cX0_forgetFirst 24 = .ok (.lastore, 1) := by decide +kernel
theorem dX0_forgetFirst_25 : decode cX0_forgetFirst 25 = .ok (.iinc 1 1, 3) := by decide +kernel
theorem dX0_forgetFirst_28 : decode cX0_forgetFirst 28 = .ok (.goto (-26), 3) := by decide +kernel
theorem dX0_forgetFirst_31 : decode cX0_forgetFirst 31 = .ok (.aload_n 0, 1) := by decide +kernel
theorem dX0_forgetFirst_32 : decode cX0_forgetFirst 32 = .ok (.aload_n 0, 1) := by decide +kernel
theorem dX0_forgetFirst_33 : decode cX0_forgetFirst 33 = .ok (.getfield 9, 3) := by decide +kernel
theorem dX0_forgetFirst_36 : decode cX0_forgetFirst 36 = .ok (.arraylength, 1) := by decide +kernel
theorem dX0_forgetFirst_37 : decode cX0_forgetFirst 37 = .ok (.iconst 1, 1) := by decide +kernel
theorem dX0_forgetFirst_38 : decode cX0_forgetFirst 38 = .ok (.isub, 1) := by decide +kernel
theorem dX0_forgetFirst_39 : decode cX0_forgetFirst 39 = .ok (.putfield 15, 3) := by decide +kernel
theorem dX0_forgetFirst_42 : decode cX0_forgetFirst 42 = .ok (.return_, 1) := by decide +kernel
theorem dX0_takeLast_0 : decode cX0_takeLast 0 = .ok (.aload_n 0, 1) := by decide +kernel
theorem dX0_takeLast_1 : decode cX0_takeLast 1 = .ok (.getfield 15, 3) := by decide +kernel
theorem dX0_takeLast_4 : decode cX0_takeLast 4 = .ok (.ifCond .le 15, 3) := by decide +kernel
theorem dX0_takeLast_7 : decode cX0_takeLast 7 = .ok (.aload_n 0, 1) := by decide +kernel
theorem dX0_takeLast_8 : decode cX0_takeLast 8 = .ok (.getfield 15, 3) := by decide +kernel
theorem dX0_takeLast_11 : decode cX0_takeLast 11 = .ok (.aload_n 0, 1) := by decide +kernel
theorem dX0_takeLast_12 : decode cX0_takeLast 12 = .ok (.getfield 9, 3) := by decide +kernel
theorem dX0_takeLast_15 : decode cX0_takeLast 15 = .ok (.arraylength, 1) := by decide +kernel
theorem dX0_takeLast_16 : decode cX0_takeLast 16 = .ok (.if_icmp .le 5, 3) := by decide +kernel
theorem dX0_takeLast_19 : decode cX0_takeLast 19 = .ok (.lconst 0, 1) := by decide +kernel
theorem dX0_takeLast_20 : decode cX0_takeLast 20 = .ok (.lreturn, 1) := by decide +kernel
theorem dX0_takeLast_21 : decode cX0_takeLast 21 = .ok (.aload_n 0, 1) := by decide +kernel
theorem dX0_takeLast_22 : decode cX0_takeLast 22 = .ok (.dup, 1) := by decide +kernel
theorem dX0_takeLast_23 : decode cX0_takeLast 23 = .ok (.getfield 15, 3) := by decide +kernel
theorem dX0_takeLast_26 : decode cX0_takeLast 26 = .ok (.iconst 1, 1) := by decide +kernel
theorem dX0_takeLast_27 : decode cX0_takeLast 27 = .ok (.isub, 1) := by decide +kernel
theorem dX0_takeLast_28 : decode cX0_takeLast 28 = .ok (.putfield 15, 3) := by decide +kernel
theorem dX0_takeLast_31 : decode cX0_takeLast 31 = .ok (.aload_n 0, 1) := by decide +kernel
theorem dX0_takeLast_32 : decode cX0_takeLast 32 = .ok (.getfield 9, 3) := by decide +kernel
theorem dX0_takeLast_35 : decode cX0_takeLast 35 = .ok (.aload_n 0, 1) := by decide +kernel
theorem dX0_takeLast_36 : decode cX0_takeLast 36 = .ok (.getfield 15, 3) := by decide +kernel
theorem dX0_takeLast_39 : decode cX0_takeLast 39 = .ok (.laload, 1) := by decide +kernel
theorem dX0_takeLast_40 : decode cX0_takeLast 40 = .ok (.lreturn, 1) := by decide +kernel
theorem dX1_init_0 : decode cX1_init 0 = .ok (.aload_n 0, 1) := by decide +kernel
theorem dX1_init_1 : decode cX1_init 1 = .ok (.invokespecial 3, 3) := by decide +kernel
theorem dX1_init_4 : decode cX1_init 4 = .ok (.aload_n 0, 1) := by decide +kernel
theorem dX1_init_5 : decode cX1_init 5 = .ok (.iconst 4, 1) := by decide +kernel
theorem dX1_init_6 : decode cX1_init 6 = .ok (.newarray .int, 2) := by decide +kernel
theorem dX1_init_8 : decode cX1_init 8 = .ok (.putfield 9, 3) := by decide +kernel
theorem dX1_init_11 : decode cX1_init 11 = .ok (.aload_n 0, 1) := by decide +kernel
theorem dX1_init_12 : decode cX1_init 12 = .ok (.iconst 4, 1) := by decide +kernel
theorem dX1_init_13 : decode cX1_init 13 = .ok (.newarray .int, 2) := by decide +kernel
theorem dX1_init_15 : decode cX1_init 15 = .ok (.putfield 15, 3) := by decide +kernel
theorem dX1_init_18 : decode cX1_init 18 = .ok (.aload_n 0, 1) := by decide +kernel
theorem dX1_init_19 : decode cX1_init 19 = .ok (.aload_n 1, 1) := by decide +kernel
theorem dX1_init_20 : decode cX1_init 20 = .ok (.putfield 18, 3) := by decide +kernel
theorem dX1_init_23 : decode cX1_init 23 = .ok (.aload_n 0, 1) := by decide +kernel
theorem dX1_init_24 : decode cX1_init 24 = .ok (.aload_n 2, 1) := by decide +kernel
theorem dX1_init_25 : decode cX1_init 25 = .ok (.putfield 22, 3) := by decide +kernel
theorem dX1_init_28 : decode cX1_init 28 = .ok (.return_, 1) := by decide +kernel
theorem dX1_weighPairs_0 : decode cX1_weighPairs 0 = .ok (.iconst 0, 1) := by decide +kernel
theorem dX1_weighPairs_1 : decode cX1_weighPairs 1 = .ok (.istore_n 3, 1) := by decide +kernel
theorem dX1_weighPairs_2 : decode cX1_weighPairs 2 = .ok (.iload_n 3, 1) := by decide +kernel
theorem dX1_weighPairs_3 : decode cX1_weighPairs 3 = .ok (.aload_n 0, 1) := by decide +kernel
theorem dX1_weighPairs_4 : decode cX1_weighPairs 4 = .ok (.getfield 9, 3) := by decide +kernel
theorem dX1_weighPairs_7 : decode cX1_weighPairs 7 = .ok (.arraylength, 1) := by decide +kernel
theorem dX1_weighPairs_8 : decode cX1_weighPairs 8 = .ok (.if_icmp .ge 147, 3) := by decide +kernel
theorem dX1_weighPairs_11 : decode cX1_weighPairs 11 = .ok (.iload_n 3, 1) := by decide +kernel
theorem dX1_weighPairs_12 : decode cX1_weighPairs 12 = .ok (.aload_n 0, 1) := by decide +kernel
theorem dX1_weighPairs_13 : decode cX1_weighPairs 13 = .ok (.getfield 15, 3) := by decide +kernel
theorem dX1_weighPairs_16 : decode cX1_weighPairs 16 = .ok (.arraylength, 1) := by decide +kernel
theorem dX1_weighPairs_17 : decode cX1_weighPairs 17 = .ok (.if_icmp .ge 138, 3) := by decide +kernel
theorem dX1_weighPairs_20 : decode cX1_weighPairs 20 = .ok (.iload_n 3, 1) := by decide +kernel
theorem dX1_weighPairs_21 : decode cX1_weighPairs 21 = .ok (.iconst 1, 1) := by decide +kernel
theorem dX1_weighPairs_22 : decode cX1_weighPairs 22 = .ok (.ishr, 1) := by decide +kernel
theorem dX1_weighPairs_23 : decode cX1_weighPairs 23 = .ok (.istore 4, 2) := by decide +kernel
theorem dX1_weighPairs_25 : decode cX1_weighPairs 25 = .ok (.iload_n 3, 1) := by decide +kernel
theorem dX1_weighPairs_26 : decode cX1_weighPairs 26 = .ok (.iconst 1, 1) := by decide +kernel
theorem dX1_weighPairs_27 : decode cX1_weighPairs 27 = .ok (.iand, 1) := by decide +kernel
theorem dX1_weighPairs_28 : decode cX1_weighPairs 28 = .ok (.istore 5, 2) := by decide +kernel
theorem dX1_weighPairs_30 : decode cX1_weighPairs 30 = .ok (.aload_n 0, 1) := by decide +kernel
theorem dX1_weighPairs_31 : decode cX1_weighPairs 31 = .ok (.getfield 22, 3) := by decide +kernel
theorem dX1_weighPairs_34 : decode cX1_weighPairs 34 = .ok (.aload_n 0, 1) := by decide +kernel
theorem dX1_weighPairs_35 : decode cX1_weighPairs 35 = .ok (.getfield 18, 3) := by decide +kernel
theorem dX1_weighPairs_38 : decode cX1_weighPairs 38 = .ok (.invokevirtual 25, 3) := by decide +kernel
theorem dX1_weighPairs_41 : decode cX1_weighPairs 41 = .ok (.iload 4, 2) := by decide +kernel
theorem dX1_weighPairs_43 : decode cX1_weighPairs 43 = .ok (.iconst 1, 1) := by decide +kernel
theorem dX1_weighPairs_44 : decode cX1_weighPairs 44 = .ok (.if_icmp .ne 11, 3) := by decide +kernel
theorem dX1_weighPairs_47 : decode cX1_weighPairs 47 = .ok (.aload_n 0, 1) := by decide +kernel
theorem dX1_weighPairs_48 : decode cX1_weighPairs 48 = .ok (.getfield 22, 3) := by decide +kernel
theorem dX1_weighPairs_51 : decode cX1_weighPairs 51 = .ok (.iload_n 1, 1) := by decide +kernel
theorem dX1_weighPairs_52 : decode cX1_weighPairs 52 = .ok (.invokevirtual 31, 3) := by decide +kernel
theorem dX1_weighPairs_55 : decode cX1_weighPairs 55 = .ok (.iload 5, 2) := by decide +kernel
theorem dX1_weighPairs_57 : decode cX1_weighPairs 57 = .ok (.iconst 1, 1) := by decide +kernel
theorem dX1_weighPairs_58 : decode cX1_weighPairs 58 = .ok (.if_icmp .ne 11, 3) := by decide +kernel
theorem dX1_weighPairs_61 : decode cX1_weighPairs 61 = .ok (.aload_n 0, 1) := by decide +kernel
theorem dX1_weighPairs_62 : decode cX1_weighPairs 62 = .ok (.getfield 22, 3) := by decide +kernel
theorem dX1_weighPairs_65 : decode cX1_weighPairs 65 = .ok (.iload_n 2, 1) := by decide +kernel
theorem dX1_weighPairs_66 : decode cX1_weighPairs 66 = .ok (.invokevirtual 31, 3) := by decide +kernel
theorem dX1_weighPairs_69 : decode cX1_weighPairs 69 = .ok (.aload_n 0, 1) := by decide +kernel
theorem dX1_weighPairs_70 : decode cX1_weighPairs 70 = .ok (.getfield 22, 3) := by decide +kernel
theorem dX1_weighPairs_73 : decode cX1_weighPairs 73 = .ok (.iconst 3, 1) := by decide +kernel
theorem dX1_weighPairs_74 : decode cX1_weighPairs 74 = .ok (.invokevirtual 35, 3) := by decide +kernel
theorem dX1_weighPairs_77 : decode cX1_weighPairs 77 = .ok (.aload_n 0, 1) := by decide +kernel
theorem dX1_weighPairs_78 : decode cX1_weighPairs 78 = .ok (.getfield 22, 3) := by decide +kernel
theorem dX1_weighPairs_81 : decode cX1_weighPairs 81 = .ok (.invokevirtual 38, 3) := by decide +kernel
theorem dX1_weighPairs_84 : decode cX1_weighPairs 84 = .ok (.aload_n 0, 1) := by decide +kernel
theorem dX1_weighPairs_85 : decode cX1_weighPairs 85 = .ok (.getfield 18, 3) := by decide +kernel
theorem dX1_weighPairs_88 : decode cX1_weighPairs 88 = .ok (.invokevirtual 38, 3) := by decide +kernel
theorem dX1_weighPairs_91 : decode cX1_weighPairs 91 = .ok (.isub, 1) := by decide +kernel
theorem dX1_weighPairs_92 : decode cX1_weighPairs 92 = .ok (.istore 6, 2) := by decide +kernel
theorem dX1_weighPairs_94 : decode cX1_weighPairs 94 = .ok (.aload_n 0, 1) := by decide +kernel
theorem dX1_weighPairs_95 : decode cX1_weighPairs 95 = .ok (.getfield 22, 3) := by decide +kernel
theorem dX1_weighPairs_98 : decode cX1_weighPairs 98 = .ok (.invokevirtual 42, 3) := by decide +kernel
theorem dX1_weighPairs_101 : decode cX1_weighPairs 101 = .ok (.istore 7, 2) := by decide +kernel
theorem dX1_weighPairs_103 : decode cX1_weighPairs 103 = .ok (.aload_n 0, 1) := by decide +kernel
theorem dX1_weighPairs_104 : decode cX1_weighPairs 104 = .ok (.getfield 9, 3) := by decide +kernel
theorem dX1_weighPairs_107 : decode cX1_weighPairs 107 = .ok (.iload_n 3, 1) := by decide +kernel
theorem dX1_weighPairs_108 : decode cX1_weighPairs 108 = .ok (.iload 6, 2) := by decide +kernel
theorem dX1_weighPairs_110 : decode cX1_weighPairs 110 = .ok (.iload 7, 2) := by decide +kernel
theorem dX1_weighPairs_112 : decode cX1_weighPairs 112 = .ok (.iload_n 1, 1) := by decide +kernel
theorem dX1_weighPairs_113 : decode cX1_weighPairs 113 = .ok (.if_icmp .ne 7, 3) := by decide +kernel
theorem dX1_weighPairs_116 : decode cX1_weighPairs 116 = .ok (.iconst 4, 1) := by decide +kernel
theorem dX1_weighPairs_117 : decode cX1_weighPairs 117 = .ok (.goto 4, 3) := by decide +kernel
theorem dX1_weighPairs_120 : decode cX1_weighPairs 120 = .ok (.iconst 0, 1) := by decide +kernel
theorem dX1_weighPairs_121 : decode cX1_weighPairs 121 = .ok (.iadd, 1) := by decide +kernel
theorem dX1_weighPairs_122 : decode cX1_weighPairs 122 = .ok (.iload 4, 2) := by decide +kernel
theorem dX1_weighPairs_124 : decode cX1_weighPairs 124 = .ok (.isub, 1) := by decide +kernel
theorem dX1_weighPairs_125 : decode cX1_weighPairs 125 = .ok (.iastore, 1) := by decide +kernel
theorem dX1_weighPairs_126 : decode cX1_weighPairs 126 = .ok (.aload_n 0, 1) := by decide +kernel
theorem dX1_weighPairs_127 : decode cX1_weighPairs 127 = .ok (.getfield 15, 3) := by decide +kernel
theorem dX1_weighPairs_130 : decode cX1_weighPairs 130 = .ok (.iload_n 3, 1) := by decide +kernel
theorem dX1_weighPairs_131 : decode cX1_weighPairs 131 = .ok (.iload 6, 2) := by decide +kernel
theorem dX1_weighPairs_133 : decode cX1_weighPairs 133 = .ok (.iload 7, 2) := by decide +kernel
theorem dX1_weighPairs_135 : decode cX1_weighPairs 135 = .ok (.iload_n 2, 1) := by decide +kernel
theorem dX1_weighPairs_136 : decode cX1_weighPairs 136 = .ok (.if_icmp .ne 7, 3) := by decide +kernel
theorem dX1_weighPairs_139 : decode cX1_weighPairs 139 = .ok (.iconst 4, 1) := by decide +kernel
theorem dX1_weighPairs_140 : decode cX1_weighPairs 140 = .ok (.goto 4, 3) := by decide +kernel
theorem dX1_weighPairs_143 : decode cX1_weighPairs 143 = .ok (.iconst 0, 1) := by decide +kernel
theorem dX1_weighPairs_144 : decode cX1_weighPairs 144 = .ok (.iadd, 1) := by decide +kernel
theorem dX1_weighPairs_145 : decode cX1_weighPairs 145 = .ok (.iload 5, 2) := by decide +kernel
theorem dX1_weighPairs_147 : decode cX1_weighPairs 147 = .ok (.isub, 1) := by decide +kernel
theorem dX1_weighPairs_148 : decode cX1_weighPairs 148 = .ok (.iastore, 1) := by decide +kernel
theorem dX1_weighPairs_149 : decode cX1_weighPairs 149 = .ok (.iinc 3 1, 3) := by decide +kernel
theorem dX1_weighPairs_152 : decode cX1_weighPairs 152 = .ok (.goto (-150), 3) := by decide +kernel
theorem dX1_weighPairs_155 : decode cX1_weighPairs 155 = .ok (.return_, 1) := by decide +kernel
theorem dX1_isRest_0 : decode cX1_isRest 0 = .ok (.iload_n 1, 1) := by decide +kernel
theorem dX1_isRest_1 : decode cX1_isRest 1 = .ok (.ifCond .lt 21, 3) := by decide +kernel
theorem dX1_isRest_4 : decode cX1_isRest 4 = .ok (.iload_n 1, 1) := by decide +kernel
theorem dX1_isRest_5 : decode cX1_isRest 5 = .ok (.aload_n 0, 1) := by decide +kernel
theorem dX1_isRest_6 : decode cX1_isRest 6 = .ok (.getfield 9, 3) := by decide +kernel
theorem dX1_isRest_9 : decode cX1_isRest 9 = .ok (.arraylength, 1) := by decide +kernel
theorem dX1_isRest_10 : decode cX1_isRest 10 = .ok (.if_icmp .ge 12, 3) := by decide +kernel
theorem dX1_isRest_13 : decode cX1_isRest 13 = .ok (.iload_n 1, 1) := by decide +kernel
theorem dX1_isRest_14 : decode cX1_isRest 14 = .ok (.aload_n 0, 1) := by decide +kernel
theorem dX1_isRest_15 : decode cX1_isRest 15 = .ok (.getfield 15, 3) := by decide +kernel
theorem dX1_isRest_18 : decode cX1_isRest 18 = .ok (.arraylength, 1) := by decide +kernel
theorem dX1_isRest_19 : decode cX1_isRest 19 = .ok (.if_icmp .lt 5, 3) := by decide +kernel
theorem dX1_isRest_22 : decode cX1_isRest 22 = .ok (.iconst 0, 1) := by decide +kernel
theorem dX1_isRest_23 : decode cX1_isRest 23 = .ok (.ireturn, 1) := by decide +kernel
theorem dX1_isRest_24 : decode cX1_isRest 24 = .ok (.aload_n 0, 1) := by decide +kernel
theorem dX1_isRest_25 : decode cX1_isRest 25 = .ok (.getfield 9, 3) := by decide +kernel
theorem dX1_isRest_28 : decode cX1_isRest 28 = .ok (.iload_n 1, 1) := by decide +kernel
theorem dX1_isRest_29 : decode cX1_isRest 29 = .ok (.iconst 2, 1) := by decide +kernel
theorem dX1_isRest_30 : decode cX1_isRest 30 = .ok (.ixor, 1) := by decide +kernel
theorem dX1_isRest_31 : decode cX1_isRest 31 = .ok (.iaload, 1) := by decide +kernel
theorem dX1_isRest_32 : decode cX1_isRest 32 = .ok (.aload_n 0, 1) := by decide +kernel
theorem dX1_isRest_33 : decode cX1_isRest 33 = .ok (.getfield 9, 3) := by decide +kernel
theorem dX1_isRest_36 : decode cX1_isRest 36 = .ok (.iload_n 1, 1) := by decide +kernel
theorem dX1_isRest_37 : decode cX1_isRest 37 = .ok (.iaload, 1) := by decide +kernel
theorem dX1_isRest_38 : decode cX1_isRest 38 = .ok (.if_icmp .gt 24, 3) := by decide +kernel
theorem dX1_isRest_41 : decode cX1_isRest 41 = .ok (.aload_n 0, 1) := by decide +kernel
theorem dX1_isRest_42 : decode cX1_isRest 42 = .ok (.getfield 15, 3) := by decide +kernel
theorem dX1_isRest_45 : decode cX1_isRest 45 = .ok (.iload_n 1, 1) := by decide +kernel
theorem dX1_isRest_46 : decode cX1_isRest 46 = .ok (.iconst 1, 1) := by decide +kernel
theorem dX1_isRest_47 : decode cX1_isRest 47 = .ok (.ixor, 1) := by decide +kernel
theorem dX1_isRest_48 : decode cX1_isRest 48 = .ok (.iaload, 1) := by decide +kernel
theorem dX1_isRest_49 : decode cX1_isRest 49 = .ok (.aload_n 0, 1) := by decide +kernel
theorem dX1_isRest_50 : decode cX1_isRest 50 = .ok (.getfield 15, 3) := by decide +kernel
theorem dX1_isRest_53 : decode cX1_isRest 53 = .ok (.iload_n 1, 1) := by decide +kernel
theorem dX1_isRest_54 : decode cX1_isRest 54 = .ok (.iaload, 1) := by decide +kernel
theorem dX1_isRest_55 : decode cX1_isRest 55 = .ok (.if_icmp .gt 7, 3) := by decide +kernel
theorem dX1_isRest_58 : decode cX1_isRest 58 = .ok (.iconst 1, 1) := by decide +kernel
theorem dX1_isRest_59 : decode cX1_isRest 59 = .ok (.goto 4, 3) := by decide +kernel
theorem dX1_isRest_62 : decode cX1_isRest 62 = .ok (.iconst 0, 1) := by decide +kernel
theorem dX1_isRest_63 : decode cX1_isRest 63 = .ok (.ireturn, 1) := by decide +kernel
theorem dX1_restCount_0 : decode cX1_restCount 0 = .ok (.iconst 0, 1) := by decide +kernel
theorem dX1_restCount_1 : decode cX1_restCount 1 = .ok (.istore_n 1, 1) := by decide +kernel
theorem dX1_restCount_2 : decode cX1_restCount 2 = .ok (.iconst 0, 1) := by decide +kernel
theorem dX1_restCount_3 : decode cX1_restCount 3 = .ok (.istore_n 2, 1) := by decide +kernel
theorem dX1_restCount_4 : decode cX1_restCount 4 = .ok (.iload_n 2, 1) := by decide +kernel
theorem dX1_restCount_5 : decode cX1_restCount 5 = .ok (.aload_n 0, 1) := by decide +kernel
theorem dX1_restCount_6 : decode cX1_restCount 6 = .ok (.getfield 9, 3) := by decide +kernel
theorem dX1_restCount_9 : decode cX1_restCount 9 = .ok (.arraylength, 1) := by decide +kernel
theorem dX1_restCount_10 : decode cX1_restCount 10 = .ok (.if_icmp .ge 20, 3) := by decide +kernel
theorem dX1_restCount_13 : decode cX1_restCount 13 = .ok (.aload_n 0, 1) := by decide +kernel
theorem dX1_restCount_14 : decode cX1_restCount 14 = .ok (.iload_n 2, 1) := by decide +kernel
theorem dX1_restCount_15 : decode cX1_restCount 15 = .ok (.invokevirtual 45, 3) := by decide +kernel
theorem dX1_restCount_18 : decode cX1_restCount 18 = .ok (.ifCond .eq 6, 3) := by decide +kernel
theorem dX1_restCount_21 : decode cX1_restCount 21 = .ok (.iinc 1 1, 3) := by decide +kernel
theorem dX1_restCount_24 : decode cX1_restCount 24 = .ok (.iinc 2 1, 3) := by decide +kernel
theorem dX1_restCount_27 : decode cX1_restCount 27 = .ok (.goto (-23), 3) := by decide +kernel
theorem dX1_restCount_30 : decode cX1_restCount 30 = .ok (.iload_n 1, 1) := by decide +kernel
theorem dX1_restCount_31 : decode cX1_restCount 31 = .ok (.ireturn, 1) := by decide +kernel
theorem dX1_firstRest_0 : decode cX1_firstRest 0 = .ok (.iconst 0, 1) := by decide +kernel
theorem dX1_firstRest_1 : decode cX1_firstRest 1 = .ok (.istore_n 1, 1) := by decide +kernel
theorem dX1_firstRest_2 : decode cX1_firstRest 2 = .ok (.iload_n 1, 1) := by decide +kernel
theorem dX1_firstRest_3 : decode cX1_firstRest 3 = .ok (.aload_n 0, 1) := by decide +kernel
theorem dX1_firstRest_4 : decode cX1_firstRest 4 = .ok (.getfield 9, 3) := by decide +kernel
theorem dX1_firstRest_7 : decode cX1_firstRest 7 = .ok (.arraylength, 1) := by decide +kernel
theorem dX1_firstRest_8 : decode cX1_firstRest 8 = .ok (.if_icmp .ge 28, 3) := by decide +kernel
theorem dX1_firstRest_11 : decode cX1_firstRest 11 = .ok (.aload_n 0, 1) := by decide +kernel
theorem dX1_firstRest_12 : decode cX1_firstRest 12 = .ok (.iload_n 1, 1) := by decide +kernel
theorem dX1_firstRest_13 : decode cX1_firstRest 13 = .ok (.invokevirtual 45, 3) := by decide +kernel
theorem dX1_firstRest_16 : decode cX1_firstRest 16 = .ok (.ifCond .eq 14, 3) := by decide +kernel
theorem dX1_firstRest_19 : decode cX1_firstRest 19 = .ok (.bipush 10, 2) := by decide +kernel
theorem dX1_firstRest_21 : decode cX1_firstRest 21 = .ok (.iload_n 1, 1) := by decide +kernel
theorem dX1_firstRest_22 : decode cX1_firstRest 22 = .ok (.iconst 1, 1) := by decide +kernel
theorem dX1_firstRest_23 : decode cX1_firstRest 23 = .ok (.ishr, 1) := by decide +kernel
theorem dX1_firstRest_24 : decode cX1_firstRest 24 = .ok (.imul, 1) := by decide +kernel
theorem dX1_firstRest_25 : decode cX1_firstRest 25 = .ok (.iload_n 1, 1) := by decide +kernel
theorem dX1_firstRest_26 : decode cX1_firstRest 26 = .ok (.iconst 1, 1) := by decide +kernel
theorem dX1_firstRest_27 : decode cX1_firstRest 27 = .ok (.iand, 1) := by decide +kernel
theorem dX1_firstRest_28 : decode cX1_firstRest 28 = .ok (.iadd, 1) := by decide +kernel
theorem dX1_firstRest_29 : decode cX1_firstRest 29 = .ok (.ireturn, 1) := by decide +kernel
theorem dX1_firstRest_30 : decode cX1_firstRest 30 = .ok (.iinc 1 1, 3) := by decide +kernel
theorem dX1_firstRest_33 : decode cX1_firstRest 33 = .ok (.goto (-31), 3) := by decide +kernel
theorem dX1_firstRest_36 : decode cX1_firstRest 36 = .ok (.bipush (-9), 2) := by decide +kernel
theorem dX1_firstRest_38 : decode cX1_firstRest 38 = .ok (.ireturn, 1) := by decide +kernel
theorem dX1_weightInTime_0 : decode cX1_weightInTime 0 = .ok (.aload_n 0, 1) := by decide +kernel
theorem dX1_weightInTime_1 : decode cX1_weightInTime 1 = .ok (.getfield 18, 3) := by decide +kernel
theorem dX1_weightInTime_4 : decode cX1_weightInTime 4 = .ok (.invokevirtual 49, 3) := by decide +kernel
theorem dX1_weightInTime_7 : decode cX1_weightInTime 7 = .ok (.istore_n 3, 1) := by decide +kernel
theorem dX1_weightInTime_8 : decode cX1_weightInTime 8 = .ok (.iconst 0, 1) := by decide +kernel
theorem dX1_weightInTime_9 : decode cX1_weightInTime 9 = .ok (.istore 4, 2) := by decide +kernel
theorem dX1_weightInTime_11 : decode cX1_weightInTime 11 = .ok (.iconst 0, 1) := by decide +kernel
theorem dX1_weightInTime_12 : decode cX1_weightInTime 12 = .ok (.istore 5, 2) := by decide +kernel
theorem dX1_weightInTime_14 : decode cX1_weightInTime 14 = .ok (.iload 5, 2) := by decide +kernel
theorem dX1_weightInTime_16 : decode cX1_weightInTime 16 = .ok (.iconst 1, 1) := by decide +kernel
theorem dX1_weightInTime_17 : decode cX1_weightInTime 17 = .ok (.iload_n 3, 1) := by decide +kernel
theorem dX1_weightInTime_18 : decode cX1_weightInTime 18 = .ok (.ishl, 1) := by decide +kernel
theorem dX1_weightInTime_19 : decode cX1_weightInTime 19 = .ok (.if_icmp .ge 58, 3) := by decide +kernel
theorem dX1_weightInTime_22 : decode cX1_weightInTime 22 = .ok (.iload 5, 2) := by decide +kernel
theorem dX1_weightInTime_24 : decode cX1_weightInTime 24 = .ok (.invokestatic 52, 3) := by decide +kernel
theorem dX1_weightInTime_27 : decode cX1_weightInTime 27 = .ok (.istore 6, 2) := by decide +kernel
theorem dX1_weightInTime_29 : decode cX1_weightInTime 29 = .ok (.iload_n 2, 1) := by decide +kernel
theorem dX1_weightInTime_30 : decode cX1_weightInTime 30 = .ok (.iload 6, 2) := by decide +kernel
theorem dX1_weightInTime_32 : decode cX1_weightInTime 32 = .ok (.invokestatic 58, 3) := by decide +kernel
theorem dX1_weightInTime_35 : decode cX1_weightInTime 35 = .ok (.bipush 10, 2) := by decide +kernel
theorem dX1_weightInTime_37 : decode cX1_weightInTime 37 = .ok (.iload_n 2, 1) := by decide +kernel
theorem dX1_weightInTime_38 : decode cX1_weightInTime 38 = .ok (.isub, 1) := by decide +kernel
theorem dX1_weightInTime_39 : decode cX1_weightInTime 39 = .ok (.iload_n 3, 1) := by decide +kernel
theorem dX1_weightInTime_40 : decode cX1_weightInTime 40 = .ok (.iload 6, 2) := by decide +kernel
theorem dX1_weightInTime_42 : decode cX1_weightInTime 42 = .ok (.isub, 1) := by decide +kernel
theorem dX1_weightInTime_43 : decode cX1_weightInTime 43 = .ok (.invokestatic 58, 3) := by decide +kernel
theorem dX1_weightInTime_46 : decode cX1_weightInTime 46 = .ok (.imul, 1) := by decide +kernel
theorem dX1_weightInTime_47 : decode cX1_weightInTime 47 = .ok (.istore 7, 2) := by decide +kernel
theorem dX1_weightInTime_49 : decode cX1_weightInTime 49 = .ok (.iload 7, 2) := by decide +kernel
theorem dX1_weightInTime_51 : decode cX1_weightInTime 51 = .ok (.ifCond .le 20, 3) := by decide +kernel
theorem dX1_weightInTime_54 : decode cX1_weightInTime 54 = .ok (.aload_n 0, 1) := by decide +kernel
theorem dX1_weightInTime_55 : decode cX1_weightInTime 55 = .ok (.iload 5, 2) := by decide +kernel
theorem dX1_weightInTime_57 : decode cX1_weightInTime 57 = .ok (.iload_n 1, 1) := by decide +kernel
theorem dX1_weightInTime_58 : decode cX1_weightInTime 58 = .ok (.invokevirtual 62, 3) := by decide +kernel
theorem dX1_weightInTime_61 : decode cX1_weightInTime 61 = .ok (.ifCond .eq 10, 3) := by decide +kernel
theorem dX1_weightInTime_64 : decode cX1_weightInTime 64 = .ok (.iload 4, 2) := by decide +kernel
theorem dX1_weightInTime_66 : decode cX1_weightInTime 66 = .ok (.iload 7, 2) := by decide +kernel
theorem dX1_weightInTime_68 : decode cX1_weightInTime 68 = .ok (.iadd, 1) := by decide +kernel
theorem dX1_weightInTime_69 : decode cX1_weightInTime 69 = .ok (.istore 4, 2) := by decide +kernel
theorem dX1_weightInTime_71 : decode cX1_weightInTime 71 = .ok (.iinc 5 1, 3) := by decide +kernel
theorem dX1_weightInTime_74 : decode cX1_weightInTime 74 = .ok (.goto (-60), 3) := by decide +kernel
theorem dX1_weightInTime_77 : decode cX1_weightInTime 77 = .ok (.iload 4, 2) := by decide +kernel
theorem dX1_weightInTime_79 : decode cX1_weightInTime 79 = .ok (.ireturn, 1) := by decide +kernel
theorem dX1_isInTimePricked_0 : decode cX1_isInTimePricked 0 = .ok (.aload_n 0, 1) := by decide +kernel
theorem dX1_isInTimePricked_1 : decode cX1_isInTimePricked 1 = .ok (.getfield 22, 3) := by decide +kernel
theorem dX1_isInTimePricked_4 : decode cX1_isInTimePricked 4 = .ok (.aload_n 0, 1) := by decide +kernel
theorem dX1_isInTimePricked_5 : decode cX1_isInTimePricked 5 = .ok (.getfield 18, 3) := by decide +kernel
theorem dX1_isInTimePricked_8 : decode cX1_isInTimePricked 8 = .ok (.invokevirtual 25, 3) := by decide +kernel
theorem dX1_isInTimePricked_11 : decode cX1_isInTimePricked 11 = .ok (.iconst 0, 1) := by decide +kernel
theorem dX1_isInTimePricked_12 : decode cX1_isInTimePricked 12 = .ok (.istore_n 3, 1) := by decide +kernel
theorem dX1_isInTimePricked_13 : decode cX1_isInTimePricked 13 = .ok (.iload_n 3, 1) := by decide +kernel
theorem dX1_isInTimePricked_14 : decode cX1_isInTimePricked 14 = .ok (.aload_n 0, 1) := by decide +kernel
theorem dX1_isInTimePricked_15 : decode cX1_isInTimePricked 15 = .ok (.getfield 18, 3) := by decide +kernel
theorem dX1_isInTimePricked_18 : decode cX1_isInTimePricked 18 = .ok (.invokevirtual 49, 3) := by decide +kernel
theorem dX1_isInTimePricked_21 : decode cX1_isInTimePricked 21 = .ok (.if_icmp .ge 26, 3) := by decide +kernel
theorem dX1_isInTimePricked_24 : decode cX1_isInTimePricked 24 = .ok (.iload_n 1, 1) := by decide +kernel
theorem dX1_isInTimePricked_25 : decode cX1_isInTimePricked 25 = .ok (.iload_n 3, 1) := by decide +kernel
theorem dX1_isInTimePricked_26 : decode cX1_isInTimePricked 26 = .ok (.ishr, 1) := by decide +kernel
theorem dX1_isInTimePricked_27 : decode cX1_isInTimePricked 27 = .ok (.iconst 1, 1) := by decide +kernel
theorem dX1_isInTimePricked_28 : decode cX1_isInTimePricked 28 = .ok (.iand, 1) := by decide +kernel
theorem dX1_isInTimePricked_29 : decode cX1_isInTimePricked 29 = .ok (.iconst 1, 1) := by decide +kernel
theorem dX1_isInTimePricked_30 : decode cX1_isInTimePricked 30 = .ok (.if_icmp .ne 11, 3) := by decide +kernel
theorem dX1_isInTimePricked_33 : decode cX1_isInTimePricked 33 = .ok (.aload_n 0, 1) := by decide +kernel
theorem dX1_isInTimePricked_34 : decode cX1_isInTimePricked 34 = .ok (.getfield 22, 3) := by decide +kernel
theorem dX1_isInTimePricked_37 : decode cX1_isInTimePricked 37 = .ok (.iload_n 3, 1) := by decide +kernel
theorem dX1_isInTimePricked_38 : decode cX1_isInTimePricked 38 = .ok (.invokevirtual 31, 3) := by decide +kernel
theorem dX1_isInTimePricked_41 : decode cX1_isInTimePricked 41 = .ok (.iinc 3 1, 3) := by decide +kernel
theorem dX1_isInTimePricked_44 : decode cX1_isInTimePricked 44 = .ok (.goto (-31), 3) := by decide +kernel
theorem dX1_isInTimePricked_47 : decode cX1_isInTimePricked 47 = .ok (.aload_n 0, 1) := by decide +kernel
theorem dX1_isInTimePricked_48 : decode cX1_isInTimePricked 48 = .ok (.getfield 22, 3) := by decide +kernel
theorem dX1_isInTimePricked_51 : decode cX1_isInTimePricked 51 = .ok (.iload_n 2, 1) := by decide +kernel
theorem dX1_isInTimePricked_52 : decode cX1_isInTimePricked 52 = .ok (.invokevirtual 66, 3) := by decide +kernel
theorem dX1_isInTimePricked_55 : decode cX1_isInTimePricked 55 = .ok (.bipush (-9), 2) := by decide +kernel
theorem dX1_isInTimePricked_57 : decode cX1_isInTimePricked 57 = .ok (.if_icmp .eq 7, 3) := by decide +kernel
theorem dX1_isInTimePricked_60 : decode cX1_isInTimePricked 60 = .ok (.iconst 1, 1) := by decide +kernel
theorem dX1_isInTimePricked_61 : decode cX1_isInTimePricked 61 = .ok (.goto 4, 3) := by decide +kernel
theorem dX1_isInTimePricked_64 : decode cX1_isInTimePricked 64 = .ok (.iconst 0, 1) := by decide +kernel
theorem dX1_isInTimePricked_65 : decode cX1_isInTimePricked 65 = .ok (.ireturn, 1) := by decide +kernel
theorem dX1_setOut_0 : decode cX1_setOut 0 = .ok (.aload_n 0, 1) := by decide +kernel
theorem dX1_setOut_1 : decode cX1_setOut 1 = .ok (.getfield 22, 3) := by decide +kernel
theorem dX1_setOut_4 : decode cX1_setOut 4 = .ok (.aload_n 0, 1) := by decide +kernel
theorem dX1_setOut_5 : decode cX1_setOut 5 = .ok (.getfield 18, 3) := by decide +kernel
theorem dX1_setOut_8 : decode cX1_setOut 8 = .ok (.invokevirtual 25, 3) := by decide +kernel
theorem dX1_setOut_11 : decode cX1_setOut 11 = .ok (.return_, 1) := by decide +kernel
theorem dX1_mileBehindLot_0 : decode cX1_mileBehindLot 0 = .ok (.iload_n 1, 1) := by decide +kernel
theorem dX1_mileBehindLot_1 : decode cX1_mileBehindLot 1 = .ok (.iconst 5, 1) := by decide +kernel
theorem dX1_mileBehindLot_2 : decode cX1_mileBehindLot 2 = .ok (.if_icmp .ge 14, 3) := by decide +kernel
theorem dX1_mileBehindLot_5 : decode cX1_mileBehindLot 5 = .ok (.aload_n 0, 1) := by decide +kernel
theorem dX1_mileBehindLot_6 : decode cX1_mileBehindLot 6 = .ok (.getfield 22, 3) := by decide +kernel
theorem dX1_mileBehindLot_9 : decode cX1_mileBehindLot 9 = .ok (.iload_n 1, 1) := by decide +kernel
theorem dX1_mileBehindLot_10 : decode cX1_mileBehindLot 10 = .ok (.invokevirtual 31, 3) := by decide +kernel
theorem dX1_mileBehindLot_13 : decode cX1_mileBehindLot 13 = .ok (.goto 46, 3) := by decide +kernel
theorem dX1_mileBehindLot_16 : decode cX1_mileBehindLot 16 = .ok (.iload_n 1, 1) := by decide +kernel
theorem dX1_mileBehindLot_17 : decode cX1_mileBehindLot 17 = .ok (.bipush 10, 2) := by decide +kernel
theorem dX1_mileBehindLot_19 : decode cX1_mileBehindLot 19 = .ok (.if_icmp .ge 16, 3) := by decide +kernel
theorem dX1_mileBehindLot_22 : decode cX1_mileBehindLot 22 = .ok (.aload_n 0, 1) := by decide +kernel
theorem dX1_mileBehindLot_23 : decode cX1_mileBehindLot 23 = .ok (.getfield 22, 3) := by decide +kernel
theorem dX1_mileBehindLot_26 : decode cX1_mileBehindLot 26 = .ok (.iload_n 1, 1) := by decide +kernel
theorem dX1_mileBehindLot_27 : decode cX1_mileBehindLot 27 = .ok (.iconst 5, 1) := by decide +kernel
theorem dX1_mileBehindLot_28 : decode cX1_mileBehindLot 28 = .ok (.isub, 1) := by decide +kernel
theorem dX1_mileBehindLot_29 : decode cX1_mileBehindLot 29 = .ok (.invokevirtual 69, 3) := by decide +kernel
theorem dX1_mileBehindLot_32 : decode cX1_mileBehindLot 32 = .ok (.goto 27, 3) := by decide +kernel
theorem dX1_mileBehindLot_35 : decode cX1_mileBehindLot 35 = .ok (.iload_n 1, 1) := by decide +kernel
theorem dX1_mileBehindLot_36 : decode cX1_mileBehindLot 36 = .ok (.bipush 10, 2) := by decide +kernel
theorem dX1_mileBehindLot_38 : decode cX1_mileBehindLot 38 = .ok (.if_icmp .ne 13, 3) := by decide +kernel
theorem dX1_mileBehindLot_41 : decode cX1_mileBehindLot 41 = .ok (.aload_n 0, 1) := by decide +kernel
theorem dX1_mileBehindLot_42 : decode cX1_mileBehindLot 42 = .ok (.getfield 22, 3) := by decide +kernel
theorem dX1_mileBehindLot_45 : decode cX1_mileBehindLot 45 = .ok (.invokevirtual 72, 3) := by decide +kernel
theorem dX1_mileBehindLot_48 : decode cX1_mileBehindLot 48 = .ok (.goto 11, 3) := by decide +kernel
theorem dX1_mileBehindLot_51 : decode cX1_mileBehindLot 51 = .ok (.aload_n 0, 1) := by decide +kernel
theorem dX1_mileBehindLot_52 : decode cX1_mileBehindLot 52 = .ok (.getfield 22, 3) := by decide +kernel
theorem dX1_mileBehindLot_55 : decode cX1_mileBehindLot 55 = .ok (.invokevirtual 75, 3) := by decide +kernel
theorem dX1_mileBehindLot_58 : decode cX1_mileBehindLot 58 = .ok (.pop, 1) := by decide +kernel
theorem dX1_mileBehindLot_59 : decode cX1_mileBehindLot 59 = .ok (.aload_n 0, 1) := by decide +kernel
theorem dX1_mileBehindLot_60 : decode cX1_mileBehindLot 60 = .ok (.getfield 22, 3) := by decide +kernel
theorem dX1_mileBehindLot_63 : decode cX1_mileBehindLot 63 = .ok (.invokevirtual 38, 3) := by decide +kernel
theorem dX1_mileBehindLot_66 : decode cX1_mileBehindLot 66 = .ok (.ireturn, 1) := by decide +kernel
theorem dX2_init_0 : decode cX2_init 0 = .ok (.aload_n 0, 1) := by decide +kernel
theorem dX2_init_1 : decode cX2_init 1 = .ok (.invokespecial 3, 3) := by decide +kernel
theorem dX2_init_4 : decode cX2_init 4 = .ok (.aload_n 0, 1) := by decide +kernel
theorem dX2_init_5 : decode cX2_init 5 = .ok (.iconst 5, 1) := by decide +kernel
theorem dX2_init_6 : decode cX2_init 6 = .ok (.newarray .int, 2) := by decide +kernel
theorem dX2_init_8 : decode cX2_init 8 = .ok (.putfield 9, 3) := by decide +kernel
theorem dX2_init_11 : decode cX2_init 11 = .ok (.aload_n 0, 1) := by decide +kernel
theorem dX2_init_12 : decode cX2_init 12 = .ok (.iconst (-1), 1) := by decide +kernel
theorem dX2_init_13 : decode cX2_init 13 = .ok (.putfield 15, 3) := by decide +kernel
theorem dX2_init_16 : decode cX2_init 16 = .ok (.aload_n 0, 1) := by decide +kernel
theorem dX2_init_17 : decode cX2_init 17 = .ok (.aload_n 1, 1) := by decide +kernel
theorem dX2_init_18 : decode cX2_init 18 = .ok (.putfield 19, 3) := by decide +kernel
theorem dX2_init_21 : decode cX2_init 21 = .ok (.aload_n 0, 1) := by decide +kernel
theorem dX2_init_22 : decode cX2_init 22 = .ok (.aload_n 2, 1) := by decide +kernel
theorem dX2_init_23 : decode cX2_init 23 = .ok (.putfield 23, 3) := by decide +kernel
theorem dX2_init_26 : decode cX2_init 26 = .ok (.return_, 1) := by decide +kernel
theorem dX2_mile_0 : decode cX2_mile 0 = .ok (.aload_n 0, 1) := by decide +kernel
theorem dX2_mile_1 : decode cX2_mile 1 = .ok (.getfield 27, 3) := by decide +kernel
theorem dX2_mile_4 : decode cX2_mile 4 = .ok (.ireturn, 1) := by decide +kernel
theorem dX2_dayNumber_0 : decode cX2_dayNumber 0 = .ok (.aload_n 0, 1) := by decide +kernel
theorem dX2_dayNumber_1 : decode cX2_dayNumber 1 = .ok (.getfield 30, 3) := by decide +kernel
theorem dX2_dayNumber_4 : decode cX2_dayNumber 4 = .ok (.ireturn, 1) := by decide +kernel
theorem dX2_end_0 : decode cX2_end 0 = .ok (.aload_n 0, 1) := by decide +kernel
theorem dX2_end_1 : decode cX2_end 1 = .ok (.getfield 19, 3) := by decide +kernel
theorem dX2_end_4 : decode cX2_end 4 = .ok (.invokevirtual 33, 3) := by decide +kernel
theorem dX2_end_7 : decode cX2_end 7 = .ok (.ireturn, 1) := by decide +kernel
theorem dX2_menCount_0 : decode cX2_menCount 0 = .ok (.aload_n 0, 1) := by decide +kernel
theorem dX2_menCount_1 : decode cX2_menCount 1 = .ok (.getfield 23, 3) := by decide +kernel
theorem dX2_menCount_4 : decode cX2_menCount 4 = .ok (.invokevirtual 39, 3) := by decide +kernel
theorem dX2_menCount_7 : decode cX2_menCount 7 = .ok (.ireturn, 1) := by decide +kernel
theorem dX2_isThere_0 : decode cX2_isThere 0 = .ok (.aload_n 0, 1) := by decide +kernel
theorem dX2_isThere_1 : decode cX2_isThere 1 = .ok (.getfield 27, 3) := by decide +kernel
theorem dX2_isThere_4 : decode cX2_isThere 4 = .ok (.aload_n 0, 1) := by decide +kernel
theorem dX2_isThere_5 : decode cX2_isThere 5 = .ok (.getfield 19, 3) := by decide +kernel
theorem dX2_isThere_8 : decode cX2_isThere 8 = .ok (.invokevirtual 33, 3) := by decide +kernel
theorem dX2_isThere_11 : decode cX2_isThere 11 = .ok (.if_icmp .lt 7, 3) := by decide +kernel
theorem dX2_isThere_14 : decode cX2_isThere 14 = .ok (.iconst 1, 1) := by decide +kernel
theorem dX2_isThere_15 : decode cX2_isThere 15 = .ok (.goto 4, 3) := by decide +kernel
theorem dX2_isThere_18 : decode cX2_isThere 18 = .ok (.iconst 0, 1) := by decide +kernel
theorem dX2_isThere_19 : decode cX2_isThere 19 = .ok (.ireturn, 1) := by decide +kernel
theorem dX2_begin_0 : decode cX2_begin 0 = .ok (.aload_n 0, 1) := by decide +kernel
theorem dX2_begin_1 : decode cX2_begin 1 = .ok (.iconst 0, 1) := by decide +kernel
theorem dX2_begin_2 : decode cX2_begin 2 = .ok (.putfield 27, 3) := by decide +kernel
theorem dX2_begin_5 : decode cX2_begin 5 = .ok (.aload_n 0, 1) := by decide +kernel
theorem dX2_begin_6 : decode cX2_begin 6 = .ok (.iconst 0, 1) := by decide +kernel
theorem dX2_begin_7 : decode cX2_begin 7 = .ok (.putfield 30, 3) := by decide +kernel
theorem dX2_begin_10 : decode cX2_begin 10 = .ok (.iconst 0, 1) := by decide +kernel
theorem dX2_begin_11 : decode cX2_begin 11 = .ok (.istore_n 1, 1) := by decide +kernel
theorem dX2_begin_12 : decode cX2_begin 12 = .ok (.iload_n 1, 1) := by decide +kernel
theorem dX2_begin_13 : decode cX2_begin 13 = .ok (.aload_n 0, 1) := by decide +kernel
theorem dX2_begin_14 : decode cX2_begin 14 = .ok (.getfield 9, 3) := by decide +kernel
theorem dX2_begin_17 : decode cX2_begin 17 = .ok (.arraylength, 1) := by decide +kernel
theorem dX2_begin_18 : decode cX2_begin 18 = .ok (.if_icmp .ge 23, 3) := by decide +kernel
theorem dX2_begin_21 : decode cX2_begin 21 = .ok (.aload_n 0, 1) := by decide +kernel
theorem dX2_begin_22 : decode cX2_begin 22 = .ok (.getfield 9, 3) := by decide +kernel
theorem dX2_begin_25 : decode cX2_begin 25 = .ok (.iload_n 1, 1) := by decide +kernel
theorem dX2_begin_26 : decode cX2_begin 26 = .ok (.aload_n 0, 1) := by decide +kernel
theorem dX2_begin_27 : decode cX2_begin 27 = .ok (.getfield 23, 3) := by decide +kernel
theorem dX2_begin_30 : decode cX2_begin 30 = .ok (.iload_n 1, 1) := by decide +kernel
theorem dX2_begin_31 : decode cX2_begin 31 = .ok (.invokevirtual 44, 3) := by decide +kernel
theorem dX2_begin_34 : decode cX2_begin 34 = .ok (.iastore, 1) := by decide +kernel
theorem dX2_begin_35 : decode cX2_begin 35 = .ok (.iinc 1 1, 3) := by decide +kernel
theorem dX2_begin_38 : decode cX2_begin 38 = .ok (.goto (-26), 3) := by decide +kernel
theorem dX2_begin_41 : decode cX2_begin 41 = .ok (.return_, 1) := by decide +kernel
theorem dX2_follow_0 : decode cX2_follow 0 = .ok (.aload_n 0, 1) := by decide +kernel
theorem dX2_follow_1 : decode cX2_follow 1 = .ok (.aload_n 1, 1) := by decide +kernel
theorem dX2_follow_2 : decode cX2_follow 2 = .ok (.getfield 27, 3) := by decide +kernel
theorem dX2_follow_5 : decode cX2_follow 5 = .ok (.putfield 27, 3) := by decide +kernel
theorem dX2_follow_8 : decode cX2_follow 8 = .ok (.aload_n 0, 1) := by decide +kernel
theorem dX2_follow_9 : decode cX2_follow 9 = .ok (.aload_n 1, 1) := by decide +kernel
theorem dX2_follow_10 : decode cX2_follow 10 = .ok (.getfield 30, 3) := by decide +kernel
theorem dX2_follow_13 : decode cX2_follow 13 = .ok (.putfield 30, 3) := by decide +kernel
theorem dX2_follow_16 : decode cX2_follow 16 = .ok (.aload_n 0, 1) := by decide +kernel
theorem dX2_follow_17 : decode cX2_follow 17 = .ok (.iconst (-1), 1) := by decide +kernel
theorem dX2_follow_18 : decode cX2_follow 18 = .ok (.putfield 15, 3) := by decide +kernel
theorem dX2_follow_21 : decode cX2_follow 21 = .ok (.iconst 0, 1) := by decide +kernel
theorem dX2_follow_22 : decode cX2_follow 22 = .ok (.istore_n 2, 1) := by decide +kernel
theorem dX2_follow_23 : decode cX2_follow 23 = .ok (.iload_n 2, 1) := by decide +kernel
theorem dX2_follow_24 : decode cX2_follow 24 = .ok (.aload_n 0, 1) := by decide +kernel
theorem dX2_follow_25 : decode cX2_follow 25 = .ok (.getfield 9, 3) := by decide +kernel
theorem dX2_follow_28 : decode cX2_follow 28 = .ok (.arraylength, 1) := by decide +kernel
theorem dX2_follow_29 : decode cX2_follow 29 = .ok (.if_icmp .ge 30, 3) := by decide +kernel
theorem dX2_follow_32 : decode cX2_follow 32 = .ok (.iload_n 2, 1) := by decide +kernel
theorem dX2_follow_33 : decode cX2_follow 33 = .ok (.aload_n 1, 1) := by decide +kernel
theorem dX2_follow_34 : decode cX2_follow 34 = .ok (.getfield 9, 3) := by decide +kernel
theorem dX2_follow_37 : decode cX2_follow 37 = .ok (.arraylength, 1) := by decide +kernel
theorem dX2_follow_38 : decode cX2_follow 38 = .ok (.if_icmp .ge 21, 3) := by decide +kernel
theorem dX2_follow_41 : decode cX2_follow 41 = .ok (.aload_n 0, 1) := by decide +kernel
theorem dX2_follow_42 : decode cX2_follow 42 = .ok (.getfield 9, 3) := by decide +kernel
theorem dX2_follow_45 : decode cX2_follow 45 = .ok (.iload_n 2, 1) := by decide +kernel
theorem dX2_follow_46 : decode cX2_follow 46 = .ok (.aload_n 1, 1) := by decide +kernel
theorem dX2_follow_47 : decode cX2_follow 47 = .ok (.getfield 9, 3) := by decide +kernel
theorem dX2_follow_50 : decode cX2_follow 50 = .ok (.iload_n 2, 1) := by decide +kernel
theorem dX2_follow_51 : decode cX2_follow 51 = .ok (.iaload, 1) := by decide +kernel
theorem dX2_follow_52 : decode cX2_follow 52 = .ok (.iastore, 1) := by decide +kernel
theorem dX2_follow_53 : decode cX2_follow 53 = .ok (.iinc 2 1, 3) := by decide +kernel
theorem dX2_follow_56 : decode cX2_follow 56 = .ok (.goto (-33), 3) := by decide +kernel
theorem dX2_follow_59 : decode cX2_follow 59 = .ok (.return_, 1) := by decide +kernel
theorem dX2_followWith_0 : decode cX2_followWith 0 = .ok (.aload_n 0, 1) := by decide +kernel
theorem dX2_followWith_1 : decode cX2_followWith 1 = .ok (.aload_n 1, 1) := by decide +kernel
theorem dX2_followWith_2 : decode cX2_followWith 2 = .ok (.invokevirtual 48, 3) := by decide +kernel
theorem dX2_followWith_5 : decode cX2_followWith 5 = .ok (.aload_n 0, 1) := by decide +kernel
theorem dX2_followWith_6 : decode cX2_followWith 6 = .ok (.iload_n 2, 1) := by decide +kernel
theorem dX2_followWith_7 : decode cX2_followWith 7 = .ok (.putfield 15, 3) := by decide +kernel
theorem dX2_followWith_10 : decode cX2_followWith 10 = .ok (.return_, 1) := by decide +kernel
theorem dX2_packed_0 : decode cX2_packed 0 = .ok (.aload_n 0, 1) := by decide +kernel
theorem dX2_packed_1 : decode cX2_packed 1 = .ok (.getfield 30, 3) := by decide +kernel
theorem dX2_packed_4 : decode cX2_packed 4 = .ok (.i2l, 1) := by decide +kernel
theorem dX2_packed_5 : decode cX2_packed 5 = .ok (.lstore_n 1, 1) := by decide +kernel
theorem dX2_packed_6 : decode cX2_packed 6 = .ok (.lload_n 1, 1) := by decide +kernel
theorem dX2_packed_7 : decode cX2_packed 7 = .ok (.bipush 8, 2) := by decide +kernel
theorem dX2_packed_9 : decode cX2_packed 9 = .ok (.lshl, 1) := by decide +kernel
theorem dX2_packed_10 : decode cX2_packed 10 = .ok (.aload_n 0, 1) := by decide +kernel
theorem dX2_packed_11 : decode cX2_packed 11 = .ok (.getfield 27, 3) := by decide +kernel
theorem dX2_packed_14 : decode cX2_packed 14 = .ok (.i2l, 1) := by decide +kernel
theorem dX2_packed_15 : decode cX2_packed 15 = .ok (.lor, 1) := by decide +kernel
theorem dX2_packed_16 : decode cX2_packed 16 = .ok (.lstore_n 1, 1) := by decide +kernel
theorem dX2_packed_17 : decode cX2_packed 17 = .ok (.iconst 0, 1) := by decide +kernel
theorem dX2_packed_18 : decode cX2_packed 18 = .ok (.istore_n 3, 1) := by decide +kernel
theorem dX2_packed_19 : decode cX2_packed 19 = .ok (.iload_n 3, 1) := by decide +kernel
theorem dX2_packed_20 : decode cX2_packed 20 = .ok (.aload_n 0, 1) := by decide +kernel
theorem dX2_packed_21 : decode cX2_packed 21 = .ok (.getfield 9, 3) := by decide +kernel
theorem dX2_packed_24 : decode cX2_packed 24 = .ok (.arraylength, 1) := by decide +kernel
theorem dX2_packed_25 : decode cX2_packed 25 = .ok (.if_icmp .ge 21, 3) := by decide +kernel
theorem dX2_packed_28 : decode cX2_packed 28 = .ok (.lload_n 1, 1) := by decide +kernel
theorem dX2_packed_29 : decode cX2_packed 29 = .ok (.iconst 4, 1) := by decide +kernel
theorem dX2_packed_30 : decode cX2_packed 30 = .ok (.lshl, 1) := by decide +kernel
theorem dX2_packed_31 : decode cX2_packed 31 = .ok (.aload_n 0, 1) := by decide +kernel
theorem dX2_packed_32 : decode cX2_packed 32 = .ok (.getfield 9, 3) := by decide +kernel
theorem dX2_packed_35 : decode cX2_packed 35 = .ok (.iload_n 3, 1) := by decide +kernel
theorem dX2_packed_36 : decode cX2_packed 36 = .ok (.iaload, 1) := by decide +kernel
theorem dX2_packed_37 : decode cX2_packed 37 = .ok (.i2l, 1) := by decide +kernel
theorem dX2_packed_38 : decode cX2_packed 38 = .ok (.lor, 1) := by decide +kernel
theorem dX2_packed_39 : decode cX2_packed 39 = .ok (.lstore_n 1, 1) := by decide +kernel
theorem dX2_packed_40 : decode cX2_packed 40 = .ok (.iinc 3 1, 3) := by decide +kernel
theorem dX2_packed_43 : decode cX2_packed 43 = .ok (.goto (-24), 3) := by decide +kernel
theorem dX2_packed_46 : decode cX2_packed 46 = .ok (.lload_n 1, 1) := by decide +kernel
theorem dX2_packed_47 : decode cX2_packed 47 = .ok (.lreturn, 1) := by decide +kernel
theorem dX2_unpack_0 : decode cX2_unpack 0 = .ok (.lload_n 1, 1) := by decide +kernel
theorem dX2_unpack_1 : decode cX2_unpack 1 = .ok (.lstore_n 3, 1) := by decide +kernel
theorem dX2_unpack_2 : decode cX2_unpack 2 = .ok (.aload_n 0, 1) := by decide +kernel
theorem dX2_unpack_3 : decode cX2_unpack 3 = .ok (.getfield 9, 3) := by decide +kernel
theorem dX2_unpack_6 : decode cX2_unpack 6 = .ok (.arraylength, 1) := by decide +kernel
theorem dX2_unpack_7 : decode cX2_unpack 7 = .ok (.iconst 1, 1) := by decide +kernel
theorem dX2_unpack_8 : decode cX2_unpack 8 = .ok (.isub, 1) := by decide +kernel
theorem dX2_unpack_9 : decode cX2_unpack 9 = .ok (.istore 5, 2) := by decide +kernel
theorem dX2_unpack_11 : decode cX2_unpack 11 = .ok (.iload 5, 2) := by decide +kernel
theorem dX2_unpack_13 : decode cX2_unpack 13 = .ok (.ifCond .lt 26, 3) := by decide +kernel
theorem dX2_unpack_16 : decode cX2_unpack 16 = .ok (.aload_n 0, 1) := by decide +kernel
theorem dX2_unpack_17 : decode cX2_unpack 17 = .ok (.getfield 9, 3) := by decide +kernel
theorem dX2_unpack_20 : decode cX2_unpack 20 = .ok (.iload 5, 2) := by decide +kernel
theorem dX2_unpack_22 : decode cX2_unpack 22 = .ok (.lload_n 3, 1) := by decide +kernel
theorem dX2_unpack_23 : decode cX2_unpack 23 = .ok (.ldc2_w 52, 3) := by decide +kernel
theorem dX2_unpack_26 : decode cX2_unpack 26 = .ok (.land, 1) := by decide +kernel
theorem dX2_unpack_27 : decode cX2_unpack 27 = .ok (.l2i, 1) := by decide +kernel
theorem dX2_unpack_28 : decode cX2_unpack 28 = .ok (.iastore, 1) := by decide +kernel
theorem dX2_unpack_29 : decode cX2_unpack 29 = .ok (.lload_n 3, 1) := by decide +kernel
theorem dX2_unpack_30 : decode cX2_unpack 30 = .ok (.iconst 4, 1) := by decide +kernel
theorem dX2_unpack_31 : decode cX2_unpack 31 = .ok (.lushr, 1) := by decide +kernel
theorem dX2_unpack_32 : decode cX2_unpack 32 = .ok (.lstore_n 3, 1) := by decide +kernel
theorem dX2_unpack_33 : decode cX2_unpack 33 = .ok (.iinc 5 (-1), 3) := by decide +kernel
theorem dX2_unpack_36 : decode cX2_unpack 36 = .ok (.goto (-25), 3) := by decide +kernel
theorem dX2_unpack_39 : decode cX2_unpack 39 = .ok (.aload_n 0, 1) := by decide +kernel
theorem dX2_unpack_40 : decode cX2_unpack 40 = .ok (.lload_n 3, 1) := by decide +kernel
theorem dX2_unpack_41 : decode cX2_unpack 41 = .ok (.ldc2_w 54, 3) := by decide +kernel
theorem dX2_unpack_44 : decode cX2_unpack 44 = .ok (.land, 1) := by decide +kernel
theorem dX2_unpack_45 : decode cX2_unpack 45 = .ok (.l2i, 1) := by decide +kernel
theorem dX2_unpack_46 : decode cX2_unpack 46 = .ok (.putfield 27, 3) := by decide +kernel
theorem dX2_unpack_49 : decode cX2_unpack 49 = .ok (.aload_n 0, 1) := by decide +kernel
theorem dX2_unpack_50 : decode cX2_unpack 50 = .ok (.lload_n 3, 1) := by decide +kernel
theorem dX2_unpack_51 : decode cX2_unpack 51 = .ok (.bipush 8, 2) := by decide +kernel
theorem dX2_unpack_53 : decode cX2_unpack 53 = .ok (.lushr, 1) := by decide +kernel
theorem dX2_unpack_54 : decode cX2_unpack 54 = .ok (.l2i, 1) := by decide +kernel
theorem dX2_unpack_55 : decode cX2_unpack 55 = .ok (.putfield 30, 3) := by decide +kernel
theorem dX2_unpack_58 : decode cX2_unpack 58 = .ok (.return_, 1) := by decide +kernel
theorem dX2_thornsOf_0 : decode cX2_thornsOf 0 = .ok (.iload_n 1, 1) := by decide +kernel
theorem dX2_thornsOf_1 : decode cX2_thornsOf 1 = .ok (.ifCond .lt 21, 3) := by decide +kernel
theorem dX2_thornsOf_4 : decode cX2_thornsOf 4 = .ok (.iload_n 1, 1) := by decide +kernel
theorem dX2_thornsOf_5 : decode cX2_thornsOf 5 = .ok (.aload_n 0, 1) := by decide +kernel
theorem dX2_thornsOf_6 : decode cX2_thornsOf 6 = .ok (.getfield 9, 3) := by decide +kernel
theorem dX2_thornsOf_9 : decode cX2_thornsOf 9 = .ok (.arraylength, 1) := by decide +kernel
theorem dX2_thornsOf_10 : decode cX2_thornsOf 10 = .ok (.if_icmp .ge 12, 3) := by decide +kernel
theorem dX2_thornsOf_13 : decode cX2_thornsOf 13 = .ok (.aload_n 0, 1) := by decide +kernel
theorem dX2_thornsOf_14 : decode cX2_thornsOf 14 = .ok (.getfield 9, 3) := by decide +kernel
theorem dX2_thornsOf_17 : decode cX2_thornsOf 17 = .ok (.iload_n 1, 1) := by decide +kernel
theorem dX2_thornsOf_18 : decode cX2_thornsOf 18 = .ok (.iaload, 1) := by decide +kernel
theorem dX2_thornsOf_19 : decode cX2_thornsOf 19 = .ok (.goto 4, 3) := by decide +kernel
theorem dX2_thornsOf_22 : decode cX2_thornsOf 22 = .ok (.iconst 0, 1) := by decide +kernel
theorem dX2_thornsOf_23 : decode cX2_thornsOf 23 = .ok (.ireturn, 1) := by decide +kernel
theorem dX2_allThorns_0 : decode cX2_allThorns 0 = .ok (.iconst 0, 1) := by decide +kernel
theorem dX2_allThorns_1 : decode cX2_allThorns 1 = .ok (.istore_n 1, 1) := by decide +kernel
theorem dX2_allThorns_2 : decode cX2_allThorns 2 = .ok (.iconst 0, 1) := by decide +kernel
theorem dX2_allThorns_3 : decode cX2_allThorns 3 = .ok (.istore_n 2, 1) := by decide +kernel
theorem dX2_allThorns_4 : decode cX2_allThorns 4 = .ok (.iload_n 2, 1) := by decide +kernel
theorem dX2_allThorns_5 : decode cX2_allThorns 5 = .ok (.aload_n 0, 1) := by decide +kernel
theorem dX2_allThorns_6 : decode cX2_allThorns 6 = .ok (.getfield 9, 3) := by decide +kernel
theorem dX2_allThorns_9 : decode cX2_allThorns 9 = .ok (.arraylength, 1) := by decide +kernel
theorem dX2_allThorns_10 : decode cX2_allThorns 10 = .ok (.if_icmp .ge 18, 3) := by decide +kernel
theorem dX2_allThorns_13 : decode cX2_allThorns 13 = .ok (.iload_n 1, 1) := by decide +kernel
theorem dX2_allThorns_14 : decode cX2_allThorns 14 = .ok (.aload_n 0, 1) := by decide +kernel
theorem dX2_allThorns_15 : decode cX2_allThorns 15 = .ok (.getfield 9, 3) := by decide +kernel
theorem dX2_allThorns_18 : decode cX2_allThorns 18 = .ok (.iload_n 2, 1) := by decide +kernel
theorem dX2_allThorns_19 : decode cX2_allThorns 19 = .ok (.iaload, 1) := by decide +kernel
theorem dX2_allThorns_20 : decode cX2_allThorns 20 = .ok (.iadd, 1) := by decide +kernel
theorem dX2_allThorns_21 : decode cX2_allThorns 21 = .ok (.istore_n 1, 1) := by decide +kernel
theorem dX2_allThorns_22 : decode cX2_allThorns 22 = .ok (.iinc 2 1, 3) := by decide +kernel
theorem dX2_allThorns_25 : decode cX2_allThorns 25 = .ok (.goto (-21), 3) := by decide +kernel
theorem dX2_allThorns_28 : decode cX2_allThorns 28 = .ok (.iload_n 1, 1) := by decide +kernel
theorem dX2_allThorns_29 : decode cX2_allThorns 29 = .ok (.ireturn, 1) := by decide +kernel
theorem dX2_speedOf_0 : decode cX2_speedOf 0 = .ok (.aload_n 0, 1) := by decide +kernel
theorem dX2_speedOf_1 : decode cX2_speedOf 1 = .ok (.getfield 23, 3) := by decide +kernel
theorem dX2_speedOf_4 : decode cX2_speedOf 4 = .ok (.iload_n 1, 1) := by decide +kernel
theorem dX2_speedOf_5 : decode cX2_speedOf 5 = .ok (.invokevirtual 56, 3) := by decide +kernel
theorem dX2_speedOf_8 : decode cX2_speedOf 8 = .ok (.aload_n 0, 1) := by decide +kernel
theorem dX2_speedOf_9 : decode cX2_speedOf 9 = .ok (.getfield 23, 3) := by decide +kernel
theorem dX2_speedOf_12 : decode cX2_speedOf 12 = .ok (.iload_n 1, 1) := by decide +kernel
theorem dX2_speedOf_13 : decode cX2_speedOf 13 = .ok (.invokevirtual 59, 3) := by decide +kernel
theorem dX2_speedOf_16 : decode cX2_speedOf 16 = .ok (.aload_n 0, 1) := by decide +kernel
theorem dX2_speedOf_17 : decode cX2_speedOf 17 = .ok (.iload_n 1, 1) := by decide +kernel
theorem dX2_speedOf_18 : decode cX2_speedOf 18 = .ok (.invokevirtual 62, 3) := by decide +kernel
theorem dX2_speedOf_21 : decode cX2_speedOf 21 = .ok (.invokestatic 65, 3) := by decide +kernel
theorem dX2_speedOf_24 : decode cX2_speedOf 24 = .ok (.ireturn, 1) := by decide +kernel
theorem dX2_leader_0 : decode cX2_leader 0 = .ok (.bipush (-9), 2) := by decide +kernel
theorem dX2_leader_2 : decode cX2_leader 2 = .ok (.istore_n 1, 1) := by decide +kernel
theorem dX2_leader_3 : decode cX2_leader 3 = .ok (.iconst 0, 1) := by decide +kernel
theorem dX2_leader_4 : decode cX2_leader 4 = .ok (.istore_n 2, 1) := by decide +kernel
theorem dX2_leader_5 : decode cX2_leader 5 = .ok (.aload_n 0, 1) := by decide +kernel
theorem dX2_leader_6 : decode cX2_leader 6 = .ok (.getfield 23, 3) := by decide +kernel
theorem dX2_leader_9 : decode cX2_leader 9 = .ok (.invokevirtual 39, 3) := by decide +kernel
theorem dX2_leader_12 : decode cX2_leader 12 = .ok (.istore_n 3, 1) := by decide +kernel
theorem dX2_leader_13 : decode cX2_leader 13 = .ok (.iconst 0, 1) := by decide +kernel
theorem dX2_leader_14 : decode cX2_leader 14 = .ok (.istore 4, 2) := by decide +kernel
theorem dX2_leader_16 : decode cX2_leader 16 = .ok (.iload 4, 2) := by decide +kernel
theorem dX2_leader_18 : decode cX2_leader 18 = .ok (.iload_n 3, 1) := by decide +kernel
theorem dX2_leader_19 : decode cX2_leader 19 = .ok (.if_icmp .ge 80, 3) := by decide +kernel
theorem dX2_leader_22 : decode cX2_leader 22 = .ok (.iload 4, 2) := by decide +kernel
theorem dX2_leader_24 : decode cX2_leader 24 = .ok (.aload_n 0, 1) := by decide +kernel
theorem dX2_leader_25 : decode cX2_leader 25 = .ok (.getfield 9, 3) := by decide +kernel
theorem dX2_leader_28 : decode cX2_leader 28 = .ok (.arraylength, 1) := by decide +kernel
theorem dX2_leader_29 : decode cX2_leader 29 = .ok (.if_icmp .ge 70, 3) := by decide +kernel
theorem dX2_leader_32 : decode cX2_leader 32 = .ok (.aload_n 0, 1) := by decide +kernel
theorem dX2_leader_33 : decode cX2_leader 33 = .ok (.getfield 15, 3) := by decide +kernel
theorem dX2_leader_36 : decode cX2_leader 36 = .ok (.iload 4, 2) := by decide +kernel
theorem dX2_leader_38 : decode cX2_leader 38 = .ok (.ishr, 1) := by decide +kernel
theorem dX2_leader_39 : decode cX2_leader 39 = .ok (.iconst 1, 1) := by decide +kernel
theorem dX2_leader_40 : decode cX2_leader 40 = .ok (.iand, 1) := by decide +kernel
theorem dX2_leader_41 : decode cX2_leader 41 = .ok (.iconst 1, 1) := by decide +kernel
theorem dX2_leader_42 : decode cX2_leader 42 = .ok (.if_icmp .ne 51, 3) := by decide +kernel
theorem dX2_leader_45 : decode cX2_leader 45 = .ok (.aload_n 0, 1) := by decide +kernel
theorem dX2_leader_46 : decode cX2_leader 46 = .ok (.getfield 23, 3) := by decide +kernel
theorem dX2_leader_49 : decode cX2_leader 49 = .ok (.iload 4, 2) := by decide +kernel
theorem dX2_leader_51 : decode cX2_leader 51 = .ok (.invokevirtual 56, 3) := by decide +kernel
theorem dX2_leader_54 : decode cX2_leader 54 = .ok (.aload_n 0, 1) := by decide +kernel
theorem dX2_leader_55 : decode cX2_leader 55 = .ok (.getfield 23, 3) := by decide +kernel
theorem dX2_leader_58 : decode cX2_leader 58 = .ok (.iload 4, 2) := by decide +kernel
theorem dX2_leader_60 : decode cX2_leader 60 = .ok (.invokevirtual 59, 3) := by decide +kernel
theorem dX2_leader_63 : decode cX2_leader 63 = .ok (.aload_n 0, 1) := by decide +kernel
theorem dX2_leader_64 : decode cX2_leader 64 = .ok (.getfield 9, 3) := by decide +kernel
theorem dX2_leader_67 : decode cX2_leader 67 = .ok (.iload 4, 2) := by decide +kernel
theorem dX2_leader_69 : decode cX2_leader 69 = .ok (.iaload, 1) := by decide +kernel
theorem dX2_leader_70 : decode cX2_leader 70 = .ok (.invokestatic 65, 3) := by decide +kernel
theorem dX2_leader_73 : decode cX2_leader 73 = .ok (.istore 5, 2) := by decide +kernel
theorem dX2_leader_75 : decode cX2_leader 75 = .ok (.iload_n 1, 1) := by decide +kernel
theorem dX2_leader_76 : decode cX2_leader 76 = .ok (.bipush (-9), 2) := by decide +kernel
theorem dX2_leader_78 : decode cX2_leader 78 = .ok (.if_icmp .eq 9, 3) := by decide +kernel
theorem dX2_leader_81 : decode cX2_leader 81 = .ok (.iload 5, 2) := by decide +kernel
theorem dX2_leader_83 : decode cX2_leader 83 = .ok (.iload_n 2, 1) := by decide +kernel
theorem dX2_leader_84 : decode cX2_leader 84 = .ok (.if_icmp .ge 9, 3) := by decide +kernel
theorem dX2_leader_87 : decode cX2_leader 87 = .ok (.iload 4, 2) := by decide +kernel
theorem dX2_leader_89 : decode cX2_leader 89 = .ok (.istore_n 1, 1) := by decide +kernel
theorem dX2_leader_90 : decode cX2_leader 90 = .ok (.iload 5, 2) := by decide +kernel
theorem dX2_leader_92 : decode cX2_leader 92 = .ok (.istore_n 2, 1) := by decide +kernel
theorem dX2_leader_93 : decode cX2_leader 93 = .ok (.iinc 4 1, 3) := by decide +kernel
theorem dX2_leader_96 : decode cX2_leader 96 = .ok (.goto (-80), 3) := by decide +kernel
theorem dX2_leader_99 : decode cX2_leader 99 = .ok (.iload_n 1, 1) := by decide +kernel
theorem dX2_leader_100 : decode cX2_leader 100 = .ok (.ireturn, 1) := by decide +kernel
theorem dX2_leaderSpeed_0 : decode cX2_leaderSpeed 0 = .ok (.aload_n 0, 1) := by decide +kernel
theorem dX2_leaderSpeed_1 : decode cX2_leaderSpeed 1 = .ok (.invokevirtual 69, 3) := by decide +kernel
theorem dX2_leaderSpeed_4 : decode cX2_leaderSpeed 4 = .ok (.istore_n 1, 1) := by decide +kernel
theorem dX2_leaderSpeed_5 : decode cX2_leaderSpeed 5 = .ok (.iload_n 1, 1) := by decide +kernel
theorem dX2_leaderSpeed_6 : decode cX2_leaderSpeed 6 = .ok (.bipush (-9), 2) := by decide +kernel
theorem dX2_leaderSpeed_8 : decode cX2_leaderSpeed 8 = .ok (.if_icmp .ne 7, 3) := by decide +kernel
theorem dX2_leaderSpeed_11 : decode cX2_leaderSpeed 11 = .ok (.iconst 0, 1) := by decide +kernel
theorem dX2_leaderSpeed_12 : decode cX2_leaderSpeed 12 = .ok (.goto 8, 3) := by decide +kernel
theorem dX2_leaderSpeed_15 : decode cX2_leaderSpeed 15 = .ok (.aload_n 0, 1) := by decide +kernel
theorem dX2_leaderSpeed_16 : decode cX2_leaderSpeed 16 = .ok (.iload_n 1, 1) := by decide +kernel
theorem dX2_leaderSpeed_17 : decode cX2_leaderSpeed 17 = .ok (.invokevirtual 72, 3) := by decide +kernel
theorem dX2_leaderSpeed_20 : decode cX2_leaderSpeed 20 = .ok (.ireturn, 1) := by decide +kernel
theorem dX2_canPrick_0 : decode cX2_canPrick 0 = .ok (.aload_n 0, 1) := by decide +kernel
theorem dX2_canPrick_1 : decode cX2_canPrick 1 = .ok (.getfield 23, 3) := by decide +kernel
theorem dX2_canPrick_4 : decode cX2_canPrick 4 = .ok (.iload_n 1, 1) := by decide +kernel
theorem dX2_canPrick_5 : decode cX2_canPrick 5 = .ok (.invokevirtual 75, 3) := by decide +kernel
theorem dX2_canPrick_8 : decode cX2_canPrick 8 = .ok (.ifCond .eq 17, 3) := by decide +kernel
theorem dX2_canPrick_11 : decode cX2_canPrick 11 = .ok (.aload_n 0, 1) := by decide +kernel
theorem dX2_canPrick_12 : decode cX2_canPrick 12 = .ok (.iload_n 1, 1) := by decide +kernel
theorem dX2_canPrick_13 : decode cX2_canPrick 13 = .ok (.invokevirtual 62, 3) := by decide +kernel
theorem dX2_canPrick_16 : decode cX2_canPrick 16 = .ok (.bipush 9, 2) := by decide +kernel
theorem dX2_canPrick_18 : decode cX2_canPrick 18 = .ok (.if_icmp .ge 7, 3) := by decide +kernel
theorem dX2_canPrick_21 : decode cX2_canPrick 21 = .ok (.iconst 1, 1) := by decide +kernel
theorem dX2_canPrick_22 : decode cX2_canPrick 22 = .ok (.goto 4, 3) := by decide +kernel
theorem dX2_canPrick_25 : decode cX2_canPrick 25 = .ok (.iconst 0, 1) := by decide +kernel
theorem dX2_canPrick_26 : decode cX2_canPrick 26 = .ok (.ireturn, 1) := by decide +kernel
theorem dX2_prick_0 : decode cX2_prick 0 = .ok (.aload_n 0, 1) := by decide +kernel
end
section
theorem dX2_prick_1 : decode cX2_prick 1 = .ok (.getfield 23, 3) := by decide +kernel
theorem dX2_prick_4 : decode cX2_prick 4 = .ok (.iload_n 1, 1) := by decide +kernel
theorem dX2_prick_5 : decode cX2_prick 5 = .ok (.invokevirtual 75, 3) := by decide +kernel
theorem dX2_prick_8 : decode cX2_prick 8 = .ok (.ifCond .eq 37, 3) := by decide +kernel
theorem dX2_prick_11 : decode cX2_prick 11 = .ok (.iload_n 1, 1) := by decide +kernel
theorem dX2_prick_12 : decode cX2_prick 12 = .ok (.ifCond .lt 33, 3) := by decide +kernel
theorem dX2_prick_15 : decode cX2_prick 15 = .ok (.iload_n 1, 1) := by decide +kernel
theorem dX2_prick_16 : decode cX2_prick 16 = .ok (.aload_n 0, 1) := by decide +kernel
theorem dX2_prick_17 : decode cX2_prick 17 = .ok (.getfield 9, 3) := by decide +kernel
theorem dX2_prick_20 : decode cX2_prick 20 = .ok (.arraylength, 1) := by decide +kernel
theorem dX2_prick_21 : decode cX2_prick 21 = .ok (.if_icmp .ge 24, 3) := by decide +kernel
theorem dX2_prick_24 : decode cX2_prick 24 = .ok (.aload_n 0, 1) := by decide +kernel
theorem dX2_prick_25 : decode cX2_prick 25 = .ok (.getfield 9, 3) := by decide +kernel
theorem dX2_prick_28 : decode cX2_prick 28 = .ok (.iload_n 1, 1) := by decide +kernel
theorem dX2_prick_29 : decode cX2_prick 29 = .ok (.iaload, 1) := by decide +kernel
theorem dX2_prick_30 : decode cX2_prick 30 = .ok (.bipush 9, 2) := by decide +kernel
theorem dX2_prick_32 : decode cX2_prick 32 = .ok (.if_icmp .ge 13, 3) := by decide +kernel
theorem dX2_prick_35 : decode cX2_prick 35 = .ok (.aload_n 0, 1) := by decide +kernel
theorem dX2_prick_36 : decode cX2_prick 36 = .ok (.getfield 9, 3) := by decide +kernel
theorem dX2_prick_39 : decode cX2_prick 39 = .ok (.iload_n 1, 1) := by decide +kernel
theorem dX2_prick_40 : decode cX2_prick 40 = .ok (.dup2, 1) := by decide +kernel
theorem dX2_prick_41 : decode cX2_prick 41 = .ok (.iaload, 1) := by decide +kernel
theorem dX2_prick_42 : decode cX2_prick 42 = .ok (.iconst 1, 1) := by decide +kernel
theorem dX2_prick_43 : decode cX2_prick 43 = .ok (.iadd, 1) := by decide +kernel
theorem dX2_prick_44 : decode cX2_prick 44 = .ok (.iastore, 1) := by decide +kernel
theorem dX2_prick_45 : decode cX2_prick 45 = .ok (.return_, 1) := by decide +kernel
theorem dX2_canEase_0 : decode cX2_canEase 0 = .ok (.aload_n 0, 1) := by decide +kernel
theorem dX2_canEase_1 : decode cX2_canEase 1 = .ok (.getfield 23, 3) := by decide +kernel
theorem dX2_canEase_4 : decode cX2_canEase 4 = .ok (.iload_n 1, 1) := by decide +kernel
theorem dX2_canEase_5 : decode cX2_canEase 5 = .ok (.invokevirtual 75, 3) := by decide +kernel
theorem dX2_canEase_8 : decode cX2_canEase 8 = .ok (.ifCond .eq 15, 3) := by decide +kernel
theorem dX2_canEase_11 : decode cX2_canEase 11 = .ok (.aload_n 0, 1) := by decide +kernel
theorem dX2_canEase_12 : decode cX2_canEase 12 = .ok (.iload_n 1, 1) := by decide +kernel
theorem dX2_canEase_13 : decode cX2_canEase 13 = .ok (.invokevirtual 62, 3) := by decide +kernel
theorem dX2_canEase_16 : decode cX2_canEase 16 = .ok (.ifCond .le 7, 3) := by decide +kernel
theorem dX2_canEase_19 : decode cX2_canEase 19 = .ok (.iconst 1, 1) := by decide +kernel
theorem dX2_canEase_20 : decode cX2_canEase 20 = .ok (.goto 4, 3) := by decide +kernel
theorem dX2_canEase_23 : decode cX2_canEase 23 = .ok (.iconst 0, 1) := by decide +kernel
theorem dX2_canEase_24 : decode cX2_canEase 24 = .ok (.ireturn, 1) := by decide +kernel
theorem dX2_ease_0 : decode cX2_ease 0 = .ok (.aload_n 0, 1) := by decide +kernel
theorem dX2_ease_1 : decode cX2_ease 1 = .ok (.getfield 23, 3) := by decide +kernel
theorem dX2_ease_4 : decode cX2_ease 4 = .ok (.iload_n 1, 1) := by decide +kernel
theorem dX2_ease_5 : decode cX2_ease 5 = .ok (.invokevirtual 75, 3) := by decide +kernel
theorem dX2_ease_8 : decode cX2_ease 8 = .ok (.ifCond .eq 35, 3) := by decide +kernel
theorem dX2_ease_11 : decode cX2_ease 11 = .ok (.iload_n 1, 1) := by decide +kernel
theorem dX2_ease_12 : decode cX2_ease 12 = .ok (.ifCond .lt 31, 3) := by decide +kernel
theorem dX2_ease_15 : decode cX2_ease 15 = .ok (.iload_n 1, 1) := by decide +kernel
theorem dX2_ease_16 : decode cX2_ease 16 = .ok (.aload_n 0, 1) := by decide +kernel
theorem dX2_ease_17 : decode cX2_ease 17 = .ok (.getfield 9, 3) := by decide +kernel
theorem dX2_ease_20 : decode cX2_ease 20 = .ok (.arraylength, 1) := by decide +kernel
theorem dX2_ease_21 : decode cX2_ease 21 = .ok (.if_icmp .ge 22, 3) := by decide +kernel
theorem dX2_ease_24 : decode cX2_ease 24 = .ok (.aload_n 0, 1) := by decide +kernel
theorem dX2_ease_25 : decode cX2_ease 25 = .ok (.getfield 9, 3) := by decide +kernel
theorem dX2_ease_28 : decode cX2_ease 28 = .ok (.iload_n 1, 1) := by decide +kernel
theorem dX2_ease_29 : decode cX2_ease 29 = .ok (.iaload, 1) := by decide +kernel
theorem dX2_ease_30 : decode cX2_ease 30 = .ok (.ifCond .le 13, 3) := by decide +kernel
theorem dX2_ease_33 : decode cX2_ease 33 = .ok (.aload_n 0, 1) := by decide +kernel
theorem dX2_ease_34 : decode cX2_ease 34 = .ok (.getfield 9, 3) := by decide +kernel
theorem dX2_ease_37 : decode cX2_ease 37 = .ok (.iload_n 1, 1) := by decide +kernel
theorem dX2_ease_38 : decode cX2_ease 38 = .ok (.dup2, 1) := by decide +kernel
theorem dX2_ease_39 : decode cX2_ease 39 = .ok (.iaload, 1) := by decide +kernel
theorem dX2_ease_40 : decode cX2_ease 40 = .ok (.iconst 1, 1) := by decide +kernel
theorem dX2_ease_41 : decode cX2_ease 41 = .ok (.isub, 1) := by decide +kernel
theorem dX2_ease_42 : decode cX2_ease 42 = .ok (.iastore, 1) := by decide +kernel
theorem dX2_ease_43 : decode cX2_ease 43 = .ok (.return_, 1) := by decide +kernel
theorem dX2_easeTimes_0 : decode cX2_easeTimes 0 = .ok (.iconst 0, 1) := by decide +kernel
theorem dX2_easeTimes_1 : decode cX2_easeTimes 1 = .ok (.istore_n 3, 1) := by decide +kernel
theorem dX2_easeTimes_2 : decode cX2_easeTimes 2 = .ok (.iload_n 3, 1) := by decide +kernel
theorem dX2_easeTimes_3 : decode cX2_easeTimes 3 = .ok (.iload_n 2, 1) := by decide +kernel
theorem dX2_easeTimes_4 : decode cX2_easeTimes 4 = .ok (.if_icmp .ge 14, 3) := by decide +kernel
theorem dX2_easeTimes_7 : decode cX2_easeTimes 7 = .ok (.aload_n 0, 1) := by decide +kernel
theorem dX2_easeTimes_8 : decode cX2_easeTimes 8 = .ok (.iload_n 1, 1) := by decide +kernel
theorem dX2_easeTimes_9 : decode cX2_easeTimes 9 = .ok (.invokevirtual 79, 3) := by decide +kernel
theorem dX2_easeTimes_12 : decode cX2_easeTimes 12 = .ok (.iinc 3 1, 3) := by decide +kernel
theorem dX2_easeTimes_15 : decode cX2_easeTimes 15 = .ok (.goto (-13), 3) := by decide +kernel
theorem dX2_easeTimes_18 : decode cX2_easeTimes 18 = .ok (.return_, 1) := by decide +kernel
theorem dX2_goDay_0 : decode cX2_goDay 0 = .ok (.aload_n 0, 1) := by decide +kernel
theorem dX2_goDay_1 : decode cX2_goDay 1 = .ok (.invokevirtual 69, 3) := by decide +kernel
theorem dX2_goDay_4 : decode cX2_goDay 4 = .ok (.istore_n 1, 1) := by decide +kernel
theorem dX2_goDay_5 : decode cX2_goDay 5 = .ok (.iconst 0, 1) := by decide +kernel
theorem dX2_goDay_6 : decode cX2_goDay 6 = .ok (.istore_n 2, 1) := by decide +kernel
theorem dX2_goDay_7 : decode cX2_goDay 7 = .ok (.aload_n 0, 1) := by decide +kernel
theorem dX2_goDay_8 : decode cX2_goDay 8 = .ok (.invokevirtual 83, 3) := by decide +kernel
theorem dX2_goDay_11 : decode cX2_goDay 11 = .ok (.ifCond .ne 73, 3) := by decide +kernel
theorem dX2_goDay_14 : decode cX2_goDay 14 = .ok (.iload_n 1, 1) := by decide +kernel
theorem dX2_goDay_15 : decode cX2_goDay 15 = .ok (.bipush (-9), 2) := by decide +kernel
theorem dX2_goDay_17 : decode cX2_goDay 17 = .ok (.if_icmp .eq 67, 3) := by decide +kernel
theorem dX2_goDay_20 : decode cX2_goDay 20 = .ok (.aload_n 0, 1) := by decide +kernel
theorem dX2_goDay_21 : decode cX2_goDay 21 = .ok (.getfield 19, 3) := by decide +kernel
theorem dX2_goDay_24 : decode cX2_goDay 24 = .ok (.aload_n 0, 1) := by decide +kernel
theorem dX2_goDay_25 : decode cX2_goDay 25 = .ok (.getfield 19, 3) := by decide +kernel
theorem dX2_goDay_28 : decode cX2_goDay 28 = .ok (.aload_n 0, 1) := by decide +kernel
theorem dX2_goDay_29 : decode cX2_goDay 29 = .ok (.getfield 27, 3) := by decide +kernel
theorem dX2_goDay_32 : decode cX2_goDay 32 = .ok (.invokevirtual 87, 3) := by decide +kernel
theorem dX2_goDay_35 : decode cX2_goDay 35 = .ok (.invokevirtual 90, 3) := by decide +kernel
theorem dX2_goDay_38 : decode cX2_goDay 38 = .ok (.istore_n 3, 1) := by decide +kernel
theorem dX2_goDay_39 : decode cX2_goDay 39 = .ok (.iload_n 3, 1) := by decide +kernel
theorem dX2_goDay_40 : decode cX2_goDay 40 = .ok (.aload_n 0, 1) := by decide +kernel
theorem dX2_goDay_41 : decode cX2_goDay 41 = .ok (.iload_n 1, 1) := by decide +kernel
theorem dX2_goDay_42 : decode cX2_goDay 42 = .ok (.invokevirtual 72, 3) := by decide +kernel
theorem dX2_goDay_45 : decode cX2_goDay 45 = .ok (.invokestatic 93, 3) := by decide +kernel
theorem dX2_goDay_48 : decode cX2_goDay 48 = .ok (.aload_n 0, 1) := by decide +kernel
theorem dX2_goDay_49 : decode cX2_goDay 49 = .ok (.getfield 19, 3) := by decide +kernel
theorem dX2_goDay_52 : decode cX2_goDay 52 = .ok (.invokevirtual 33, 3) := by decide +kernel
theorem dX2_goDay_55 : decode cX2_goDay 55 = .ok (.aload_n 0, 1) := by decide +kernel
theorem dX2_goDay_56 : decode cX2_goDay 56 = .ok (.getfield 27, 3) := by decide +kernel
theorem dX2_goDay_59 : decode cX2_goDay 59 = .ok (.isub, 1) := by decide +kernel
theorem dX2_goDay_60 : decode cX2_goDay 60 = .ok (.invokestatic 97, 3) := by decide +kernel
theorem dX2_goDay_63 : decode cX2_goDay 63 = .ok (.istore_n 2, 1) := by decide +kernel
theorem dX2_goDay_64 : decode cX2_goDay 64 = .ok (.aload_n 0, 1) := by decide +kernel
theorem dX2_goDay_65 : decode cX2_goDay 65 = .ok (.dup, 1) := by decide +kernel
theorem dX2_goDay_66 : decode cX2_goDay 66 = .ok (.getfield 27, 3) := by decide +kernel
theorem dX2_goDay_69 : decode cX2_goDay 69 = .ok (.iload_n 2, 1) := by decide +kernel
theorem dX2_goDay_70 : decode cX2_goDay 70 = .ok (.iadd, 1) := by decide +kernel
theorem dX2_goDay_71 : decode cX2_goDay 71 = .ok (.putfield 27, 3) := by decide +kernel
theorem dX2_goDay_74 : decode cX2_goDay 74 = .ok (.iload_n 3, 1) := by decide +kernel
theorem dX2_goDay_75 : decode cX2_goDay 75 = .ok (.iconst 3, 1) := by decide +kernel
theorem dX2_goDay_76 : decode cX2_goDay 76 = .ok (.if_icmp .ne 8, 3) := by decide +kernel
theorem dX2_goDay_79 : decode cX2_goDay 79 = .ok (.aload_n 0, 1) := by decide +kernel
theorem dX2_goDay_80 : decode cX2_goDay 80 = .ok (.iload_n 1, 1) := by decide +kernel
theorem dX2_goDay_81 : decode cX2_goDay 81 = .ok (.invokevirtual 102, 3) := by decide +kernel
theorem dX2_goDay_84 : decode cX2_goDay 84 = .ok (.aload_n 0, 1) := by decide +kernel
theorem dX2_goDay_85 : decode cX2_goDay 85 = .ok (.getfield 30, 3) := by decide +kernel
theorem dX2_goDay_88 : decode cX2_goDay 88 = .ok (.iconst 3, 1) := by decide +kernel
theorem dX2_goDay_89 : decode cX2_goDay 89 = .ok (.irem, 1) := by decide +kernel
theorem dX2_goDay_90 : decode cX2_goDay 90 = .ok (.iconst 2, 1) := by decide +kernel
theorem dX2_goDay_91 : decode cX2_goDay 91 = .ok (.if_icmp .ne 7, 3) := by decide +kernel
theorem dX2_goDay_94 : decode cX2_goDay 94 = .ok (.aload_n 0, 1) := by decide +kernel
theorem dX2_goDay_95 : decode cX2_goDay 95 = .ok (.invokevirtual 105, 3) := by decide +kernel
theorem dX2_goDay_98 : decode cX2_goDay 98 = .ok (.aload_n 0, 1) := by decide +kernel
theorem dX2_goDay_99 : decode cX2_goDay 99 = .ok (.dup, 1) := by decide +kernel
theorem dX2_goDay_100 : decode cX2_goDay 100 = .ok (.getfield 30, 3) := by decide +kernel
theorem dX2_goDay_103 : decode cX2_goDay 103 = .ok (.iconst 1, 1) := by decide +kernel
theorem dX2_goDay_104 : decode cX2_goDay 104 = .ok (.iadd, 1) := by decide +kernel
theorem dX2_goDay_105 : decode cX2_goDay 105 = .ok (.putfield 30, 3) := by decide +kernel
theorem dX2_goDay_108 : decode cX2_goDay 108 = .ok (.iload_n 2, 1) := by decide +kernel
theorem dX2_goDay_109 : decode cX2_goDay 109 = .ok (.ireturn, 1) := by decide +kernel
theorem dX2_milesOver_0 : decode cX2_milesOver 0 = .ok (.iload_n 0, 1) := by decide +kernel
theorem dX2_milesOver_1 : decode cX2_milesOver 1 = .ok (.iconst 1, 1) := by decide +kernel
theorem dX2_milesOver_2 : decode cX2_milesOver 2 = .ok (.if_icmp .ne 11, 3) := by decide +kernel
theorem dX2_milesOver_5 : decode cX2_milesOver 5 = .ok (.iconst 1, 1) := by decide +kernel
theorem dX2_milesOver_6 : decode cX2_milesOver 6 = .ok (.iload_n 1, 1) := by decide +kernel
theorem dX2_milesOver_7 : decode cX2_milesOver 7 = .ok (.iconst 2, 1) := by decide +kernel
theorem dX2_milesOver_8 : decode cX2_milesOver 8 = .ok (.idiv, 1) := by decide +kernel
theorem dX2_milesOver_9 : decode cX2_milesOver 9 = .ok (.invokestatic 108, 3) := by decide +kernel
theorem dX2_milesOver_12 : decode cX2_milesOver 12 = .ok (.ireturn, 1) := by decide +kernel
theorem dX2_milesOver_13 : decode cX2_milesOver 13 = .ok (.iload_n 0, 1) := by decide +kernel
theorem dX2_milesOver_14 : decode cX2_milesOver 14 = .ok (.iconst 2, 1) := by decide +kernel
theorem dX2_milesOver_15 : decode cX2_milesOver 15 = .ok (.if_icmp .ne 7, 3) := by decide +kernel
theorem dX2_milesOver_18 : decode cX2_milesOver 18 = .ok (.iconst 1, 1) := by decide +kernel
theorem dX2_milesOver_19 : decode cX2_milesOver 19 = .ok (.goto 4, 3) := by decide +kernel
theorem dX2_milesOver_22 : decode cX2_milesOver 22 = .ok (.iload_n 1, 1) := by decide +kernel
theorem dX2_milesOver_23 : decode cX2_milesOver 23 = .ok (.ireturn, 1) := by decide +kernel
theorem dX2_goDays_0 : decode cX2_goDays 0 = .ok (.iconst 0, 1) := by decide +kernel
theorem dX2_goDays_1 : decode cX2_goDays 1 = .ok (.istore_n 2, 1) := by decide +kernel
theorem dX2_goDays_2 : decode cX2_goDays 2 = .ok (.iload_n 2, 1) := by decide +kernel
theorem dX2_goDays_3 : decode cX2_goDays 3 = .ok (.iload_n 1, 1) := by decide +kernel
theorem dX2_goDays_4 : decode cX2_goDays 4 = .ok (.if_icmp .ge 14, 3) := by decide +kernel
theorem dX2_goDays_7 : decode cX2_goDays 7 = .ok (.aload_n 0, 1) := by decide +kernel
theorem dX2_goDays_8 : decode cX2_goDays 8 = .ok (.invokevirtual 111, 3) := by decide +kernel
theorem dX2_goDays_11 : decode cX2_goDays 11 = .ok (.pop, 1) := by decide +kernel
theorem dX2_goDays_12 : decode cX2_goDays 12 = .ok (.iinc 2 1, 3) := by decide +kernel
theorem dX2_goDays_15 : decode cX2_goDays 15 = .ok (.goto (-13), 3) := by decide +kernel
theorem dX2_goDays_18 : decode cX2_goDays 18 = .ok (.return_, 1) := by decide +kernel
theorem dX2_goToEnd_0 : decode cX2_goToEnd 0 = .ok (.iconst 0, 1) := by decide +kernel
theorem dX2_goToEnd_1 : decode cX2_goToEnd 1 = .ok (.istore_n 2, 1) := by decide +kernel
theorem dX2_goToEnd_2 : decode cX2_goToEnd 2 = .ok (.iload_n 2, 1) := by decide +kernel
theorem dX2_goToEnd_3 : decode cX2_goToEnd 3 = .ok (.iload_n 1, 1) := by decide +kernel
theorem dX2_goToEnd_4 : decode cX2_goToEnd 4 = .ok (.if_icmp .ge 23, 3) := by decide +kernel
theorem dX2_goToEnd_7 : decode cX2_goToEnd 7 = .ok (.aload_n 0, 1) := by decide +kernel
theorem dX2_goToEnd_8 : decode cX2_goToEnd 8 = .ok (.invokevirtual 83, 3) := by decide +kernel
theorem dX2_goToEnd_11 : decode cX2_goToEnd 11 = .ok (.ifCond .eq 5, 3) := by decide +kernel
theorem dX2_goToEnd_14 : decode cX2_goToEnd 14 = .ok (.iload_n 2, 1) := by decide +kernel
theorem dX2_goToEnd_15 : decode cX2_goToEnd 15 = .ok (.ireturn, 1) := by decide +kernel
theorem dX2_goToEnd_16 : decode cX2_goToEnd 16 = .ok (.aload_n 0, 1) := by decide +kernel
theorem dX2_goToEnd_17 : decode cX2_goToEnd 17 = .ok (.invokevirtual 111, 3) := by decide +kernel
theorem dX2_goToEnd_20 : decode cX2_goToEnd 20 = .ok (.pop, 1) := by decide +kernel
theorem dX2_goToEnd_21 : decode cX2_goToEnd 21 = .ok (.iinc 2 1, 3) := by decide +kernel
theorem dX2_goToEnd_24 : decode cX2_goToEnd 24 = .ok (.goto (-22), 3) := by decide +kernel
theorem dX2_goToEnd_27 : decode cX2_goToEnd 27 = .ok (.aload_n 0, 1) := by decide +kernel
theorem dX2_goToEnd_28 : decode cX2_goToEnd 28 = .ok (.invokevirtual 83, 3) := by decide +kernel
theorem dX2_goToEnd_31 : decode cX2_goToEnd 31 = .ok (.ifCond .eq 7, 3) := by decide +kernel
theorem dX2_goToEnd_34 : decode cX2_goToEnd 34 = .ok (.iload_n 1, 1) := by decide +kernel
theorem dX2_goToEnd_35 : decode cX2_goToEnd 35 = .ok (.goto 5, 3) := by decide +kernel
theorem dX2_goToEnd_38 : decode cX2_goToEnd 38 = .ok (.bipush (-9), 2) := by decide +kernel
theorem dX2_goToEnd_40 : decode cX2_goToEnd 40 = .ok (.ireturn, 1) := by decide +kernel
theorem dX2_stay_0 : decode cX2_stay 0 = .ok (.aload_n 0, 1) := by decide +kernel
theorem dX2_stay_1 : decode cX2_stay 1 = .ok (.invokevirtual 105, 3) := by decide +kernel
theorem dX2_stay_4 : decode cX2_stay 4 = .ok (.aload_n 0, 1) := by decide +kernel
theorem dX2_stay_5 : decode cX2_stay 5 = .ok (.dup, 1) := by decide +kernel
theorem dX2_stay_6 : decode cX2_stay 6 = .ok (.getfield 30, 3) := by decide +kernel
theorem dX2_stay_9 : decode cX2_stay 9 = .ok (.iconst 1, 1) := by decide +kernel
theorem dX2_stay_10 : decode cX2_stay 10 = .ok (.iadd, 1) := by decide +kernel
theorem dX2_stay_11 : decode cX2_stay 11 = .ok (.putfield 30, 3) := by decide +kernel
theorem dX2_stay_14 : decode cX2_stay 14 = .ok (.return_, 1) := by decide +kernel
theorem dX2_healAll_0 : decode cX2_healAll 0 = .ok (.iconst 0, 1) := by decide +kernel
theorem dX2_healAll_1 : decode cX2_healAll 1 = .ok (.istore_n 1, 1) := by decide +kernel
theorem dX2_healAll_2 : decode cX2_healAll 2 = .ok (.iload_n 1, 1) := by decide +kernel
theorem dX2_healAll_3 : decode cX2_healAll 3 = .ok (.aload_n 0, 1) := by decide +kernel
theorem dX2_healAll_4 : decode cX2_healAll 4 = .ok (.getfield 9, 3) := by decide +kernel
theorem dX2_healAll_7 : decode cX2_healAll 7 = .ok (.arraylength, 1) := by decide +kernel
theorem dX2_healAll_8 : decode cX2_healAll 8 = .ok (.if_icmp .ge 40, 3) := by decide +kernel
theorem dX2_healAll_11 : decode cX2_healAll 11 = .ok (.aload_n 0, 1) := by decide +kernel
theorem dX2_healAll_12 : decode cX2_healAll 12 = .ok (.getfield 9, 3) := by decide +kernel
theorem dX2_healAll_15 : decode cX2_healAll 15 = .ok (.iload_n 1, 1) := by decide +kernel
theorem dX2_healAll_16 : decode cX2_healAll 16 = .ok (.iaload, 1) := by decide +kernel
theorem dX2_healAll_17 : decode cX2_healAll 17 = .ok (.ifCond .le 25, 3) := by decide +kernel
theorem dX2_healAll_20 : decode cX2_healAll 20 = .ok (.aload_n 0, 1) := by decide +kernel
theorem dX2_healAll_21 : decode cX2_healAll 21 = .ok (.getfield 23, 3) := by decide +kernel
theorem dX2_healAll_24 : decode cX2_healAll 24 = .ok (.iload_n 1, 1) := by decide +kernel
theorem dX2_healAll_25 : decode cX2_healAll 25 = .ok (.invokevirtual 59, 3) := by decide +kernel
theorem dX2_healAll_28 : decode cX2_healAll 28 = .ok (.iconst 3, 1) := by decide +kernel
theorem dX2_healAll_29 : decode cX2_healAll 29 = .ok (.if_icmp .eq 13, 3) := by decide +kernel
theorem dX2_healAll_32 : decode cX2_healAll 32 = .ok (.aload_n 0, 1) := by decide +kernel
theorem dX2_healAll_33 : decode cX2_healAll 33 = .ok (.getfield 9, 3) := by decide +kernel
theorem dX2_healAll_36 : decode cX2_healAll 36 = .ok (.iload_n 1, 1) := by decide +kernel
theorem dX2_healAll_37 : decode cX2_healAll 37 = .ok (.dup2, 1) := by decide +kernel
theorem dX2_healAll_38 : decode cX2_healAll 38 = .ok (.iaload, 1) := by decide +kernel
theorem dX2_healAll_39 : decode cX2_healAll 39 = .ok (.iconst 1, 1) := by decide +kernel
theorem dX2_healAll_40 : decode cX2_healAll 40 = .ok (.isub, 1) := by decide +kernel
theorem dX2_healAll_41 : decode cX2_healAll 41 = .ok (.iastore, 1) := by decide +kernel
theorem dX2_healAll_42 : decode cX2_healAll 42 = .ok (.iinc 1 1, 3) := by decide +kernel
theorem dX2_healAll_45 : decode cX2_healAll 45 = .ok (.goto (-43), 3) := by decide +kernel
theorem dX2_healAll_48 : decode cX2_healAll 48 = .ok (.return_, 1) := by decide +kernel
theorem dX3_init_0 : decode cX3_init 0 = .ok (.aload_n 0, 1) := by decide +kernel
theorem dX3_init_1 : decode cX3_init 1 = .ok (.invokespecial 3, 3) := by decide +kernel
theorem dX3_init_4 : decode cX3_init 4 = .ok (.aload_n 0, 1) := by decide +kernel
theorem dX3_init_5 : decode cX3_init 5 = .ok (.iconst 4, 1) := by decide +kernel
theorem dX3_init_6 : decode cX3_init 6 = .ok (.newarray .int, 2) := by decide +kernel
theorem dX3_init_8 : decode cX3_init 8 = .ok (.putfield 9, 3) := by decide +kernel
theorem dX3_init_11 : decode cX3_init 11 = .ok (.aload_n 0, 1) := by decide +kernel
theorem dX3_init_12 : decode cX3_init 12 = .ok (.aload_n 1, 1) := by decide +kernel
theorem dX3_init_13 : decode cX3_init 13 = .ok (.putfield 15, 3) := by decide +kernel
theorem dX3_init_16 : decode cX3_init 16 = .ok (.aload_n 0, 1) := by decide +kernel
theorem dX3_init_17 : decode cX3_init 17 = .ok (.aload_n 2, 1) := by decide +kernel
theorem dX3_init_18 : decode cX3_init 18 = .ok (.putfield 19, 3) := by decide +kernel
theorem dX3_init_21 : decode cX3_init 21 = .ok (.return_, 1) := by decide +kernel
theorem dX3_mileIn_0 : decode cX3_mileIn 0 = .ok (.aload_n 0, 1) := by decide +kernel
theorem dX3_mileIn_1 : decode cX3_mileIn 1 = .ok (.getfield 19, 3) := by decide +kernel
theorem dX3_mileIn_4 : decode cX3_mileIn 4 = .ok (.aload_n 0, 1) := by decide +kernel
theorem dX3_mileIn_5 : decode cX3_mileIn 5 = .ok (.getfield 15, 3) := by decide +kernel
theorem dX3_mileIn_8 : decode cX3_mileIn 8 = .ok (.invokevirtual 22, 3) := by decide +kernel
theorem dX3_mileIn_11 : decode cX3_mileIn 11 = .ok (.aload_n 0, 1) := by decide +kernel
theorem dX3_mileIn_12 : decode cX3_mileIn 12 = .ok (.getfield 19, 3) := by decide +kernel
theorem dX3_mileIn_15 : decode cX3_mileIn 15 = .ok (.iload_n 1, 1) := by decide +kernel
theorem dX3_mileIn_16 : decode cX3_mileIn 16 = .ok (.invokevirtual 28, 3) := by decide +kernel
theorem dX3_mileIn_19 : decode cX3_mileIn 19 = .ok (.aload_n 0, 1) := by decide +kernel
theorem dX3_mileIn_20 : decode cX3_mileIn 20 = .ok (.getfield 19, 3) := by decide +kernel
theorem dX3_mileIn_23 : decode cX3_mileIn 23 = .ok (.invokevirtual 32, 3) := by decide +kernel
theorem dX3_mileIn_26 : decode cX3_mileIn 26 = .ok (.ireturn, 1) := by decide +kernel
theorem dX3_leaderIn_0 : decode cX3_leaderIn 0 = .ok (.aload_n 0, 1) := by decide +kernel
theorem dX3_leaderIn_1 : decode cX3_leaderIn 1 = .ok (.getfield 19, 3) := by decide +kernel
theorem dX3_leaderIn_4 : decode cX3_leaderIn 4 = .ok (.aload_n 0, 1) := by decide +kernel
theorem dX3_leaderIn_5 : decode cX3_leaderIn 5 = .ok (.getfield 15, 3) := by decide +kernel
theorem dX3_leaderIn_8 : decode cX3_leaderIn 8 = .ok (.invokevirtual 22, 3) := by decide +kernel
theorem dX3_leaderIn_11 : decode cX3_leaderIn 11 = .ok (.aload_n 0, 1) := by decide +kernel
theorem dX3_leaderIn_12 : decode cX3_leaderIn 12 = .ok (.getfield 19, 3) := by decide +kernel
theorem dX3_leaderIn_15 : decode cX3_leaderIn 15 = .ok (.iload_n 1, 1) := by decide +kernel
theorem dX3_leaderIn_16 : decode cX3_leaderIn 16 = .ok (.invokevirtual 28, 3) := by decide +kernel
theorem dX3_leaderIn_19 : decode cX3_leaderIn 19 = .ok (.aload_n 0, 1) := by decide +kernel
theorem dX3_leaderIn_20 : decode cX3_leaderIn 20 = .ok (.getfield 19, 3) := by decide +kernel
theorem dX3_leaderIn_23 : decode cX3_leaderIn 23 = .ok (.invokevirtual 36, 3) := by decide +kernel
theorem dX3_leaderIn_26 : decode cX3_leaderIn 26 = .ok (.ireturn, 1) := by decide +kernel
theorem dX3_daysToEnd_0 : decode cX3_daysToEnd 0 = .ok (.aload_n 0, 1) := by decide +kernel
theorem dX3_daysToEnd_1 : decode cX3_daysToEnd 1 = .ok (.getfield 19, 3) := by decide +kernel
theorem dX3_daysToEnd_4 : decode cX3_daysToEnd 4 = .ok (.aload_n 0, 1) := by decide +kernel
theorem dX3_daysToEnd_5 : decode cX3_daysToEnd 5 = .ok (.getfield 15, 3) := by decide +kernel
theorem dX3_daysToEnd_8 : decode cX3_daysToEnd 8 = .ok (.invokevirtual 22, 3) := by decide +kernel
theorem dX3_daysToEnd_11 : decode cX3_daysToEnd 11 = .ok (.aload_n 0, 1) := by decide +kernel
theorem dX3_daysToEnd_12 : decode cX3_daysToEnd 12 = .ok (.getfield 19, 3) := by decide +kernel
theorem dX3_daysToEnd_15 : decode cX3_daysToEnd 15 = .ok (.bipush 60, 2) := by decide +kernel
theorem dX3_daysToEnd_17 : decode cX3_daysToEnd 17 = .ok (.invokevirtual 39, 3) := by decide +kernel
theorem dX3_daysToEnd_20 : decode cX3_daysToEnd 20 = .ok (.ireturn, 1) := by decide +kernel
theorem dX3_daysToLead_0 : decode cX3_daysToLead 0 = .ok (.aload_n 0, 1) := by decide +kernel
theorem dX3_daysToLead_1 : decode cX3_daysToLead 1 = .ok (.getfield 19, 3) := by decide +kernel
theorem dX3_daysToLead_4 : decode cX3_daysToLead 4 = .ok (.aload_n 0, 1) := by decide +kernel
theorem dX3_daysToLead_5 : decode cX3_daysToLead 5 = .ok (.getfield 15, 3) := by decide +kernel
theorem dX3_daysToLead_8 : decode cX3_daysToLead 8 = .ok (.invokevirtual 22, 3) := by decide +kernel
theorem dX3_daysToLead_11 : decode cX3_daysToLead 11 = .ok (.iconst 0, 1) := by decide +kernel
theorem dX3_daysToLead_12 : decode cX3_daysToLead 12 = .ok (.istore_n 2, 1) := by decide +kernel
theorem dX3_daysToLead_13 : decode cX3_daysToLead 13 = .ok (.iload_n 2, 1) := by decide +kernel
theorem dX3_daysToLead_14 : decode cX3_daysToLead 14 = .ok (.bipush 40, 2) := by decide +kernel
theorem dX3_daysToLead_16 : decode cX3_daysToLead 16 = .ok (.if_icmp .gt 30, 3) := by decide +kernel
theorem dX3_daysToLead_19 : decode cX3_daysToLead 19 = .ok (.aload_n 0, 1) := by decide +kernel
theorem dX3_daysToLead_20 : decode cX3_daysToLead 20 = .ok (.getfield 19, 3) := by decide +kernel
theorem dX3_daysToLead_23 : decode cX3_daysToLead 23 = .ok (.invokevirtual 36, 3) := by decide +kernel
theorem dX3_daysToLead_26 : decode cX3_daysToLead 26 = .ok (.iload_n 1, 1) := by decide +kernel
theorem dX3_daysToLead_27 : decode cX3_daysToLead 27 = .ok (.if_icmp .ne 5, 3) := by decide +kernel
theorem dX3_daysToLead_30 : decode cX3_daysToLead 30 = .ok (.iload_n 2, 1) := by decide +kernel
theorem dX3_daysToLead_31 : decode cX3_daysToLead 31 = .ok (.ireturn, 1) := by decide +kernel
theorem dX3_daysToLead_32 : decode cX3_daysToLead 32 = .ok (.aload_n 0, 1) := by decide +kernel
theorem dX3_daysToLead_33 : decode cX3_daysToLead 33 = .ok (.getfield 19, 3) := by decide +kernel
theorem dX3_daysToLead_36 : decode cX3_daysToLead 36 = .ok (.invokevirtual 43, 3) := by decide +kernel
theorem dX3_daysToLead_39 : decode cX3_daysToLead 39 = .ok (.pop, 1) := by decide +kernel
theorem dX3_daysToLead_40 : decode cX3_daysToLead 40 = .ok (.iinc 2 1, 3) := by decide +kernel
theorem dX3_daysToLead_43 : decode cX3_daysToLead 43 = .ok (.goto (-30), 3) := by decide +kernel
theorem dX3_daysToLead_46 : decode cX3_daysToLead 46 = .ok (.bipush (-9), 2) := by decide +kernel
theorem dX3_daysToLead_48 : decode cX3_daysToLead 48 = .ok (.ireturn, 1) := by decide +kernel
theorem dX3_bestCure_0 : decode cX3_bestCure 0 = .ok (.bipush (-9), 2) := by decide +kernel
theorem dX3_bestCure_2 : decode cX3_bestCure 2 = .ok (.istore_n 2, 1) := by decide +kernel
theorem dX3_bestCure_3 : decode cX3_bestCure 3 = .ok (.bipush (-9), 2) := by decide +kernel
theorem dX3_bestCure_5 : decode cX3_bestCure 5 = .ok (.istore_n 3, 1) := by decide +kernel
theorem dX3_bestCure_6 : decode cX3_bestCure 6 = .ok (.iconst 0, 1) := by decide +kernel
theorem dX3_bestCure_7 : decode cX3_bestCure 7 = .ok (.istore 4, 2) := by decide +kernel
theorem dX3_bestCure_9 : decode cX3_bestCure 9 = .ok (.iload 4, 2) := by decide +kernel
theorem dX3_bestCure_11 : decode cX3_bestCure 11 = .ok (.aload_n 0, 1) := by decide +kernel
theorem dX3_bestCure_12 : decode cX3_bestCure 12 = .ok (.getfield 15, 3) := by decide +kernel
theorem dX3_bestCure_15 : decode cX3_bestCure 15 = .ok (.invokevirtual 46, 3) := by decide +kernel
theorem dX3_bestCure_18 : decode cX3_bestCure 18 = .ok (.if_icmp .ge 59, 3) := by decide +kernel
theorem dX3_bestCure_21 : decode cX3_bestCure 21 = .ok (.aload_n 0, 1) := by decide +kernel
theorem dX3_bestCure_22 : decode cX3_bestCure 22 = .ok (.getfield 15, 3) := by decide +kernel
theorem dX3_bestCure_25 : decode cX3_bestCure 25 = .ok (.iload 4, 2) := by decide +kernel
theorem dX3_bestCure_27 : decode cX3_bestCure 27 = .ok (.invokevirtual 49, 3) := by decide +kernel
theorem dX3_bestCure_30 : decode cX3_bestCure 30 = .ok (.ifCond .eq 12, 3) := by decide +kernel
theorem dX3_bestCure_33 : decode cX3_bestCure 33 = .ok (.aload_n 0, 1) := by decide +kernel
theorem dX3_bestCure_34 : decode cX3_bestCure 34 = .ok (.iload 4, 2) := by decide +kernel
theorem dX3_bestCure_36 : decode cX3_bestCure 36 = .ok (.invokevirtual 53, 3) := by decide +kernel
theorem dX3_bestCure_39 : decode cX3_bestCure 39 = .ok (.goto 5, 3) := by decide +kernel
theorem dX3_bestCure_42 : decode cX3_bestCure 42 = .ok (.bipush (-9), 2) := by decide +kernel
theorem dX3_bestCure_44 : decode cX3_bestCure 44 = .ok (.istore 5, 2) := by decide +kernel
theorem dX3_bestCure_46 : decode cX3_bestCure 46 = .ok (.iload 5, 2) := by decide +kernel
theorem dX3_bestCure_48 : decode cX3_bestCure 48 = .ok (.bipush (-9), 2) := by decide +kernel
theorem dX3_bestCure_50 : decode cX3_bestCure 50 = .ok (.if_icmp .eq 21, 3) := by decide +kernel
theorem dX3_bestCure_53 : decode cX3_bestCure 53 = .ok (.iload_n 2, 1) := by decide +kernel
theorem dX3_bestCure_54 : decode cX3_bestCure 54 = .ok (.bipush (-9), 2) := by decide +kernel
theorem dX3_bestCure_56 : decode cX3_bestCure 56 = .ok (.if_icmp .eq 9, 3) := by decide +kernel
theorem dX3_bestCure_59 : decode cX3_bestCure 59 = .ok (.iload 5, 2) := by decide +kernel
theorem dX3_bestCure_61 : decode cX3_bestCure 61 = .ok (.iload_n 3, 1) := by decide +kernel
theorem dX3_bestCure_62 : decode cX3_bestCure 62 = .ok (.if_icmp .ge 9, 3) := by decide +kernel
theorem dX3_bestCure_65 : decode cX3_bestCure 65 = .ok (.iload 4, 2) := by decide +kernel
theorem dX3_bestCure_67 : decode cX3_bestCure 67 = .ok (.istore_n 2, 1) := by decide +kernel
theorem dX3_bestCure_68 : decode cX3_bestCure 68 = .ok (.iload 5, 2) := by decide +kernel
theorem dX3_bestCure_70 : decode cX3_bestCure 70 = .ok (.istore_n 3, 1) := by decide +kernel
theorem dX3_bestCure_71 : decode cX3_bestCure 71 = .ok (.iinc 4 1, 3) := by decide +kernel
theorem dX3_bestCure_74 : decode cX3_bestCure 74 = .ok (.goto (-65), 3) := by decide +kernel
theorem dX3_bestCure_77 : decode cX3_bestCure 77 = .ok (.iload_n 1, 1) := by decide +kernel
theorem dX3_bestCure_78 : decode cX3_bestCure 78 = .ok (.ifCond .eq 7, 3) := by decide +kernel
theorem dX3_bestCure_81 : decode cX3_bestCure 81 = .ok (.iload_n 2, 1) := by decide +kernel
theorem dX3_bestCure_82 : decode cX3_bestCure 82 = .ok (.goto 4, 3) := by decide +kernel
theorem dX3_bestCure_85 : decode cX3_bestCure 85 = .ok (.iload_n 3, 1) := by decide +kernel
theorem dX3_bestCure_86 : decode cX3_bestCure 86 = .ok (.ireturn, 1) := by decide +kernel
theorem dX3_daysIfEased_0 : decode cX3_daysIfEased 0 = .ok (.aload_n 0, 1) := by decide +kernel
theorem dX3_daysIfEased_1 : decode cX3_daysIfEased 1 = .ok (.getfield 19, 3) := by decide +kernel
theorem dX3_daysIfEased_4 : decode cX3_daysIfEased 4 = .ok (.aload_n 0, 1) := by decide +kernel
theorem dX3_daysIfEased_5 : decode cX3_daysIfEased 5 = .ok (.getfield 15, 3) := by decide +kernel
theorem dX3_daysIfEased_8 : decode cX3_daysIfEased 8 = .ok (.invokevirtual 22, 3) := by decide +kernel
theorem dX3_daysIfEased_11 : decode cX3_daysIfEased 11 = .ok (.aload_n 0, 1) := by decide +kernel
theorem dX3_daysIfEased_12 : decode cX3_daysIfEased 12 = .ok (.getfield 19, 3) := by decide +kernel
theorem dX3_daysIfEased_15 : decode cX3_daysIfEased 15 = .ok (.iload_n 1, 1) := by decide +kernel
theorem dX3_daysIfEased_16 : decode cX3_daysIfEased 16 = .ok (.invokevirtual 56, 3) := by decide +kernel
theorem dX3_daysIfEased_19 : decode cX3_daysIfEased 19 = .ok (.aload_n 0, 1) := by decide +kernel
theorem dX3_daysIfEased_20 : decode cX3_daysIfEased 20 = .ok (.getfield 19, 3) := by decide +kernel
theorem dX3_daysIfEased_23 : decode cX3_daysIfEased 23 = .ok (.bipush 60, 2) := by decide +kernel
theorem dX3_daysIfEased_25 : decode cX3_daysIfEased 25 = .ok (.invokevirtual 39, 3) := by decide +kernel
theorem dX3_daysIfEased_28 : decode cX3_daysIfEased 28 = .ok (.ireturn, 1) := by decide +kernel
theorem dX3_fewestPulls_0 : decode cX3_fewestPulls 0 = .ok (.bipush (-9), 2) := by decide +kernel
theorem dX3_fewestPulls_2 : decode cX3_fewestPulls 2 = .ok (.istore_n 2, 1) := by decide +kernel
theorem dX3_fewestPulls_3 : decode cX3_fewestPulls 3 = .ok (.iconst 0, 1) := by decide +kernel
theorem dX3_fewestPulls_4 : decode cX3_fewestPulls 4 = .ok (.istore_n 3, 1) := by decide +kernel
theorem dX3_fewestPulls_5 : decode cX3_fewestPulls 5 = .ok (.iconst 4, 1) := by decide +kernel
theorem dX3_fewestPulls_6 : decode cX3_fewestPulls 6 = .ok (.aload_n 0, 1) := by decide +kernel
theorem dX3_fewestPulls_7 : decode cX3_fewestPulls 7 = .ok (.getfield 15, 3) := by decide +kernel
theorem dX3_fewestPulls_10 : decode cX3_fewestPulls 10 = .ok (.invokevirtual 46, 3) := by decide +kernel
theorem dX3_fewestPulls_13 : decode cX3_fewestPulls 13 = .ok (.invokestatic 59, 3) := by decide +kernel
theorem dX3_fewestPulls_16 : decode cX3_fewestPulls 16 = .ok (.istore 4, 2) := by decide +kernel
theorem dX3_fewestPulls_18 : decode cX3_fewestPulls 18 = .ok (.iconst 0, 1) := by decide +kernel
theorem dX3_fewestPulls_19 : decode cX3_fewestPulls 19 = .ok (.istore 5, 2) := by decide +kernel
theorem dX3_fewestPulls_21 : decode cX3_fewestPulls 21 = .ok (.iload 5, 2) := by decide +kernel
theorem dX3_fewestPulls_23 : decode cX3_fewestPulls 23 = .ok (.iload 4, 2) := by decide +kernel
theorem dX3_fewestPulls_25 : decode cX3_fewestPulls 25 = .ok (.if_icmp .ge 54, 3) := by decide +kernel
theorem dX3_fewestPulls_28 : decode cX3_fewestPulls 28 = .ok (.aload_n 0, 1) := by decide +kernel
theorem dX3_fewestPulls_29 : decode cX3_fewestPulls 29 = .ok (.iload 5, 2) := by decide +kernel
theorem dX3_fewestPulls_31 : decode cX3_fewestPulls 31 = .ok (.invokevirtual 63, 3) := by decide +kernel
theorem dX3_fewestPulls_34 : decode cX3_fewestPulls 34 = .ok (.istore 6, 2) := by decide +kernel
theorem dX3_fewestPulls_36 : decode cX3_fewestPulls 36 = .ok (.iload_n 2, 1) := by decide +kernel
theorem dX3_fewestPulls_37 : decode cX3_fewestPulls 37 = .ok (.bipush (-9), 2) := by decide +kernel
theorem dX3_fewestPulls_39 : decode cX3_fewestPulls 39 = .ok (.if_icmp .eq 9, 3) := by decide +kernel
theorem dX3_fewestPulls_42 : decode cX3_fewestPulls 42 = .ok (.iload 6, 2) := by decide +kernel
theorem dX3_fewestPulls_44 : decode cX3_fewestPulls 44 = .ok (.iload_n 3, 1) := by decide +kernel
theorem dX3_fewestPulls_45 : decode cX3_fewestPulls 45 = .ok (.if_icmp .ge 28, 3) := by decide +kernel
theorem dX3_fewestPulls_48 : decode cX3_fewestPulls 48 = .ok (.aload_n 0, 1) := by decide +kernel
theorem dX3_fewestPulls_49 : decode cX3_fewestPulls 49 = .ok (.iload 5, 2) := by decide +kernel
theorem dX3_fewestPulls_51 : decode cX3_fewestPulls 51 = .ok (.invokevirtual 66, 3) := by decide +kernel
theorem dX3_fewestPulls_54 : decode cX3_fewestPulls 54 = .ok (.ifCond .eq 19, 3) := by decide +kernel
theorem dX3_fewestPulls_57 : decode cX3_fewestPulls 57 = .ok (.aload_n 0, 1) := by decide +kernel
theorem dX3_fewestPulls_58 : decode cX3_fewestPulls 58 = .ok (.iload 5, 2) := by decide +kernel
theorem dX3_fewestPulls_60 : decode cX3_fewestPulls 60 = .ok (.iload_n 1, 1) := by decide +kernel
theorem dX3_fewestPulls_61 : decode cX3_fewestPulls 61 = .ok (.invokevirtual 69, 3) := by decide +kernel
theorem dX3_fewestPulls_64 : decode cX3_fewestPulls 64 = .ok (.ifCond .eq 9, 3) := by decide +kernel
theorem dX3_fewestPulls_67 : decode cX3_fewestPulls 67 = .ok (.iload 5, 2) := by decide +kernel
theorem dX3_fewestPulls_69 : decode cX3_fewestPulls 69 = .ok (.istore_n 2, 1) := by decide +kernel
theorem dX3_fewestPulls_70 : decode cX3_fewestPulls 70 = .ok (.iload 6, 2) := by decide +kernel
theorem dX3_fewestPulls_72 : decode cX3_fewestPulls 72 = .ok (.istore_n 3, 1) := by decide +kernel
theorem dX3_fewestPulls_73 : decode cX3_fewestPulls 73 = .ok (.iinc 5 1, 3) := by decide +kernel
theorem dX3_fewestPulls_76 : decode cX3_fewestPulls 76 = .ok (.goto (-55), 3) := by decide +kernel
theorem dX3_fewestPulls_79 : decode cX3_fewestPulls 79 = .ok (.iload_n 2, 1) := by decide +kernel
theorem dX3_fewestPulls_80 : decode cX3_fewestPulls 80 = .ok (.ireturn, 1) := by decide +kernel
theorem dX3_pullsOf_0 : decode cX3_pullsOf 0 = .ok (.iload_n 2, 1) := by decide +kernel
theorem dX3_pullsOf_1 : decode cX3_pullsOf 1 = .ok (.iconst 2, 1) := by decide +kernel
theorem dX3_pullsOf_2 : decode cX3_pullsOf 2 = .ok (.aload_n 0, 1) := by decide +kernel
theorem dX3_pullsOf_3 : decode cX3_pullsOf 3 = .ok (.getfield 15, 3) := by decide +kernel
theorem dX3_pullsOf_6 : decode cX3_pullsOf 6 = .ok (.invokevirtual 46, 3) := by decide +kernel
theorem dX3_pullsOf_9 : decode cX3_pullsOf 9 = .ok (.iconst 1, 1) := by decide +kernel
theorem dX3_pullsOf_10 : decode cX3_pullsOf 10 = .ok (.isub, 1) := by decide +kernel
theorem dX3_pullsOf_11 : decode cX3_pullsOf 11 = .ok (.iload_n 1, 1) := by decide +kernel
theorem dX3_pullsOf_12 : decode cX3_pullsOf 12 = .ok (.isub, 1) := by decide +kernel
theorem dX3_pullsOf_13 : decode cX3_pullsOf 13 = .ok (.imul, 1) := by decide +kernel
theorem dX3_pullsOf_14 : decode cX3_pullsOf 14 = .ok (.ishr, 1) := by decide +kernel
theorem dX3_pullsOf_15 : decode cX3_pullsOf 15 = .ok (.iconst 3, 1) := by decide +kernel
theorem dX3_pullsOf_16 : decode cX3_pullsOf 16 = .ok (.iand, 1) := by decide +kernel
theorem dX3_pullsOf_17 : decode cX3_pullsOf 17 = .ok (.ireturn, 1) := by decide +kernel
theorem dX3_canPull_0 : decode cX3_canPull 0 = .ok (.iconst 0, 1) := by decide +kernel
theorem dX3_canPull_1 : decode cX3_canPull 1 = .ok (.istore_n 2, 1) := by decide +kernel
theorem dX3_canPull_2 : decode cX3_canPull 2 = .ok (.iload_n 2, 1) := by decide +kernel
theorem dX3_canPull_3 : decode cX3_canPull 3 = .ok (.aload_n 0, 1) := by decide +kernel
theorem dX3_canPull_4 : decode cX3_canPull 4 = .ok (.getfield 15, 3) := by decide +kernel
theorem dX3_canPull_7 : decode cX3_canPull 7 = .ok (.invokevirtual 46, 3) := by decide +kernel
theorem dX3_canPull_10 : decode cX3_canPull 10 = .ok (.if_icmp .ge 28, 3) := by decide +kernel
theorem dX3_canPull_13 : decode cX3_canPull 13 = .ok (.aload_n 0, 1) := by decide +kernel
theorem dX3_canPull_14 : decode cX3_canPull 14 = .ok (.iload_n 2, 1) := by decide +kernel
theorem dX3_canPull_15 : decode cX3_canPull 15 = .ok (.iload_n 1, 1) := by decide +kernel
theorem dX3_canPull_16 : decode cX3_canPull 16 = .ok (.invokevirtual 73, 3) := by decide +kernel
theorem dX3_canPull_19 : decode cX3_canPull 19 = .ok (.aload_n 0, 1) := by decide +kernel
theorem dX3_canPull_20 : decode cX3_canPull 20 = .ok (.getfield 15, 3) := by decide +kernel
theorem dX3_canPull_23 : decode cX3_canPull 23 = .ok (.iload_n 2, 1) := by decide +kernel
theorem dX3_canPull_24 : decode cX3_canPull 24 = .ok (.invokevirtual 76, 3) := by decide +kernel
theorem dX3_canPull_27 : decode cX3_canPull 27 = .ok (.if_icmp .le 5, 3) := by decide +kernel
theorem dX3_canPull_30 : decode cX3_canPull 30 = .ok (.iconst 0, 1) := by decide +kernel
theorem dX3_canPull_31 : decode cX3_canPull 31 = .ok (.ireturn, 1) := by decide +kernel
theorem dX3_canPull_32 : decode cX3_canPull 32 = .ok (.iinc 2 1, 3) := by decide +kernel
theorem dX3_canPull_35 : decode cX3_canPull 35 = .ok (.goto (-33), 3) := by decide +kernel
theorem dX3_canPull_38 : decode cX3_canPull 38 = .ok (.iconst 1, 1) := by decide +kernel
theorem dX3_canPull_39 : decode cX3_canPull 39 = .ok (.ireturn, 1) := by decide +kernel
theorem dX3_isInTime_0 : decode cX3_isInTime 0 = .ok (.aload_n 0, 1) := by decide +kernel
theorem dX3_isInTime_1 : decode cX3_isInTime 1 = .ok (.getfield 19, 3) := by decide +kernel
theorem dX3_isInTime_4 : decode cX3_isInTime 4 = .ok (.aload_n 0, 1) := by decide +kernel
theorem dX3_isInTime_5 : decode cX3_isInTime 5 = .ok (.getfield 15, 3) := by decide +kernel
theorem dX3_isInTime_8 : decode cX3_isInTime 8 = .ok (.invokevirtual 22, 3) := by decide +kernel
theorem dX3_isInTime_11 : decode cX3_isInTime 11 = .ok (.iconst 0, 1) := by decide +kernel
theorem dX3_isInTime_12 : decode cX3_isInTime 12 = .ok (.istore_n 3, 1) := by decide +kernel
theorem dX3_isInTime_13 : decode cX3_isInTime 13 = .ok (.iload_n 3, 1) := by decide +kernel
theorem dX3_isInTime_14 : decode cX3_isInTime 14 = .ok (.aload_n 0, 1) := by decide +kernel
theorem dX3_isInTime_15 : decode cX3_isInTime 15 = .ok (.getfield 15, 3) := by decide +kernel
theorem dX3_isInTime_18 : decode cX3_isInTime 18 = .ok (.invokevirtual 46, 3) := by decide +kernel
theorem dX3_isInTime_21 : decode cX3_isInTime 21 = .ok (.if_icmp .ge 23, 3) := by decide +kernel
theorem dX3_isInTime_24 : decode cX3_isInTime 24 = .ok (.aload_n 0, 1) := by decide +kernel
theorem dX3_isInTime_25 : decode cX3_isInTime 25 = .ok (.getfield 19, 3) := by decide +kernel
theorem dX3_isInTime_28 : decode cX3_isInTime 28 = .ok (.iload_n 3, 1) := by decide +kernel
theorem dX3_isInTime_29 : decode cX3_isInTime 29 = .ok (.aload_n 0, 1) := by decide +kernel
theorem dX3_isInTime_30 : decode cX3_isInTime 30 = .ok (.iload_n 3, 1) := by decide +kernel
theorem dX3_isInTime_31 : decode cX3_isInTime 31 = .ok (.iload_n 1, 1) := by decide +kernel
theorem dX3_isInTime_32 : decode cX3_isInTime 32 = .ok (.invokevirtual 73, 3) := by decide +kernel
theorem dX3_isInTime_35 : decode cX3_isInTime 35 = .ok (.invokevirtual 79, 3) := by decide +kernel
theorem dX3_isInTime_38 : decode cX3_isInTime 38 = .ok (.iinc 3 1, 3) := by decide +kernel
theorem dX3_isInTime_41 : decode cX3_isInTime 41 = .ok (.goto (-28), 3) := by decide +kernel
theorem dX3_isInTime_44 : decode cX3_isInTime 44 = .ok (.aload_n 0, 1) := by decide +kernel
theorem dX3_isInTime_45 : decode cX3_isInTime 45 = .ok (.getfield 19, 3) := by decide +kernel
theorem dX3_isInTime_48 : decode cX3_isInTime 48 = .ok (.iload_n 2, 1) := by decide +kernel
theorem dX3_isInTime_49 : decode cX3_isInTime 49 = .ok (.invokevirtual 39, 3) := by decide +kernel
theorem dX3_isInTime_52 : decode cX3_isInTime 52 = .ok (.bipush (-9), 2) := by decide +kernel
theorem dX3_isInTime_54 : decode cX3_isInTime 54 = .ok (.if_icmp .eq 7, 3) := by decide +kernel
theorem dX3_isInTime_57 : decode cX3_isInTime 57 = .ok (.iconst 1, 1) := by decide +kernel
theorem dX3_isInTime_58 : decode cX3_isInTime 58 = .ok (.goto 4, 3) := by decide +kernel
theorem dX3_isInTime_61 : decode cX3_isInTime 61 = .ok (.iconst 0, 1) := by decide +kernel
theorem dX3_isInTime_62 : decode cX3_isInTime 62 = .ok (.ireturn, 1) := by decide +kernel
theorem dX3_pullsInAll_0 : decode cX3_pullsInAll 0 = .ok (.iconst 0, 1) := by decide +kernel
theorem dX3_pullsInAll_1 : decode cX3_pullsInAll 1 = .ok (.istore_n 2, 1) := by decide +kernel
theorem dX3_pullsInAll_2 : decode cX3_pullsInAll 2 = .ok (.iconst 0, 1) := by decide +kernel
theorem dX3_pullsInAll_3 : decode cX3_pullsInAll 3 = .ok (.istore_n 3, 1) := by decide +kernel
theorem dX3_pullsInAll_4 : decode cX3_pullsInAll 4 = .ok (.iload_n 3, 1) := by decide +kernel
theorem dX3_pullsInAll_5 : decode cX3_pullsInAll 5 = .ok (.aload_n 0, 1) := by decide +kernel
theorem dX3_pullsInAll_6 : decode cX3_pullsInAll 6 = .ok (.getfield 15, 3) := by decide +kernel
theorem dX3_pullsInAll_9 : decode cX3_pullsInAll 9 = .ok (.invokevirtual 46, 3) := by decide +kernel
theorem dX3_pullsInAll_12 : decode cX3_pullsInAll 12 = .ok (.if_icmp .ge 18, 3) := by decide +kernel
theorem dX3_pullsInAll_15 : decode cX3_pullsInAll 15 = .ok (.iload_n 2, 1) := by decide +kernel
theorem dX3_pullsInAll_16 : decode cX3_pullsInAll 16 = .ok (.aload_n 0, 1) := by decide +kernel
theorem dX3_pullsInAll_17 : decode cX3_pullsInAll 17 = .ok (.iload_n 3, 1) := by decide +kernel
theorem dX3_pullsInAll_18 : decode cX3_pullsInAll 18 = .ok (.iload_n 1, 1) := by decide +kernel
theorem dX3_pullsInAll_19 : decode cX3_pullsInAll 19 = .ok (.invokevirtual 73, 3) := by decide +kernel
theorem dX3_pullsInAll_22 : decode cX3_pullsInAll 22 = .ok (.iadd, 1) := by decide +kernel
theorem dX3_pullsInAll_23 : decode cX3_pullsInAll 23 = .ok (.istore_n 2, 1) := by decide +kernel
theorem dX3_pullsInAll_24 : decode cX3_pullsInAll 24 = .ok (.iinc 3 1, 3) := by decide +kernel
theorem dX3_pullsInAll_27 : decode cX3_pullsInAll 27 = .ok (.goto (-23), 3) := by decide +kernel
theorem dX3_pullsInAll_30 : decode cX3_pullsInAll 30 = .ok (.iload_n 2, 1) := by decide +kernel
theorem dX3_pullsInAll_31 : decode cX3_pullsInAll 31 = .ok (.ireturn, 1) := by decide +kernel
theorem dX3_pullFigures_0 : decode cX3_pullFigures 0 = .ok (.iconst 0, 1) := by decide +kernel
theorem dX3_pullFigures_1 : decode cX3_pullFigures 1 = .ok (.istore_n 2, 1) := by decide +kernel
theorem dX3_pullFigures_2 : decode cX3_pullFigures 2 = .ok (.iconst 0, 1) := by decide +kernel
theorem dX3_pullFigures_3 : decode cX3_pullFigures 3 = .ok (.istore_n 3, 1) := by decide +kernel
theorem dX3_pullFigures_4 : decode cX3_pullFigures 4 = .ok (.iload_n 3, 1) := by decide +kernel
theorem dX3_pullFigures_5 : decode cX3_pullFigures 5 = .ok (.aload_n 0, 1) := by decide +kernel
theorem dX3_pullFigures_6 : decode cX3_pullFigures 6 = .ok (.getfield 15, 3) := by decide +kernel
theorem dX3_pullFigures_9 : decode cX3_pullFigures 9 = .ok (.invokevirtual 46, 3) := by decide +kernel
theorem dX3_pullFigures_12 : decode cX3_pullFigures 12 = .ok (.if_icmp .ge 21, 3) := by decide +kernel
theorem dX3_pullFigures_15 : decode cX3_pullFigures 15 = .ok (.bipush 10, 2) := by decide +kernel
theorem dX3_pullFigures_17 : decode cX3_pullFigures 17 = .ok (.iload_n 2, 1) := by decide +kernel
theorem dX3_pullFigures_18 : decode cX3_pullFigures 18 = .ok (.imul, 1) := by decide +kernel
theorem dX3_pullFigures_19 : decode cX3_pullFigures 19 = .ok (.aload_n 0, 1) := by decide +kernel
theorem dX3_pullFigures_20 : decode cX3_pullFigures 20 = .ok (.iload_n 3, 1) := by decide +kernel
theorem dX3_pullFigures_21 : decode cX3_pullFigures 21 = .ok (.iload_n 1, 1) := by decide +kernel
theorem dX3_pullFigures_22 : decode cX3_pullFigures 22 = .ok (.invokevirtual 73, 3) := by decide +kernel
theorem dX3_pullFigures_25 : decode cX3_pullFigures 25 = .ok (.iadd, 1) := by decide +kernel
theorem dX3_pullFigures_26 : decode cX3_pullFigures 26 = .ok (.istore_n 2, 1) := by decide +kernel
theorem dX3_pullFigures_27 : decode cX3_pullFigures 27 = .ok (.iinc 3 1, 3) := by decide +kernel
theorem dX3_pullFigures_30 : decode cX3_pullFigures 30 = .ok (.goto (-26), 3) := by decide +kernel
theorem dX3_pullFigures_33 : decode cX3_pullFigures 33 = .ok (.iload_n 2, 1) := by decide +kernel
theorem dX3_pullFigures_34 : decode cX3_pullFigures 34 = .ok (.ireturn, 1) := by decide +kernel
theorem dX3_firstImpossible_0 : decode cX3_firstImpossible 0 = .ok (.lload_n 2, 1) := by decide +kernel
theorem dX3_firstImpossible_1 : decode cX3_firstImpossible 1 = .ok (.lstore 4, 2) := by decide +kernel
theorem dX3_firstImpossible_3 : decode cX3_firstImpossible 3 = .ok (.iload_n 1, 1) := by decide +kernel
theorem dX3_firstImpossible_4 : decode cX3_firstImpossible 4 = .ok (.aload_n 0, 1) := by decide +kernel
theorem dX3_firstImpossible_5 : decode cX3_firstImpossible 5 = .ok (.getfield 9, 3) := by decide +kernel
theorem dX3_firstImpossible_8 : decode cX3_firstImpossible 8 = .ok (.arraylength, 1) := by decide +kernel
theorem dX3_firstImpossible_9 : decode cX3_firstImpossible 9 = .ok (.invokestatic 83, 3) := by decide +kernel
theorem dX3_firstImpossible_12 : decode cX3_firstImpossible 12 = .ok (.iconst 1, 1) := by decide +kernel
theorem dX3_firstImpossible_13 : decode cX3_firstImpossible 13 = .ok (.isub, 1) := by decide +kernel
theorem dX3_firstImpossible_14 : decode cX3_firstImpossible 14 = .ok (.istore 6, 2) := by decide +kernel
theorem dX3_firstImpossible_16 : decode cX3_firstImpossible 16 = .ok (.iload 6, 2) := by decide +kernel
theorem dX3_firstImpossible_18 : decode cX3_firstImpossible 18 = .ok (.ifCond .lt 31, 3) := by decide +kernel
theorem dX3_firstImpossible_21 : decode cX3_firstImpossible 21 = .ok (.aload_n 0, 1) := by decide +kernel
theorem dX3_firstImpossible_22 : decode cX3_firstImpossible 22 = .ok (.getfield 9, 3) := by decide +kernel
theorem dX3_firstImpossible_25 : decode cX3_firstImpossible 25 = .ok (.iload 6, 2) := by decide +kernel
theorem dX3_firstImpossible_27 : decode cX3_firstImpossible 27 = .ok (.lload 4, 2) := by decide +kernel
theorem dX3_firstImpossible_29 : decode cX3_firstImpossible 29 = .ok (.ldc2_w 88, 3) := by decide +kernel
theorem dX3_firstImpossible_32 : decode cX3_firstImpossible 32 = .ok (.lrem, 1) := by decide +kernel
theorem dX3_firstImpossible_33 : decode cX3_firstImpossible 33 = .ok (.l2i, 1) := by decide +kernel
theorem dX3_firstImpossible_34 : decode cX3_firstImpossible 34 = .ok (.iastore, 1) := by decide +kernel
theorem dX3_firstImpossible_35 : decode cX3_firstImpossible 35 = .ok (.lload 4, 2) := by decide +kernel
theorem dX3_firstImpossible_37 : decode cX3_firstImpossible 37 = .ok (.ldc2_w 88, 3) := by decide +kernel
theorem dX3_firstImpossible_40 : decode cX3_firstImpossible 40 = .ok (.ldiv, 1) := by decide +kernel
theorem dX3_firstImpossible_41 : decode cX3_firstImpossible 41 = .ok (.lstore 4, 2) := by decide +kernel
theorem dX3_firstImpossible_43 : decode cX3_firstImpossible 43 = .ok (.iinc 6 (-1), 3) := by decide +kernel
theorem dX3_firstImpossible_46 : decode cX3_firstImpossible 46 = .ok (.goto (-30), 3) := by decide +kernel
theorem dX3_firstImpossible_49 : decode cX3_firstImpossible 49 = .ok (.aload_n 0, 1) := by decide +kernel
theorem dX3_firstImpossible_50 : decode cX3_firstImpossible 50 = .ok (.getfield 19, 3) := by decide +kernel
theorem dX3_firstImpossible_53 : decode cX3_firstImpossible 53 = .ok (.aload_n 0, 1) := by decide +kernel
theorem dX3_firstImpossible_54 : decode cX3_firstImpossible 54 = .ok (.getfield 15, 3) := by decide +kernel
theorem dX3_firstImpossible_57 : decode cX3_firstImpossible 57 = .ok (.invokevirtual 22, 3) := by decide +kernel
theorem dX3_firstImpossible_60 : decode cX3_firstImpossible 60 = .ok (.iconst 0, 1) := by decide +kernel
theorem dX3_firstImpossible_61 : decode cX3_firstImpossible 61 = .ok (.istore 6, 2) := by decide +kernel
theorem dX3_firstImpossible_63 : decode cX3_firstImpossible 63 = .ok (.iload 6, 2) := by decide +kernel
theorem dX3_firstImpossible_65 : decode cX3_firstImpossible 65 = .ok (.iload_n 1, 1) := by decide +kernel
theorem dX3_firstImpossible_66 : decode cX3_firstImpossible 66 = .ok (.if_icmp .ge 56, 3) := by decide +kernel
theorem dX3_firstImpossible_69 : decode cX3_firstImpossible 69 = .ok (.iload 6, 2) := by decide +kernel
theorem dX3_firstImpossible_71 : decode cX3_firstImpossible 71 = .ok (.aload_n 0, 1) := by decide +kernel
theorem dX3_firstImpossible_72 : decode cX3_firstImpossible 72 = .ok (.getfield 9, 3) := by decide +kernel
theorem dX3_firstImpossible_75 : decode cX3_firstImpossible 75 = .ok (.arraylength, 1) := by decide +kernel
theorem dX3_firstImpossible_76 : decode cX3_firstImpossible 76 = .ok (.if_icmp .ge 46, 3) := by decide +kernel
theorem dX3_firstImpossible_79 : decode cX3_firstImpossible 79 = .ok (.aload_n 0, 1) := by decide +kernel
theorem dX3_firstImpossible_80 : decode cX3_firstImpossible 80 = .ok (.getfield 9, 3) := by decide +kernel
theorem dX3_firstImpossible_83 : decode cX3_firstImpossible 83 = .ok (.iload 6, 2) := by decide +kernel
theorem dX3_firstImpossible_85 : decode cX3_firstImpossible 85 = .ok (.iaload, 1) := by decide +kernel
theorem dX3_firstImpossible_86 : decode cX3_firstImpossible 86 = .ok (.istore 7, 2) := by decide +kernel
theorem dX3_firstImpossible_88 : decode cX3_firstImpossible 88 = .ok (.aload_n 0, 1) := by decide +kernel
theorem dX3_firstImpossible_89 : decode cX3_firstImpossible 89 = .ok (.iload 7, 2) := by decide +kernel
theorem dX3_firstImpossible_91 : decode cX3_firstImpossible 91 = .ok (.bipush 100, 2) := by decide +kernel
theorem dX3_firstImpossible_93 : decode cX3_firstImpossible 93 = .ok (.idiv, 1) := by decide +kernel
theorem dX3_firstImpossible_94 : decode cX3_firstImpossible 94 = .ok (.iload 7, 2) := by decide +kernel
theorem dX3_firstImpossible_96 : decode cX3_firstImpossible 96 = .ok (.bipush 10, 2) := by decide +kernel
theorem dX3_firstImpossible_98 : decode cX3_firstImpossible 98 = .ok (.idiv, 1) := by decide +kernel
theorem dX3_firstImpossible_99 : decode cX3_firstImpossible 99 = .ok (.bipush 10, 2) := by decide +kernel
theorem dX3_firstImpossible_101 : decode cX3_firstImpossible 101 = .ok (.irem, 1) := by decide +kernel
theorem dX3_firstImpossible_102 : decode cX3_firstImpossible 102 = .ok (.iload 7, 2) := by decide +kernel
theorem dX3_firstImpossible_104 : decode cX3_firstImpossible 104 = .ok (.bipush 10, 2) := by decide +kernel
theorem dX3_firstImpossible_106 : decode cX3_firstImpossible 106 = .ok (.irem, 1) := by decide +kernel
theorem dX3_firstImpossible_107 : decode cX3_firstImpossible 107 = .ok (.invokevirtual 90, 3) := by decide +kernel
theorem dX3_firstImpossible_110 : decode cX3_firstImpossible 110 = .ok (.ifCond .ne 6, 3) := by decide +kernel
theorem dX3_firstImpossible_113 : decode cX3_firstImpossible 113 = .ok (.iload 6, 2) := by decide +kernel
theorem dX3_firstImpossible_115 : decode cX3_firstImpossible 115 = .ok (.ireturn, 1) := by decide +kernel
theorem dX3_firstImpossible_116 : decode cX3_firstImpossible 116 = .ok (.iinc 6 1, 3) := by decide +kernel
theorem dX3_firstImpossible_119 : decode cX3_firstImpossible 119 = .ok (.goto (-56), 3) := by decide +kernel
theorem dX3_firstImpossible_122 : decode cX3_firstImpossible 122 = .ok (.bipush (-9), 2) := by decide +kernel
theorem dX3_firstImpossible_124 : decode cX3_firstImpossible 124 = .ok (.ireturn, 1) := by decide +kernel
theorem dX3_does_0 : decode cX3_does 0 = .ok (.iload_n 1, 1) := by decide +kernel
theorem dX3_does_1 : decode cX3_does 1 = .ok (.iconst 5, 1) := by decide +kernel
theorem dX3_does_2 : decode cX3_does 2 = .ok (.if_icmp .ne 32, 3) := by decide +kernel
theorem dX3_does_5 : decode cX3_does 5 = .ok (.iload_n 2, 1) := by decide +kernel
theorem dX3_does_6 : decode cX3_does 6 = .ok (.aload_n 0, 1) := by decide +kernel
theorem dX3_does_7 : decode cX3_does 7 = .ok (.getfield 15, 3) := by decide +kernel
theorem dX3_does_10 : decode cX3_does 10 = .ok (.invokevirtual 46, 3) := by decide +kernel
theorem dX3_does_13 : decode cX3_does 13 = .ok (.if_icmp .ge 19, 3) := by decide +kernel
theorem dX3_does_16 : decode cX3_does 16 = .ok (.aload_n 0, 1) := by decide +kernel
theorem dX3_does_17 : decode cX3_does 17 = .ok (.getfield 19, 3) := by decide +kernel
theorem dX3_does_20 : decode cX3_does 20 = .ok (.iload_n 2, 1) := by decide +kernel
theorem dX3_does_21 : decode cX3_does 21 = .ok (.invokevirtual 76, 3) := by decide +kernel
theorem dX3_does_24 : decode cX3_does 24 = .ok (.iload_n 3, 1) := by decide +kernel
theorem dX3_does_25 : decode cX3_does 25 = .ok (.if_icmp .lt 7, 3) := by decide +kernel
theorem dX3_does_28 : decode cX3_does 28 = .ok (.iconst 1, 1) := by decide +kernel
theorem dX3_does_29 : decode cX3_does 29 = .ok (.goto 4, 3) := by decide +kernel
theorem dX3_does_32 : decode cX3_does 32 = .ok (.iconst 0, 1) := by decide +kernel
theorem dX3_does_33 : decode cX3_does 33 = .ok (.ireturn, 1) := by decide +kernel
theorem dX3_does_34 : decode cX3_does 34 = .ok (.iload_n 1, 1) := by decide +kernel
theorem dX3_does_35 : decode cX3_does 35 = .ok (.bipush 6, 2) := by decide +kernel
theorem dX3_does_37 : decode cX3_does 37 = .ok (.if_icmp .ne 25, 3) := by decide +kernel
theorem dX3_does_40 : decode cX3_does 40 = .ok (.aload_n 0, 1) := by decide +kernel
theorem dX3_does_41 : decode cX3_does 41 = .ok (.getfield 19, 3) := by decide +kernel
theorem dX3_does_44 : decode cX3_does 44 = .ok (.invokevirtual 32, 3) := by decide +kernel
theorem dX3_does_47 : decode cX3_does 47 = .ok (.bipush 10, 2) := by decide +kernel
theorem dX3_does_49 : decode cX3_does 49 = .ok (.iload_n 2, 1) := by decide +kernel
theorem dX3_does_50 : decode cX3_does 50 = .ok (.imul, 1) := by decide +kernel
theorem dX3_does_51 : decode cX3_does 51 = .ok (.iload_n 3, 1) := by decide +kernel
theorem dX3_does_52 : decode cX3_does 52 = .ok (.iadd, 1) := by decide +kernel
theorem dX3_does_53 : decode cX3_does 53 = .ok (.if_icmp .lt 7, 3) := by decide +kernel
theorem dX3_does_56 : decode cX3_does 56 = .ok (.iconst 1, 1) := by decide +kernel
theorem dX3_does_57 : decode cX3_does 57 = .ok (.goto 4, 3) := by decide +kernel
theorem dX3_does_60 : decode cX3_does 60 = .ok (.iconst 0, 1) := by decide +kernel
theorem dX3_does_61 : decode cX3_does 61 = .ok (.ireturn, 1) := by decide +kernel
theorem dX3_does_62 : decode cX3_does 62 = .ok (.iload_n 2, 1) := by decide +kernel
theorem dX3_does_63 : decode cX3_does 63 = .ok (.ifCond .ne 16, 3) := by decide +kernel
theorem dX3_does_66 : decode cX3_does 66 = .ok (.aload_n 0, 1) := by decide +kernel
theorem dX3_does_67 : decode cX3_does 67 = .ok (.iload_n 1, 1) := by decide +kernel
theorem dX3_does_68 : decode cX3_does 68 = .ok (.iload_n 3, 1) := by decide +kernel
theorem dX3_does_69 : decode cX3_does 69 = .ok (.invokevirtual 94, 3) := by decide +kernel
theorem dX3_does_72 : decode cX3_does 72 = .ok (.ifCond .eq 7, 3) := by decide +kernel
theorem dX3_does_75 : decode cX3_does 75 = .ok (.iconst 1, 1) := by decide +kernel
theorem dX3_does_76 : decode cX3_does 76 = .ok (.goto 4, 3) := by decide +kernel
theorem dX3_does_79 : decode cX3_does 79 = .ok (.iconst 0, 1) := by decide +kernel
theorem dX3_does_80 : decode cX3_does 80 = .ok (.ireturn, 1) := by decide +kernel
theorem dX3_doesPlain_0 : decode cX3_doesPlain 0 = .ok (.iload_n 1, 1) := by decide +kernel
theorem dX3_doesPlain_1 : decode cX3_doesPlain 1 = .ok (.tableswitch 125 0 4 #[35, 53, 70, 89, 108], 35) := by decide +kernel
theorem dX3_doesPlain_36 : decode cX3_doesPlain 36 = .ok (.aload_n 0, 1) := by decide +kernel
theorem dX3_doesPlain_37 : decode cX3_doesPlain 37 = .ok (.getfield 19, 3) := by decide +kernel
theorem dX3_doesPlain_40 : decode cX3_doesPlain 40 = .ok (.invokevirtual 43, 3) := by decide +kernel
theorem dX3_doesPlain_43 : decode cX3_doesPlain 43 = .ok (.pop, 1) := by decide +kernel
theorem dX3_doesPlain_44 : decode cX3_doesPlain 44 = .ok (.iload_n 2, 1) := by decide +kernel
theorem dX3_doesPlain_45 : decode cX3_doesPlain 45 = .ok (.ifCond .ne 7, 3) := by decide +kernel
theorem dX3_doesPlain_48 : decode cX3_doesPlain 48 = .ok (.iconst 1, 1) := by decide +kernel
theorem dX3_doesPlain_49 : decode cX3_doesPlain 49 = .ok (.goto 4, 3) := by decide +kernel
theorem dX3_doesPlain_52 : decode cX3_doesPlain 52 = .ok (.iconst 0, 1) := by decide +kernel
theorem dX3_doesPlain_53 : decode cX3_doesPlain 53 = .ok (.ireturn, 1) := by decide +kernel
theorem dX3_doesPlain_54 : decode cX3_doesPlain 54 = .ok (.aload_n 0, 1) := by decide +kernel
theorem dX3_doesPlain_55 : decode cX3_doesPlain 55 = .ok (.getfield 19, 3) := by decide +kernel
theorem dX3_doesPlain_58 : decode cX3_doesPlain 58 = .ok (.invokevirtual 97, 3) := by decide +kernel
theorem dX3_doesPlain_61 : decode cX3_doesPlain 61 = .ok (.iload_n 2, 1) := by decide +kernel
theorem dX3_doesPlain_62 : decode cX3_doesPlain 62 = .ok (.ifCond .ne 7, 3) := by decide +kernel
theorem dX3_doesPlain_65 : decode cX3_doesPlain 65 = .ok (.iconst 1, 1) := by decide +kernel
theorem dX3_doesPlain_66 : decode cX3_doesPlain 66 = .ok (.goto 4, 3) := by decide +kernel
theorem dX3_doesPlain_69 : decode cX3_doesPlain 69 = .ok (.iconst 0, 1) := by decide +kernel
theorem dX3_doesPlain_70 : decode cX3_doesPlain 70 = .ok (.ireturn, 1) := by decide +kernel
theorem dX3_doesPlain_71 : decode cX3_doesPlain 71 = .ok (.aload_n 0, 1) := by decide +kernel
theorem dX3_doesPlain_72 : decode cX3_doesPlain 72 = .ok (.getfield 19, 3) := by decide +kernel
theorem dX3_doesPlain_75 : decode cX3_doesPlain 75 = .ok (.iload_n 2, 1) := by decide +kernel
theorem dX3_doesPlain_76 : decode cX3_doesPlain 76 = .ok (.invokevirtual 100, 3) := by decide +kernel
theorem dX3_doesPlain_79 : decode cX3_doesPlain 79 = .ok (.istore_n 3, 1) := by decide +kernel
theorem dX3_doesPlain_80 : decode cX3_doesPlain 80 = .ok (.aload_n 0, 1) := by decide +kernel
theorem dX3_doesPlain_81 : decode cX3_doesPlain 81 = .ok (.getfield 19, 3) := by decide +kernel
theorem dX3_doesPlain_84 : decode cX3_doesPlain 84 = .ok (.iload_n 2, 1) := by decide +kernel
theorem dX3_doesPlain_85 : decode cX3_doesPlain 85 = .ok (.invokevirtual 103, 3) := by decide +kernel
theorem dX3_doesPlain_88 : decode cX3_doesPlain 88 = .ok (.iload_n 3, 1) := by decide +kernel
theorem dX3_doesPlain_89 : decode cX3_doesPlain 89 = .ok (.ireturn, 1) := by decide +kernel
theorem dX3_doesPlain_90 : decode cX3_doesPlain 90 = .ok (.aload_n 0, 1) := by decide +kernel
theorem dX3_doesPlain_91 : decode cX3_doesPlain 91 = .ok (.getfield 19, 3) := by decide +kernel
theorem dX3_doesPlain_94 : decode cX3_doesPlain 94 = .ok (.iload_n 2, 1) := by decide +kernel
theorem dX3_doesPlain_95 : decode cX3_doesPlain 95 = .ok (.invokevirtual 49, 3) := by decide +kernel
theorem dX3_doesPlain_98 : decode cX3_doesPlain 98 = .ok (.istore_n 3, 1) := by decide +kernel
theorem dX3_doesPlain_99 : decode cX3_doesPlain 99 = .ok (.aload_n 0, 1) := by decide +kernel
theorem dX3_doesPlain_100 : decode cX3_doesPlain 100 = .ok (.getfield 19, 3) := by decide +kernel
theorem dX3_doesPlain_103 : decode cX3_doesPlain 103 = .ok (.iload_n 2, 1) := by decide +kernel
theorem dX3_doesPlain_104 : decode cX3_doesPlain 104 = .ok (.invokevirtual 56, 3) := by decide +kernel
theorem dX3_doesPlain_107 : decode cX3_doesPlain 107 = .ok (.iload_n 3, 1) := by decide +kernel
theorem dX3_doesPlain_108 : decode cX3_doesPlain 108 = .ok (.ireturn, 1) := by decide +kernel
theorem dX3_doesPlain_109 : decode cX3_doesPlain 109 = .ok (.aload_n 0, 1) := by decide +kernel
theorem dX3_doesPlain_110 : decode cX3_doesPlain 110 = .ok (.getfield 19, 3) := by decide +kernel
theorem dX3_doesPlain_113 : decode cX3_doesPlain 113 = .ok (.invokevirtual 36, 3) := by decide +kernel
theorem dX3_doesPlain_116 : decode cX3_doesPlain 116 = .ok (.iload_n 2, 1) := by decide +kernel
theorem dX3_doesPlain_117 : decode cX3_doesPlain 117 = .ok (.if_icmp .ne 7, 3) := by decide +kernel
theorem dX3_doesPlain_120 : decode cX3_doesPlain 120 = .ok (.iconst 1, 1) := by decide +kernel
theorem dX3_doesPlain_121 : decode cX3_doesPlain 121 = .ok (.goto 4, 3) := by decide +kernel
theorem dX3_doesPlain_124 : decode cX3_doesPlain 124 = .ok (.iconst 0, 1) := by decide +kernel
theorem dX3_doesPlain_125 : decode cX3_doesPlain 125 = .ok (.ireturn, 1) := by decide +kernel
theorem dX3_doesPlain_126 : decode cX3_doesPlain 126 = .ok (.iconst 0, 1) := by decide +kernel
theorem dX3_doesPlain_127 : decode cX3_doesPlain 127 = .ok (.ireturn, 1) := by decide +kernel
theorem dX3_lossOverOrders_0 : decode cX3_lossOverOrders 0 = .ok (.aload_n 0, 1) := by decide +kernel
theorem dX3_lossOverOrders_1 : decode cX3_lossOverOrders 1 = .ok (.getfield 15, 3) := by decide +kernel
theorem dX3_lossOverOrders_4 : decode cX3_lossOverOrders 4 = .ok (.invokevirtual 46, 3) := by decide +kernel
theorem dX3_lossOverOrders_7 : decode cX3_lossOverOrders 7 = .ok (.istore_n 2, 1) := by decide +kernel
theorem dX3_lossOverOrders_8 : decode cX3_lossOverOrders 8 = .ok (.iconst 0, 1) := by decide +kernel
theorem dX3_lossOverOrders_9 : decode cX3_lossOverOrders 9 = .ok (.istore_n 3, 1) := by decide +kernel
theorem dX3_lossOverOrders_10 : decode cX3_lossOverOrders 10 = .ok (.iconst 0, 1) := by decide +kernel
theorem dX3_lossOverOrders_11 : decode cX3_lossOverOrders 11 = .ok (.istore 4, 2) := by decide +kernel
theorem dX3_lossOverOrders_13 : decode cX3_lossOverOrders 13 = .ok (.iload 4, 2) := by decide +kernel
theorem dX3_lossOverOrders_15 : decode cX3_lossOverOrders 15 = .ok (.iconst 1, 1) := by decide +kernel
theorem dX3_lossOverOrders_16 : decode cX3_lossOverOrders 16 = .ok (.iload_n 2, 1) := by decide +kernel
theorem dX3_lossOverOrders_17 : decode cX3_lossOverOrders 17 = .ok (.ishl, 1) := by decide +kernel
theorem dX3_lossOverOrders_18 : decode cX3_lossOverOrders 18 = .ok (.if_icmp .ge 65, 3) := by decide +kernel
theorem dX3_lossOverOrders_21 : decode cX3_lossOverOrders 21 = .ok (.iload 4, 2) := by decide +kernel
theorem dX3_lossOverOrders_23 : decode cX3_lossOverOrders 23 = .ok (.iload_n 1, 1) := by decide +kernel
theorem dX3_lossOverOrders_24 : decode cX3_lossOverOrders 24 = .ok (.ishr, 1) := by decide +kernel
theorem dX3_lossOverOrders_25 : decode cX3_lossOverOrders 25 = .ok (.iconst 1, 1) := by decide +kernel
theorem dX3_lossOverOrders_26 : decode cX3_lossOverOrders 26 = .ok (.iand, 1) := by decide +kernel
theorem dX3_lossOverOrders_27 : decode cX3_lossOverOrders 27 = .ok (.ifCond .ne 50, 3) := by decide +kernel
theorem dX3_lossOverOrders_30 : decode cX3_lossOverOrders 30 = .ok (.iload 4, 2) := by decide +kernel
theorem dX3_lossOverOrders_32 : decode cX3_lossOverOrders 32 = .ok (.invokestatic 106, 3) := by decide +kernel
theorem dX3_lossOverOrders_35 : decode cX3_lossOverOrders 35 = .ok (.istore 5, 2) := by decide +kernel
theorem dX3_lossOverOrders_37 : decode cX3_lossOverOrders 37 = .ok (.iload 5, 2) := by decide +kernel
theorem dX3_lossOverOrders_39 : decode cX3_lossOverOrders 39 = .ok (.invokestatic 111, 3) := by decide +kernel
theorem dX3_lossOverOrders_42 : decode cX3_lossOverOrders 42 = .ok (.iload_n 2, 1) := by decide +kernel
theorem dX3_lossOverOrders_43 : decode cX3_lossOverOrders 43 = .ok (.iconst 1, 1) := by decide +kernel
theorem dX3_lossOverOrders_44 : decode cX3_lossOverOrders 44 = .ok (.isub, 1) := by decide +kernel
theorem dX3_lossOverOrders_45 : decode cX3_lossOverOrders 45 = .ok (.iload 5, 2) := by decide +kernel
end
section
theorem dX3_lossOverOrders_47 : decode cX3_lossOverOrders 47 = .ok (.isub, 1) := by decide +kernel
theorem dX3_lossOverOrders_48 : decode cX3_lossOverOrders 48 = .ok (.invokestatic 111, 3) := by decide +kernel
theorem dX3_lossOverOrders_51 : decode cX3_lossOverOrders 51 = .ok (.imul, 1) := by decide +kernel
theorem dX3_lossOverOrders_52 : decode cX3_lossOverOrders 52 = .ok (.istore 6, 2) := by decide +kernel
theorem dX3_lossOverOrders_54 : decode cX3_lossOverOrders 54 = .ok (.iload_n 3, 1) := by decide +kernel
theorem dX3_lossOverOrders_55 : decode cX3_lossOverOrders 55 = .ok (.iload 6, 2) := by decide +kernel
theorem dX3_lossOverOrders_57 : decode cX3_lossOverOrders 57 = .ok (.aload_n 0, 1) := by decide +kernel
theorem dX3_lossOverOrders_58 : decode cX3_lossOverOrders 58 = .ok (.iload 4, 2) := by decide +kernel
theorem dX3_lossOverOrders_60 : decode cX3_lossOverOrders 60 = .ok (.invokevirtual 114, 3) := by decide +kernel
theorem dX3_lossOverOrders_63 : decode cX3_lossOverOrders 63 = .ok (.aload_n 0, 1) := by decide +kernel
theorem dX3_lossOverOrders_64 : decode cX3_lossOverOrders 64 = .ok (.iload 4, 2) := by decide +kernel
theorem dX3_lossOverOrders_66 : decode cX3_lossOverOrders 66 = .ok (.iconst 1, 1) := by decide +kernel
theorem dX3_lossOverOrders_67 : decode cX3_lossOverOrders 67 = .ok (.iload_n 1, 1) := by decide +kernel
theorem dX3_lossOverOrders_68 : decode cX3_lossOverOrders 68 = .ok (.ishl, 1) := by decide +kernel
theorem dX3_lossOverOrders_69 : decode cX3_lossOverOrders 69 = .ok (.ior, 1) := by decide +kernel
theorem dX3_lossOverOrders_70 : decode cX3_lossOverOrders 70 = .ok (.invokevirtual 114, 3) := by decide +kernel
theorem dX3_lossOverOrders_73 : decode cX3_lossOverOrders 73 = .ok (.isub, 1) := by decide +kernel
theorem dX3_lossOverOrders_74 : decode cX3_lossOverOrders 74 = .ok (.imul, 1) := by decide +kernel
theorem dX3_lossOverOrders_75 : decode cX3_lossOverOrders 75 = .ok (.iadd, 1) := by decide +kernel
theorem dX3_lossOverOrders_76 : decode cX3_lossOverOrders 76 = .ok (.istore_n 3, 1) := by decide +kernel
theorem dX3_lossOverOrders_77 : decode cX3_lossOverOrders 77 = .ok (.iinc 4 1, 3) := by decide +kernel
theorem dX3_lossOverOrders_80 : decode cX3_lossOverOrders 80 = .ok (.goto (-67), 3) := by decide +kernel
theorem dX3_lossOverOrders_83 : decode cX3_lossOverOrders 83 = .ok (.iload_n 3, 1) := by decide +kernel
theorem dX3_lossOverOrders_84 : decode cX3_lossOverOrders 84 = .ok (.ireturn, 1) := by decide +kernel
theorem dX3_mileOfSome_0 : decode cX3_mileOfSome 0 = .ok (.iload_n 1, 1) := by decide +kernel
theorem dX3_mileOfSome_1 : decode cX3_mileOfSome 1 = .ok (.ifCond .ne 11, 3) := by decide +kernel
theorem dX3_mileOfSome_4 : decode cX3_mileOfSome 4 = .ok (.aload_n 0, 1) := by decide +kernel
theorem dX3_mileOfSome_5 : decode cX3_mileOfSome 5 = .ok (.getfield 15, 3) := by decide +kernel
theorem dX3_mileOfSome_8 : decode cX3_mileOfSome 8 = .ok (.invokevirtual 117, 3) := by decide +kernel
theorem dX3_mileOfSome_11 : decode cX3_mileOfSome 11 = .ok (.ireturn, 1) := by decide +kernel
theorem dX3_mileOfSome_12 : decode cX3_mileOfSome 12 = .ok (.aload_n 0, 1) := by decide +kernel
theorem dX3_mileOfSome_13 : decode cX3_mileOfSome 13 = .ok (.getfield 19, 3) := by decide +kernel
theorem dX3_mileOfSome_16 : decode cX3_mileOfSome 16 = .ok (.aload_n 0, 1) := by decide +kernel
theorem dX3_mileOfSome_17 : decode cX3_mileOfSome 17 = .ok (.getfield 15, 3) := by decide +kernel
theorem dX3_mileOfSome_20 : decode cX3_mileOfSome 20 = .ok (.iload_n 1, 1) := by decide +kernel
theorem dX3_mileOfSome_21 : decode cX3_mileOfSome 21 = .ok (.invokevirtual 120, 3) := by decide +kernel
theorem dX3_mileOfSome_24 : decode cX3_mileOfSome 24 = .ok (.aload_n 0, 1) := by decide +kernel
theorem dX3_mileOfSome_25 : decode cX3_mileOfSome 25 = .ok (.getfield 19, 3) := by decide +kernel
theorem dX3_mileOfSome_28 : decode cX3_mileOfSome 28 = .ok (.iconst 5, 1) := by decide +kernel
theorem dX3_mileOfSome_29 : decode cX3_mileOfSome 29 = .ok (.invokevirtual 28, 3) := by decide +kernel
theorem dX3_mileOfSome_32 : decode cX3_mileOfSome 32 = .ok (.aload_n 0, 1) := by decide +kernel
theorem dX3_mileOfSome_33 : decode cX3_mileOfSome 33 = .ok (.getfield 19, 3) := by decide +kernel
theorem dX3_mileOfSome_36 : decode cX3_mileOfSome 36 = .ok (.invokevirtual 32, 3) := by decide +kernel
theorem dX3_mileOfSome_39 : decode cX3_mileOfSome 39 = .ok (.ireturn, 1) := by decide +kernel
theorem dX4_init_0 : decode cX4_init 0 = .ok (.aload_n 0, 1) := by decide +kernel
theorem dX4_init_1 : decode cX4_init 1 = .ok (.invokespecial 3, 3) := by decide +kernel
theorem dX4_init_4 : decode cX4_init 4 = .ok (.aload_n 0, 1) := by decide +kernel
theorem dX4_init_5 : decode cX4_init 5 = .ok (.bipush 8, 2) := by decide +kernel
theorem dX4_init_7 : decode cX4_init 7 = .ok (.newarray .int, 2) := by decide +kernel
theorem dX4_init_9 : decode cX4_init 9 = .ok (.putfield 9, 3) := by decide +kernel
theorem dX4_init_12 : decode cX4_init 12 = .ok (.aload_n 0, 1) := by decide +kernel
theorem dX4_init_13 : decode cX4_init 13 = .ok (.bipush 8, 2) := by decide +kernel
theorem dX4_init_15 : decode cX4_init 15 = .ok (.newarray .int, 2) := by decide +kernel
theorem dX4_init_17 : decode cX4_init 17 = .ok (.putfield 15, 3) := by decide +kernel
theorem dX4_init_20 : decode cX4_init 20 = .ok (.aload_n 0, 1) := by decide +kernel
theorem dX4_init_21 : decode cX4_init 21 = .ok (.bipush 8, 2) := by decide +kernel
theorem dX4_init_23 : decode cX4_init 23 = .ok (.newarray .int, 2) := by decide +kernel
theorem dX4_init_25 : decode cX4_init 25 = .ok (.putfield 18, 3) := by decide +kernel
theorem dX4_init_28 : decode cX4_init 28 = .ok (.aload_n 0, 1) := by decide +kernel
theorem dX4_init_29 : decode cX4_init 29 = .ok (.bipush 72, 2) := by decide +kernel
theorem dX4_init_31 : decode cX4_init 31 = .ok (.newarray .int, 2) := by decide +kernel
theorem dX4_init_33 : decode cX4_init 33 = .ok (.putfield 21, 3) := by decide +kernel
theorem dX4_init_36 : decode cX4_init 36 = .ok (.return_, 1) := by decide +kernel
theorem dX4_count_0 : decode cX4_count 0 = .ok (.aload_n 0, 1) := by decide +kernel
theorem dX4_count_1 : decode cX4_count 1 = .ok (.getfield 24, 3) := by decide +kernel
theorem dX4_count_4 : decode cX4_count 4 = .ok (.ireturn, 1) := by decide +kernel
theorem dX4_end_0 : decode cX4_end 0 = .ok (.aload_n 0, 1) := by decide +kernel
theorem dX4_end_1 : decode cX4_end 1 = .ok (.getfield 28, 3) := by decide +kernel
theorem dX4_end_4 : decode cX4_end 4 = .ok (.ireturn, 1) := by decide +kernel
theorem dX4_empty_0 : decode cX4_empty 0 = .ok (.aload_n 0, 1) := by decide +kernel
theorem dX4_empty_1 : decode cX4_empty 1 = .ok (.iconst 0, 1) := by decide +kernel
theorem dX4_empty_2 : decode cX4_empty 2 = .ok (.putfield 24, 3) := by decide +kernel
theorem dX4_empty_5 : decode cX4_empty 5 = .ok (.aload_n 0, 1) := by decide +kernel
theorem dX4_empty_6 : decode cX4_empty 6 = .ok (.iconst 0, 1) := by decide +kernel
theorem dX4_empty_7 : decode cX4_empty 7 = .ok (.putfield 28, 3) := by decide +kernel
theorem dX4_empty_10 : decode cX4_empty 10 = .ok (.return_, 1) := by decide +kernel
theorem dX4_add_0 : decode cX4_add 0 = .ok (.aload_n 0, 1) := by decide +kernel
theorem dX4_add_1 : decode cX4_add 1 = .ok (.getfield 24, 3) := by decide +kernel
theorem dX4_add_4 : decode cX4_add 4 = .ok (.ifCond .lt 12, 3) := by decide +kernel
theorem dX4_add_7 : decode cX4_add 7 = .ok (.aload_n 0, 1) := by decide +kernel
theorem dX4_add_8 : decode cX4_add 8 = .ok (.getfield 24, 3) := by decide +kernel
theorem dX4_add_11 : decode cX4_add 11 = .ok (.bipush 8, 2) := by decide +kernel
theorem dX4_add_13 : decode cX4_add 13 = .ok (.if_icmp .lt 4, 3) := by decide +kernel
theorem dX4_add_16 : decode cX4_add 16 = .ok (.return_, 1) := by decide +kernel
theorem dX4_add_17 : decode cX4_add 17 = .ok (.aload_n 0, 1) := by decide +kernel
theorem dX4_add_18 : decode cX4_add 18 = .ok (.getfield 9, 3) := by decide +kernel
theorem dX4_add_21 : decode cX4_add 21 = .ok (.aload_n 0, 1) := by decide +kernel
theorem dX4_add_22 : decode cX4_add 22 = .ok (.getfield 24, 3) := by decide +kernel
theorem dX4_add_25 : decode cX4_add 25 = .ok (.iload_n 1, 1) := by decide +kernel
theorem dX4_add_26 : decode cX4_add 26 = .ok (.iastore, 1) := by decide +kernel
theorem dX4_add_27 : decode cX4_add 27 = .ok (.aload_n 0, 1) := by decide +kernel
theorem dX4_add_28 : decode cX4_add 28 = .ok (.getfield 15, 3) := by decide +kernel
theorem dX4_add_31 : decode cX4_add 31 = .ok (.aload_n 0, 1) := by decide +kernel
theorem dX4_add_32 : decode cX4_add 32 = .ok (.getfield 24, 3) := by decide +kernel
theorem dX4_add_35 : decode cX4_add 35 = .ok (.iload_n 2, 1) := by decide +kernel
theorem dX4_add_36 : decode cX4_add 36 = .ok (.iastore, 1) := by decide +kernel
theorem dX4_add_37 : decode cX4_add 37 = .ok (.aload_n 0, 1) := by decide +kernel
theorem dX4_add_38 : decode cX4_add 38 = .ok (.getfield 18, 3) := by decide +kernel
theorem dX4_add_41 : decode cX4_add 41 = .ok (.aload_n 0, 1) := by decide +kernel
theorem dX4_add_42 : decode cX4_add 42 = .ok (.getfield 24, 3) := by decide +kernel
theorem dX4_add_45 : decode cX4_add 45 = .ok (.aload_n 0, 1) := by decide +kernel
theorem dX4_add_46 : decode cX4_add 46 = .ok (.getfield 28, 3) := by decide +kernel
theorem dX4_add_49 : decode cX4_add 49 = .ok (.iastore, 1) := by decide +kernel
theorem dX4_add_50 : decode cX4_add 50 = .ok (.iconst 0, 1) := by decide +kernel
theorem dX4_add_51 : decode cX4_add 51 = .ok (.istore_n 3, 1) := by decide +kernel
theorem dX4_add_52 : decode cX4_add 52 = .ok (.iload_n 3, 1) := by decide +kernel
theorem dX4_add_53 : decode cX4_add 53 = .ok (.iload_n 1, 1) := by decide +kernel
theorem dX4_add_54 : decode cX4_add 54 = .ok (.if_icmp .ge 51, 3) := by decide +kernel
theorem dX4_add_57 : decode cX4_add 57 = .ok (.aload_n 0, 1) := by decide +kernel
theorem dX4_add_58 : decode cX4_add 58 = .ok (.getfield 28, 3) := by decide +kernel
theorem dX4_add_61 : decode cX4_add 61 = .ok (.ifCond .lt 44, 3) := by decide +kernel
theorem dX4_add_64 : decode cX4_add 64 = .ok (.aload_n 0, 1) := by decide +kernel
theorem dX4_add_65 : decode cX4_add 65 = .ok (.getfield 28, 3) := by decide +kernel
theorem dX4_add_68 : decode cX4_add 68 = .ok (.aload_n 0, 1) := by decide +kernel
theorem dX4_add_69 : decode cX4_add 69 = .ok (.getfield 21, 3) := by decide +kernel
theorem dX4_add_72 : decode cX4_add 72 = .ok (.arraylength, 1) := by decide +kernel
theorem dX4_add_73 : decode cX4_add 73 = .ok (.if_icmp .ge 32, 3) := by decide +kernel
theorem dX4_add_76 : decode cX4_add 76 = .ok (.aload_n 0, 1) := by decide +kernel
theorem dX4_add_77 : decode cX4_add 77 = .ok (.getfield 21, 3) := by decide +kernel
theorem dX4_add_80 : decode cX4_add 80 = .ok (.aload_n 0, 1) := by decide +kernel
theorem dX4_add_81 : decode cX4_add 81 = .ok (.getfield 28, 3) := by decide +kernel
theorem dX4_add_84 : decode cX4_add 84 = .ok (.aload_n 0, 1) := by decide +kernel
theorem dX4_add_85 : decode cX4_add 85 = .ok (.getfield 24, 3) := by decide +kernel
theorem dX4_add_88 : decode cX4_add 88 = .ok (.iastore, 1) := by decide +kernel
theorem dX4_add_89 : decode cX4_add 89 = .ok (.aload_n 0, 1) := by decide +kernel
theorem dX4_add_90 : decode cX4_add 90 = .ok (.dup, 1) := by decide +kernel
theorem dX4_add_91 : decode cX4_add 91 = .ok (.getfield 28, 3) := by decide +kernel
theorem dX4_add_94 : decode cX4_add 94 = .ok (.iconst 1, 1) := by decide +kernel
theorem dX4_add_95 : decode cX4_add 95 = .ok (.iadd, 1) := by decide +kernel
theorem dX4_add_96 : decode cX4_add 96 = .ok (.putfield 28, 3) := by decide +kernel
theorem dX4_add_99 : decode cX4_add 99 = .ok (.iinc 3 1, 3) := by decide +kernel
theorem dX4_add_102 : decode cX4_add 102 = .ok (.goto (-50), 3) := by decide +kernel
theorem dX4_add_105 : decode cX4_add 105 = .ok (.aload_n 0, 1) := by decide +kernel
theorem dX4_add_106 : decode cX4_add 106 = .ok (.dup, 1) := by decide +kernel
theorem dX4_add_107 : decode cX4_add 107 = .ok (.getfield 24, 3) := by decide +kernel
theorem dX4_add_110 : decode cX4_add 110 = .ok (.iconst 1, 1) := by decide +kernel
theorem dX4_add_111 : decode cX4_add 111 = .ok (.iadd, 1) := by decide +kernel
theorem dX4_add_112 : decode cX4_add 112 = .ok (.putfield 24, 3) := by decide +kernel
theorem dX4_add_115 : decode cX4_add 115 = .ok (.return_, 1) := by decide +kernel
theorem dX4_has_0 : decode cX4_has 0 = .ok (.iload_n 1, 1) := by decide +kernel
theorem dX4_has_1 : decode cX4_has 1 = .ok (.ifCond .lt 21, 3) := by decide +kernel
theorem dX4_has_4 : decode cX4_has 4 = .ok (.iload_n 1, 1) := by decide +kernel
theorem dX4_has_5 : decode cX4_has 5 = .ok (.aload_n 0, 1) := by decide +kernel
theorem dX4_has_6 : decode cX4_has 6 = .ok (.getfield 24, 3) := by decide +kernel
theorem dX4_has_9 : decode cX4_has 9 = .ok (.if_icmp .ge 13, 3) := by decide +kernel
theorem dX4_has_12 : decode cX4_has 12 = .ok (.iload_n 1, 1) := by decide +kernel
theorem dX4_has_13 : decode cX4_has 13 = .ok (.bipush 8, 2) := by decide +kernel
theorem dX4_has_15 : decode cX4_has 15 = .ok (.if_icmp .ge 7, 3) := by decide +kernel
theorem dX4_has_18 : decode cX4_has 18 = .ok (.iconst 1, 1) := by decide +kernel
theorem dX4_has_19 : decode cX4_has 19 = .ok (.goto 4, 3) := by decide +kernel
theorem dX4_has_22 : decode cX4_has 22 = .ok (.iconst 0, 1) := by decide +kernel
theorem dX4_has_23 : decode cX4_has 23 = .ok (.ireturn, 1) := by decide +kernel
theorem dX4_milesOf_0 : decode cX4_milesOf 0 = .ok (.aload_n 0, 1) := by decide +kernel
theorem dX4_milesOf_1 : decode cX4_milesOf 1 = .ok (.iload_n 1, 1) := by decide +kernel
theorem dX4_milesOf_2 : decode cX4_milesOf 2 = .ok (.invokevirtual 31, 3) := by decide +kernel
theorem dX4_milesOf_5 : decode cX4_milesOf 5 = .ok (.ifCond .eq 12, 3) := by decide +kernel
theorem dX4_milesOf_8 : decode cX4_milesOf 8 = .ok (.aload_n 0, 1) := by decide +kernel
theorem dX4_milesOf_9 : decode cX4_milesOf 9 = .ok (.getfield 9, 3) := by decide +kernel
theorem dX4_milesOf_12 : decode cX4_milesOf 12 = .ok (.iload_n 1, 1) := by decide +kernel
theorem dX4_milesOf_13 : decode cX4_milesOf 13 = .ok (.iaload, 1) := by decide +kernel
theorem dX4_milesOf_14 : decode cX4_milesOf 14 = .ok (.goto 4, 3) := by decide +kernel
theorem dX4_milesOf_17 : decode cX4_milesOf 17 = .ok (.iconst 0, 1) := by decide +kernel
theorem dX4_milesOf_18 : decode cX4_milesOf 18 = .ok (.ireturn, 1) := by decide +kernel
theorem dX4_groundOf_0 : decode cX4_groundOf 0 = .ok (.iload_n 1, 1) := by decide +kernel
theorem dX4_groundOf_1 : decode cX4_groundOf 1 = .ok (.ifCond .lt 29, 3) := by decide +kernel
theorem dX4_groundOf_4 : decode cX4_groundOf 4 = .ok (.iload_n 1, 1) := by decide +kernel
theorem dX4_groundOf_5 : decode cX4_groundOf 5 = .ok (.aload_n 0, 1) := by decide +kernel
theorem dX4_groundOf_6 : decode cX4_groundOf 6 = .ok (.getfield 24, 3) := by decide +kernel
theorem dX4_groundOf_9 : decode cX4_groundOf 9 = .ok (.if_icmp .ge 21, 3) := by decide +kernel
theorem dX4_groundOf_12 : decode cX4_groundOf 12 = .ok (.iload_n 1, 1) := by decide +kernel
theorem dX4_groundOf_13 : decode cX4_groundOf 13 = .ok (.aload_n 0, 1) := by decide +kernel
theorem dX4_groundOf_14 : decode cX4_groundOf 14 = .ok (.getfield 15, 3) := by decide +kernel
theorem dX4_groundOf_17 : decode cX4_groundOf 17 = .ok (.arraylength, 1) := by decide +kernel
theorem dX4_groundOf_18 : decode cX4_groundOf 18 = .ok (.if_icmp .ge 12, 3) := by decide +kernel
theorem dX4_groundOf_21 : decode cX4_groundOf 21 = .ok (.aload_n 0, 1) := by decide +kernel
theorem dX4_groundOf_22 : decode cX4_groundOf 22 = .ok (.getfield 15, 3) := by decide +kernel
theorem dX4_groundOf_25 : decode cX4_groundOf 25 = .ok (.iload_n 1, 1) := by decide +kernel
theorem dX4_groundOf_26 : decode cX4_groundOf 26 = .ok (.iaload, 1) := by decide +kernel
theorem dX4_groundOf_27 : decode cX4_groundOf 27 = .ok (.goto 5, 3) := by decide +kernel
theorem dX4_groundOf_30 : decode cX4_groundOf 30 = .ok (.bipush (-9), 2) := by decide +kernel
theorem dX4_groundOf_32 : decode cX4_groundOf 32 = .ok (.ireturn, 1) := by decide +kernel
theorem dX4_beginOf_0 : decode cX4_beginOf 0 = .ok (.aload_n 0, 1) := by decide +kernel
theorem dX4_beginOf_1 : decode cX4_beginOf 1 = .ok (.iload_n 1, 1) := by decide +kernel
theorem dX4_beginOf_2 : decode cX4_beginOf 2 = .ok (.invokevirtual 31, 3) := by decide +kernel
theorem dX4_beginOf_5 : decode cX4_beginOf 5 = .ok (.ifCond .eq 12, 3) := by decide +kernel
theorem dX4_beginOf_8 : decode cX4_beginOf 8 = .ok (.aload_n 0, 1) := by decide +kernel
theorem dX4_beginOf_9 : decode cX4_beginOf 9 = .ok (.getfield 18, 3) := by decide +kernel
theorem dX4_beginOf_12 : decode cX4_beginOf 12 = .ok (.iload_n 1, 1) := by decide +kernel
theorem dX4_beginOf_13 : decode cX4_beginOf 13 = .ok (.iaload, 1) := by decide +kernel
theorem dX4_beginOf_14 : decode cX4_beginOf 14 = .ok (.goto 4, 3) := by decide +kernel
theorem dX4_beginOf_17 : decode cX4_beginOf 17 = .ok (.iconst 0, 1) := by decide +kernel
theorem dX4_beginOf_18 : decode cX4_beginOf 18 = .ok (.ireturn, 1) := by decide +kernel
theorem dX4_stretchAt_0 : decode cX4_stretchAt 0 = .ok (.iload_n 1, 1) := by decide +kernel
theorem dX4_stretchAt_1 : decode cX4_stretchAt 1 = .ok (.ifCond .lt 29, 3) := by decide +kernel
theorem dX4_stretchAt_4 : decode cX4_stretchAt 4 = .ok (.iload_n 1, 1) := by decide +kernel
theorem dX4_stretchAt_5 : decode cX4_stretchAt 5 = .ok (.aload_n 0, 1) := by decide +kernel
theorem dX4_stretchAt_6 : decode cX4_stretchAt 6 = .ok (.getfield 28, 3) := by decide +kernel
theorem dX4_stretchAt_9 : decode cX4_stretchAt 9 = .ok (.if_icmp .ge 21, 3) := by decide +kernel
theorem dX4_stretchAt_12 : decode cX4_stretchAt 12 = .ok (.iload_n 1, 1) := by decide +kernel
theorem dX4_stretchAt_13 : decode cX4_stretchAt 13 = .ok (.aload_n 0, 1) := by decide +kernel
theorem dX4_stretchAt_14 : decode cX4_stretchAt 14 = .ok (.getfield 21, 3) := by decide +kernel
theorem dX4_stretchAt_17 : decode cX4_stretchAt 17 = .ok (.arraylength, 1) := by decide +kernel
theorem dX4_stretchAt_18 : decode cX4_stretchAt 18 = .ok (.if_icmp .ge 12, 3) := by decide +kernel
theorem dX4_stretchAt_21 : decode cX4_stretchAt 21 = .ok (.aload_n 0, 1) := by decide +kernel
theorem dX4_stretchAt_22 : decode cX4_stretchAt 22 = .ok (.getfield 21, 3) := by decide +kernel
theorem dX4_stretchAt_25 : decode cX4_stretchAt 25 = .ok (.iload_n 1, 1) := by decide +kernel
theorem dX4_stretchAt_26 : decode cX4_stretchAt 26 = .ok (.iaload, 1) := by decide +kernel
theorem dX4_stretchAt_27 : decode cX4_stretchAt 27 = .ok (.goto 5, 3) := by decide +kernel
theorem dX4_stretchAt_30 : decode cX4_stretchAt 30 = .ok (.bipush (-9), 2) := by decide +kernel
theorem dX4_stretchAt_32 : decode cX4_stretchAt 32 = .ok (.ireturn, 1) := by decide +kernel
theorem dX5_init_0 : decode cX5_init 0 = .ok (.aload_n 0, 1) := by decide +kernel
theorem dX5_init_1 : decode cX5_init 1 = .ok (.invokespecial 3, 3) := by decide +kernel
theorem dX5_init_4 : decode cX5_init 4 = .ok (.aload_n 0, 1) := by decide +kernel
theorem dX5_init_5 : decode cX5_init 5 = .ok (.bipush 48, 2) := by decide +kernel
theorem dX5_init_7 : decode cX5_init 7 = .ok (.newarray .int, 2) := by decide +kernel
theorem dX5_init_9 : decode cX5_init 9 = .ok (.putfield 9, 3) := by decide +kernel
theorem dX5_init_12 : decode cX5_init 12 = .ok (.return_, 1) := by decide +kernel
theorem dX5_size_0 : decode cX5_size 0 = .ok (.aload_n 0, 1) := by decide +kernel
theorem dX5_size_1 : decode cX5_size 1 = .ok (.getfield 15, 3) := by decide +kernel
theorem dX5_size_4 : decode cX5_size 4 = .ok (.ireturn, 1) := by decide +kernel
theorem dX5_empty_0 : decode cX5_empty 0 = .ok (.aload_n 0, 1) := by decide +kernel
theorem dX5_empty_1 : decode cX5_empty 1 = .ok (.iconst 0, 1) := by decide +kernel
theorem dX5_empty_2 : decode cX5_empty 2 = .ok (.putfield 15, 3) := by decide +kernel
theorem dX5_empty_5 : decode cX5_empty 5 = .ok (.return_, 1) := by decide +kernel
theorem dX5_append_0 : decode cX5_append 0 = .ok (.aload_n 0, 1) := by decide +kernel
theorem dX5_append_1 : decode cX5_append 1 = .ok (.getfield 15, 3) := by decide +kernel
theorem dX5_append_4 : decode cX5_append 4 = .ok (.ifCond .lt 35, 3) := by decide +kernel
theorem dX5_append_7 : decode cX5_append 7 = .ok (.aload_n 0, 1) := by decide +kernel
theorem dX5_append_8 : decode cX5_append 8 = .ok (.getfield 15, 3) := by decide +kernel
theorem dX5_append_11 : decode cX5_append 11 = .ok (.aload_n 0, 1) := by decide +kernel
theorem dX5_append_12 : decode cX5_append 12 = .ok (.getfield 9, 3) := by decide +kernel
theorem dX5_append_15 : decode cX5_append 15 = .ok (.arraylength, 1) := by decide +kernel
theorem dX5_append_16 : decode cX5_append 16 = .ok (.if_icmp .ge 23, 3) := by decide +kernel
theorem dX5_append_19 : decode cX5_append 19 = .ok (.aload_n 0, 1) := by decide +kernel
theorem dX5_append_20 : decode cX5_append 20 = .ok (.getfield 9, 3) := by decide +kernel
theorem dX5_append_23 : decode cX5_append 23 = .ok (.aload_n 0, 1) := by decide +kernel
theorem dX5_append_24 : decode cX5_append 24 = .ok (.getfield 15, 3) := by decide +kernel
theorem dX5_append_27 : decode cX5_append 27 = .ok (.iload_n 1, 1) := by decide +kernel
theorem dX5_append_28 : decode cX5_append 28 = .ok (.iastore, 1) := by decide +kernel
theorem dX5_append_29 : decode cX5_append 29 = .ok (.aload_n 0, 1) := by decide +kernel
theorem dX5_append_30 : decode cX5_append 30 = .ok (.dup, 1) := by decide +kernel
theorem dX5_append_31 : decode cX5_append 31 = .ok (.getfield 15, 3) := by decide +kernel
theorem dX5_append_34 : decode cX5_append 34 = .ok (.iconst 1, 1) := by decide +kernel
theorem dX5_append_35 : decode cX5_append 35 = .ok (.iadd, 1) := by decide +kernel
theorem dX5_append_36 : decode cX5_append 36 = .ok (.putfield 15, 3) := by decide +kernel
theorem dX5_append_39 : decode cX5_append 39 = .ok (.return_, 1) := by decide +kernel
theorem dX5_letterAt_0 : decode cX5_letterAt 0 = .ok (.iload_n 1, 1) := by decide +kernel
theorem dX5_letterAt_1 : decode cX5_letterAt 1 = .ok (.ifCond .lt 29, 3) := by decide +kernel
theorem dX5_letterAt_4 : decode cX5_letterAt 4 = .ok (.iload_n 1, 1) := by decide +kernel
theorem dX5_letterAt_5 : decode cX5_letterAt 5 = .ok (.aload_n 0, 1) := by decide +kernel
theorem dX5_letterAt_6 : decode cX5_letterAt 6 = .ok (.getfield 15, 3) := by decide +kernel
theorem dX5_letterAt_9 : decode cX5_letterAt 9 = .ok (.if_icmp .ge 21, 3) := by decide +kernel
theorem dX5_letterAt_12 : decode cX5_letterAt 12 = .ok (.iload_n 1, 1) := by decide +kernel
theorem dX5_letterAt_13 : decode cX5_letterAt 13 = .ok (.aload_n 0, 1) := by decide +kernel
theorem dX5_letterAt_14 : decode cX5_letterAt 14 = .ok (.getfield 9, 3) := by decide +kernel
theorem dX5_letterAt_17 : decode cX5_letterAt 17 = .ok (.arraylength, 1) := by decide +kernel
theorem dX5_letterAt_18 : decode cX5_letterAt 18 = .ok (.if_icmp .ge 12, 3) := by decide +kernel
theorem dX5_letterAt_21 : decode cX5_letterAt 21 = .ok (.aload_n 0, 1) := by decide +kernel
theorem dX5_letterAt_22 : decode cX5_letterAt 22 = .ok (.getfield 9, 3) := by decide +kernel
theorem dX5_letterAt_25 : decode cX5_letterAt 25 = .ok (.iload_n 1, 1) := by decide +kernel
theorem dX5_letterAt_26 : decode cX5_letterAt 26 = .ok (.iaload, 1) := by decide +kernel
theorem dX5_letterAt_27 : decode cX5_letterAt 27 = .ok (.goto 4, 3) := by decide +kernel
theorem dX5_letterAt_30 : decode cX5_letterAt 30 = .ok (.iconst (-1), 1) := by decide +kernel
theorem dX5_letterAt_31 : decode cX5_letterAt 31 = .ok (.ireturn, 1) := by decide +kernel
theorem dX5_figureAt_0 : decode cX5_figureAt 0 = .ok (.aload_n 0, 1) := by decide +kernel
theorem dX5_figureAt_1 : decode cX5_figureAt 1 = .ok (.iload_n 1, 1) := by decide +kernel
theorem dX5_figureAt_2 : decode cX5_figureAt 2 = .ok (.invokevirtual 19, 3) := by decide +kernel
theorem dX5_figureAt_5 : decode cX5_figureAt 5 = .ok (.bipush 48, 2) := by decide +kernel
theorem dX5_figureAt_7 : decode cX5_figureAt 7 = .ok (.isub, 1) := by decide +kernel
theorem dX5_figureAt_8 : decode cX5_figureAt 8 = .ok (.ireturn, 1) := by decide +kernel
theorem dX5_faultPlace_0 : decode cX5_faultPlace 0 = .ok (.aload_n 0, 1) := by decide +kernel
theorem dX5_faultPlace_1 : decode cX5_faultPlace 1 = .ok (.iconst 0, 1) := by decide +kernel
theorem dX5_faultPlace_2 : decode cX5_faultPlace 2 = .ok (.invokevirtual 19, 3) := by decide +kernel
theorem dX5_faultPlace_5 : decode cX5_faultPlace 5 = .ok (.bipush 65, 2) := by decide +kernel
theorem dX5_faultPlace_7 : decode cX5_faultPlace 7 = .ok (.if_icmp .eq 5, 3) := by decide +kernel
theorem dX5_faultPlace_10 : decode cX5_faultPlace 10 = .ok (.iconst 0, 1) := by decide +kernel
theorem dX5_faultPlace_11 : decode cX5_faultPlace 11 = .ok (.ireturn, 1) := by decide +kernel
theorem dX5_faultPlace_12 : decode cX5_faultPlace 12 = .ok (.iconst 0, 1) := by decide +kernel
theorem dX5_faultPlace_13 : decode cX5_faultPlace 13 = .ok (.istore_n 1, 1) := by decide +kernel
theorem dX5_faultPlace_14 : decode cX5_faultPlace 14 = .ok (.iconst 0, 1) := by decide +kernel
theorem dX5_faultPlace_15 : decode cX5_faultPlace 15 = .ok (.istore_n 2, 1) := by decide +kernel
theorem dX5_faultPlace_16 : decode cX5_faultPlace 16 = .ok (.iconst 1, 1) := by decide +kernel
theorem dX5_faultPlace_17 : decode cX5_faultPlace 17 = .ok (.istore_n 3, 1) := by decide +kernel
theorem dX5_faultPlace_18 : decode cX5_faultPlace 18 = .ok (.iconst 0, 1) := by decide +kernel
theorem dX5_faultPlace_19 : decode cX5_faultPlace 19 = .ok (.istore 4, 2) := by decide +kernel
theorem dX5_faultPlace_21 : decode cX5_faultPlace 21 = .ok (.iload 4, 2) := by decide +kernel
theorem dX5_faultPlace_23 : decode cX5_faultPlace 23 = .ok (.bipush 48, 2) := by decide +kernel
theorem dX5_faultPlace_25 : decode cX5_faultPlace 25 = .ok (.if_icmp .ge 115, 3) := by decide +kernel
theorem dX5_faultPlace_28 : decode cX5_faultPlace 28 = .ok (.iload_n 3, 1) := by decide +kernel
theorem dX5_faultPlace_29 : decode cX5_faultPlace 29 = .ok (.aload_n 0, 1) := by decide +kernel
theorem dX5_faultPlace_30 : decode cX5_faultPlace 30 = .ok (.getfield 15, 3) := by decide +kernel
theorem dX5_faultPlace_33 : decode cX5_faultPlace 33 = .ok (.if_icmp .ge 107, 3) := by decide +kernel
theorem dX5_faultPlace_36 : decode cX5_faultPlace 36 = .ok (.aload_n 0, 1) := by decide +kernel
theorem dX5_faultPlace_37 : decode cX5_faultPlace 37 = .ok (.iload_n 3, 1) := by decide +kernel
theorem dX5_faultPlace_38 : decode cX5_faultPlace 38 = .ok (.invokevirtual 19, 3) := by decide +kernel
theorem dX5_faultPlace_41 : decode cX5_faultPlace 41 = .ok (.bipush 83, 2) := by decide +kernel
theorem dX5_faultPlace_43 : decode cX5_faultPlace 43 = .ok (.if_icmp .ne 35, 3) := by decide +kernel
theorem dX5_faultPlace_46 : decode cX5_faultPlace 46 = .ok (.iload_n 1, 1) := by decide +kernel
theorem dX5_faultPlace_47 : decode cX5_faultPlace 47 = .ok (.bipush 8, 2) := by decide +kernel
theorem dX5_faultPlace_49 : decode cX5_faultPlace 49 = .ok (.if_icmp .ge 29, 3) := by decide +kernel
theorem dX5_faultPlace_52 : decode cX5_faultPlace 52 = .ok (.iinc 1 1, 3) := by decide +kernel
theorem dX5_faultPlace_55 : decode cX5_faultPlace 55 = .ok (.iload_n 3, 1) := by decide +kernel
theorem dX5_faultPlace_56 : decode cX5_faultPlace 56 = .ok (.iconst 3, 1) := by decide +kernel
theorem dX5_faultPlace_57 : decode cX5_faultPlace 57 = .ok (.iadd, 1) := by decide +kernel
theorem dX5_faultPlace_58 : decode cX5_faultPlace 58 = .ok (.istore 6, 2) := by decide +kernel
theorem dX5_faultPlace_60 : decode cX5_faultPlace 60 = .ok (.aload_n 0, 1) := by decide +kernel
theorem dX5_faultPlace_61 : decode cX5_faultPlace 61 = .ok (.iload_n 3, 1) := by decide +kernel
theorem dX5_faultPlace_62 : decode cX5_faultPlace 62 = .ok (.iconst 1, 1) := by decide +kernel
theorem dX5_faultPlace_63 : decode cX5_faultPlace 63 = .ok (.iadd, 1) := by decide +kernel
theorem dX5_faultPlace_64 : decode cX5_faultPlace 64 = .ok (.getstatic 23, 3) := by decide +kernel
theorem dX5_faultPlace_67 : decode cX5_faultPlace 67 = .ok (.getstatic 26, 3) := by decide +kernel
theorem dX5_faultPlace_70 : decode cX5_faultPlace 70 = .ok (.invokevirtual 29, 3) := by decide +kernel
theorem dX5_faultPlace_73 : decode cX5_faultPlace 73 = .ok (.istore 5, 2) := by decide +kernel
theorem dX5_faultPlace_75 : decode cX5_faultPlace 75 = .ok (.goto 46, 3) := by decide +kernel
theorem dX5_faultPlace_78 : decode cX5_faultPlace 78 = .ok (.aload_n 0, 1) := by decide +kernel
theorem dX5_faultPlace_79 : decode cX5_faultPlace 79 = .ok (.iload_n 3, 1) := by decide +kernel
theorem dX5_faultPlace_80 : decode cX5_faultPlace 80 = .ok (.invokevirtual 19, 3) := by decide +kernel
theorem dX5_faultPlace_83 : decode cX5_faultPlace 83 = .ok (.bipush 77, 2) := by decide +kernel
theorem dX5_faultPlace_85 : decode cX5_faultPlace 85 = .ok (.if_icmp .ne 34, 3) := by decide +kernel
theorem dX5_faultPlace_88 : decode cX5_faultPlace 88 = .ok (.iload_n 2, 1) := by decide +kernel
theorem dX5_faultPlace_89 : decode cX5_faultPlace 89 = .ok (.iconst 5, 1) := by decide +kernel
theorem dX5_faultPlace_90 : decode cX5_faultPlace 90 = .ok (.if_icmp .ge 29, 3) := by decide +kernel
theorem dX5_faultPlace_93 : decode cX5_faultPlace 93 = .ok (.iinc 2 1, 3) := by decide +kernel
theorem dX5_faultPlace_96 : decode cX5_faultPlace 96 = .ok (.iload_n 3, 1) := by decide +kernel
theorem dX5_faultPlace_97 : decode cX5_faultPlace 97 = .ok (.iconst 4, 1) := by decide +kernel
theorem dX5_faultPlace_98 : decode cX5_faultPlace 98 = .ok (.iadd, 1) := by decide +kernel
theorem dX5_faultPlace_99 : decode cX5_faultPlace 99 = .ok (.istore 6, 2) := by decide +kernel
theorem dX5_faultPlace_101 : decode cX5_faultPlace 101 = .ok (.aload_n 0, 1) := by decide +kernel
theorem dX5_faultPlace_102 : decode cX5_faultPlace 102 = .ok (.iload_n 3, 1) := by decide +kernel
theorem dX5_faultPlace_103 : decode cX5_faultPlace 103 = .ok (.iconst 1, 1) := by decide +kernel
theorem dX5_faultPlace_104 : decode cX5_faultPlace 104 = .ok (.iadd, 1) := by decide +kernel
theorem dX5_faultPlace_105 : decode cX5_faultPlace 105 = .ok (.getstatic 33, 3) := by decide +kernel
theorem dX5_faultPlace_108 : decode cX5_faultPlace 108 = .ok (.getstatic 36, 3) := by decide +kernel
theorem dX5_faultPlace_111 : decode cX5_faultPlace 111 = .ok (.invokevirtual 29, 3) := by decide +kernel
theorem dX5_faultPlace_114 : decode cX5_faultPlace 114 = .ok (.istore 5, 2) := by decide +kernel
theorem dX5_faultPlace_116 : decode cX5_faultPlace 116 = .ok (.goto 5, 3) := by decide +kernel
theorem dX5_faultPlace_119 : decode cX5_faultPlace 119 = .ok (.iload_n 3, 1) := by decide +kernel
theorem dX5_faultPlace_120 : decode cX5_faultPlace 120 = .ok (.ireturn, 1) := by decide +kernel
theorem dX5_faultPlace_121 : decode cX5_faultPlace 121 = .ok (.iload 5, 2) := by decide +kernel
theorem dX5_faultPlace_123 : decode cX5_faultPlace 123 = .ok (.bipush (-9), 2) := by decide +kernel
theorem dX5_faultPlace_125 : decode cX5_faultPlace 125 = .ok (.if_icmp .eq 6, 3) := by decide +kernel
theorem dX5_faultPlace_128 : decode cX5_faultPlace 128 = .ok (.iload 5, 2) := by decide +kernel
theorem dX5_faultPlace_130 : decode cX5_faultPlace 130 = .ok (.ireturn, 1) := by decide +kernel
theorem dX5_faultPlace_131 : decode cX5_faultPlace 131 = .ok (.iload 6, 2) := by decide +kernel
theorem dX5_faultPlace_133 : decode cX5_faultPlace 133 = .ok (.istore_n 3, 1) := by decide +kernel
theorem dX5_faultPlace_134 : decode cX5_faultPlace 134 = .ok (.iinc 4 1, 3) := by decide +kernel
theorem dX5_faultPlace_137 : decode cX5_faultPlace 137 = .ok (.goto (-116), 3) := by decide +kernel
theorem dX5_faultPlace_140 : decode cX5_faultPlace 140 = .ok (.bipush (-9), 2) := by decide +kernel
theorem dX5_faultPlace_142 : decode cX5_faultPlace 142 = .ok (.ireturn, 1) := by decide +kernel
theorem dX5_misfitFrom_0 : decode cX5_misfitFrom 0 = .ok (.iconst 0, 1) := by decide +kernel
theorem dX5_misfitFrom_1 : decode cX5_misfitFrom 1 = .ok (.istore 4, 2) := by decide +kernel
theorem dX5_misfitFrom_3 : decode cX5_misfitFrom 3 = .ok (.iload 4, 2) := by decide +kernel
theorem dX5_misfitFrom_5 : decode cX5_misfitFrom 5 = .ok (.aload_n 2, 1) := by decide +kernel
theorem dX5_misfitFrom_6 : decode cX5_misfitFrom 6 = .ok (.arraylength, 1) := by decide +kernel
theorem dX5_misfitFrom_7 : decode cX5_misfitFrom 7 = .ok (.if_icmp .ge 49, 3) := by decide +kernel
theorem dX5_misfitFrom_10 : decode cX5_misfitFrom 10 = .ok (.iload 4, 2) := by decide +kernel
theorem dX5_misfitFrom_12 : decode cX5_misfitFrom 12 = .ok (.aload_n 3, 1) := by decide +kernel
theorem dX5_misfitFrom_13 : decode cX5_misfitFrom 13 = .ok (.arraylength, 1) := by decide +kernel
theorem dX5_misfitFrom_14 : decode cX5_misfitFrom 14 = .ok (.if_icmp .ge 42, 3) := by decide +kernel
theorem dX5_misfitFrom_17 : decode cX5_misfitFrom 17 = .ok (.aload_n 0, 1) := by decide +kernel
theorem dX5_misfitFrom_18 : decode cX5_misfitFrom 18 = .ok (.iload_n 1, 1) := by decide +kernel
theorem dX5_misfitFrom_19 : decode cX5_misfitFrom 19 = .ok (.iload 4, 2) := by decide +kernel
theorem dX5_misfitFrom_21 : decode cX5_misfitFrom 21 = .ok (.iadd, 1) := by decide +kernel
theorem dX5_misfitFrom_22 : decode cX5_misfitFrom 22 = .ok (.invokevirtual 39, 3) := by decide +kernel
theorem dX5_misfitFrom_25 : decode cX5_misfitFrom 25 = .ok (.istore 5, 2) := by decide +kernel
theorem dX5_misfitFrom_27 : decode cX5_misfitFrom 27 = .ok (.iload 5, 2) := by decide +kernel
theorem dX5_misfitFrom_29 : decode cX5_misfitFrom 29 = .ok (.aload_n 2, 1) := by decide +kernel
theorem dX5_misfitFrom_30 : decode cX5_misfitFrom 30 = .ok (.iload 4, 2) := by decide +kernel
theorem dX5_misfitFrom_32 : decode cX5_misfitFrom 32 = .ok (.iaload, 1) := by decide +kernel
theorem dX5_misfitFrom_33 : decode cX5_misfitFrom 33 = .ok (.if_icmp .lt 12, 3) := by decide +kernel
theorem dX5_misfitFrom_36 : decode cX5_misfitFrom 36 = .ok (.iload 5, 2) := by decide +kernel
theorem dX5_misfitFrom_38 : decode cX5_misfitFrom 38 = .ok (.aload_n 3, 1) := by decide +kernel
theorem dX5_misfitFrom_39 : decode cX5_misfitFrom 39 = .ok (.iload 4, 2) := by decide +kernel
theorem dX5_misfitFrom_41 : decode cX5_misfitFrom 41 = .ok (.iaload, 1) := by decide +kernel
theorem dX5_misfitFrom_42 : decode cX5_misfitFrom 42 = .ok (.if_icmp .le 8, 3) := by decide +kernel
theorem dX5_misfitFrom_45 : decode cX5_misfitFrom 45 = .ok (.iload_n 1, 1) := by decide +kernel
theorem dX5_misfitFrom_46 : decode cX5_misfitFrom 46 = .ok (.iload 4, 2) := by decide +kernel
theorem dX5_misfitFrom_48 : decode cX5_misfitFrom 48 = .ok (.iadd, 1) := by decide +kernel
theorem dX5_misfitFrom_49 : decode cX5_misfitFrom 49 = .ok (.ireturn, 1) := by decide +kernel
theorem dX5_misfitFrom_50 : decode cX5_misfitFrom 50 = .ok (.iinc 4 1, 3) := by decide +kernel
theorem dX5_misfitFrom_53 : decode cX5_misfitFrom 53 = .ok (.goto (-50), 3) := by decide +kernel
theorem dX5_misfitFrom_56 : decode cX5_misfitFrom 56 = .ok (.bipush (-9), 2) := by decide +kernel
theorem dX5_misfitFrom_58 : decode cX5_misfitFrom 58 = .ok (.ireturn, 1) := by decide +kernel
theorem dX5_tell_0 : decode cX5_tell 0 = .ok (.aload_n 1, 1) := by decide +kernel
theorem dX5_tell_1 : decode cX5_tell 1 = .ok (.invokevirtual 42, 3) := by decide +kernel
theorem dX5_tell_4 : decode cX5_tell 4 = .ok (.aload_n 2, 1) := by decide +kernel
theorem dX5_tell_5 : decode cX5_tell 5 = .ok (.invokevirtual 47, 3) := by decide +kernel
theorem dX5_tell_8 : decode cX5_tell 8 = .ok (.iconst 1, 1) := by decide +kernel
theorem dX5_tell_9 : decode cX5_tell 9 = .ok (.istore_n 3, 1) := by decide +kernel
theorem dX5_tell_10 : decode cX5_tell 10 = .ok (.iconst 0, 1) := by decide +kernel
theorem dX5_tell_11 : decode cX5_tell 11 = .ok (.istore 4, 2) := by decide +kernel
theorem dX5_tell_13 : decode cX5_tell 13 = .ok (.iload 4, 2) := by decide +kernel
theorem dX5_tell_15 : decode cX5_tell 15 = .ok (.bipush 48, 2) := by decide +kernel
theorem dX5_tell_17 : decode cX5_tell 17 = .ok (.if_icmp .ge 79, 3) := by decide +kernel
theorem dX5_tell_20 : decode cX5_tell 20 = .ok (.iload_n 3, 1) := by decide +kernel
theorem dX5_tell_21 : decode cX5_tell 21 = .ok (.aload_n 0, 1) := by decide +kernel
theorem dX5_tell_22 : decode cX5_tell 22 = .ok (.getfield 15, 3) := by decide +kernel
theorem dX5_tell_25 : decode cX5_tell 25 = .ok (.if_icmp .ge 71, 3) := by decide +kernel
theorem dX5_tell_28 : decode cX5_tell 28 = .ok (.aload_n 0, 1) := by decide +kernel
theorem dX5_tell_29 : decode cX5_tell 29 = .ok (.iload_n 3, 1) := by decide +kernel
theorem dX5_tell_30 : decode cX5_tell 30 = .ok (.invokevirtual 19, 3) := by decide +kernel
theorem dX5_tell_33 : decode cX5_tell 33 = .ok (.bipush 83, 2) := by decide +kernel
theorem dX5_tell_35 : decode cX5_tell 35 = .ok (.if_icmp .ne 27, 3) := by decide +kernel
theorem dX5_tell_38 : decode cX5_tell 38 = .ok (.aload_n 1, 1) := by decide +kernel
theorem dX5_tell_39 : decode cX5_tell 39 = .ok (.aload_n 0, 1) := by decide +kernel
theorem dX5_tell_40 : decode cX5_tell 40 = .ok (.iload_n 3, 1) := by decide +kernel
theorem dX5_tell_41 : decode cX5_tell 41 = .ok (.iconst 1, 1) := by decide +kernel
theorem dX5_tell_42 : decode cX5_tell 42 = .ok (.iadd, 1) := by decide +kernel
theorem dX5_tell_43 : decode cX5_tell 43 = .ok (.invokevirtual 39, 3) := by decide +kernel
theorem dX5_tell_46 : decode cX5_tell 46 = .ok (.aload_n 0, 1) := by decide +kernel
theorem dX5_tell_47 : decode cX5_tell 47 = .ok (.iload_n 3, 1) := by decide +kernel
theorem dX5_tell_48 : decode cX5_tell 48 = .ok (.iconst 2, 1) := by decide +kernel
theorem dX5_tell_49 : decode cX5_tell 49 = .ok (.iadd, 1) := by decide +kernel
theorem dX5_tell_50 : decode cX5_tell 50 = .ok (.invokevirtual 39, 3) := by decide +kernel
theorem dX5_tell_53 : decode cX5_tell 53 = .ok (.invokevirtual 50, 3) := by decide +kernel
theorem dX5_tell_56 : decode cX5_tell 56 = .ok (.iinc 3 3, 3) := by decide +kernel
theorem dX5_tell_59 : decode cX5_tell 59 = .ok (.goto 31, 3) := by decide +kernel
theorem dX5_tell_62 : decode cX5_tell 62 = .ok (.aload_n 2, 1) := by decide +kernel
theorem dX5_tell_63 : decode cX5_tell 63 = .ok (.aload_n 0, 1) := by decide +kernel
theorem dX5_tell_64 : decode cX5_tell 64 = .ok (.iload_n 3, 1) := by decide +kernel
theorem dX5_tell_65 : decode cX5_tell 65 = .ok (.iconst 1, 1) := by decide +kernel
theorem dX5_tell_66 : decode cX5_tell 66 = .ok (.iadd, 1) := by decide +kernel
theorem dX5_tell_67 : decode cX5_tell 67 = .ok (.invokevirtual 39, 3) := by decide +kernel
theorem dX5_tell_70 : decode cX5_tell 70 = .ok (.aload_n 0, 1) := by decide +kernel
theorem dX5_tell_71 : decode cX5_tell 71 = .ok (.iload_n 3, 1) := by decide +kernel
theorem dX5_tell_72 : decode cX5_tell 72 = .ok (.iconst 2, 1) := by decide +kernel
theorem dX5_tell_73 : decode cX5_tell 73 = .ok (.iadd, 1) := by decide +kernel
theorem dX5_tell_74 : decode cX5_tell 74 = .ok (.invokevirtual 39, 3) := by decide +kernel
theorem dX5_tell_77 : decode cX5_tell 77 = .ok (.aload_n 0, 1) := by decide +kernel
theorem dX5_tell_78 : decode cX5_tell 78 = .ok (.iload_n 3, 1) := by decide +kernel
theorem dX5_tell_79 : decode cX5_tell 79 = .ok (.iconst 3, 1) := by decide +kernel
theorem dX5_tell_80 : decode cX5_tell 80 = .ok (.iadd, 1) := by decide +kernel
theorem dX5_tell_81 : decode cX5_tell 81 = .ok (.invokevirtual 39, 3) := by decide +kernel
theorem dX5_tell_84 : decode cX5_tell 84 = .ok (.invokevirtual 54, 3) := by decide +kernel
theorem dX5_tell_87 : decode cX5_tell 87 = .ok (.iinc 3 4, 3) := by decide +kernel
theorem dX5_tell_90 : decode cX5_tell 90 = .ok (.iinc 4 1, 3) := by decide +kernel
theorem dX5_tell_93 : decode cX5_tell 93 = .ok (.goto (-80), 3) := by decide +kernel
theorem dX5_tell_96 : decode cX5_tell 96 = .ok (.return_, 1) := by decide +kernel
theorem dX6_init_0 : decode cX6_init 0 = .ok (.aload_n 0, 1) := by decide +kernel
theorem dX6_init_1 : decode cX6_init 1 = .ok (.invokespecial 3, 3) := by decide +kernel
theorem dX6_init_4 : decode cX6_init 4 = .ok (.aload_n 0, 1) := by decide +kernel
theorem dX6_init_5 : decode cX6_init 5 = .ok (.bipush 6, 2) := by decide +kernel
theorem dX6_init_7 : decode cX6_init 7 = .ok (.newarray .int, 2) := by decide +kernel
theorem dX6_init_9 : decode cX6_init 9 = .ok (.putfield 9, 3) := by decide +kernel
theorem dX6_init_12 : decode cX6_init 12 = .ok (.aload_n 0, 1) := by decide +kernel
theorem dX6_init_13 : decode cX6_init 13 = .ok (.bipush 6, 2) := by decide +kernel
theorem dX6_init_15 : decode cX6_init 15 = .ok (.newarray .int, 2) := by decide +kernel
theorem dX6_init_17 : decode cX6_init 17 = .ok (.putfield 15, 3) := by decide +kernel
theorem dX6_init_20 : decode cX6_init 20 = .ok (.aload_n 0, 1) := by decide +kernel
theorem dX6_init_21 : decode cX6_init 21 = .ok (.bipush 6, 2) := by decide +kernel
theorem dX6_init_23 : decode cX6_init 23 = .ok (.newarray .boolean, 2) := by decide +kernel
theorem dX6_init_25 : decode cX6_init 25 = .ok (.putfield 18, 3) := by decide +kernel
theorem dX6_init_28 : decode cX6_init 28 = .ok (.return_, 1) := by decide +kernel
theorem dX6_count_0 : decode cX6_count 0 = .ok (.aload_n 0, 1) := by decide +kernel
theorem dX6_count_1 : decode cX6_count 1 = .ok (.getfield 22, 3) := by decide +kernel
theorem dX6_count_4 : decode cX6_count 4 = .ok (.ireturn, 1) := by decide +kernel
theorem dX6_forgetAll_0 : decode cX6_forgetAll 0 = .ok (.aload_n 0, 1) := by decide +kernel
theorem dX6_forgetAll_1 : decode cX6_forgetAll 1 = .ok (.iconst 0, 1) := by decide +kernel
theorem dX6_forgetAll_2 : decode cX6_forgetAll 2 = .ok (.putfield 22, 3) := by decide +kernel
theorem dX6_forgetAll_5 : decode cX6_forgetAll 5 = .ok (.return_, 1) := by decide +kernel
theorem dX6_add_0 : decode cX6_add 0 = .ok (.aload_n 0, 1) := by decide +kernel
theorem dX6_add_1 : decode cX6_add 1 = .ok (.getfield 22, 3) := by decide +kernel
theorem dX6_add_4 : decode cX6_add 4 = .ok (.ifCond .lt 12, 3) := by decide +kernel
theorem dX6_add_7 : decode cX6_add 7 = .ok (.aload_n 0, 1) := by decide +kernel
theorem dX6_add_8 : decode cX6_add 8 = .ok (.getfield 22, 3) := by decide +kernel
theorem dX6_add_11 : decode cX6_add 11 = .ok (.bipush 6, 2) := by decide +kernel
theorem dX6_add_13 : decode cX6_add 13 = .ok (.if_icmp .lt 4, 3) := by decide +kernel
theorem dX6_add_16 : decode cX6_add 16 = .ok (.return_, 1) := by decide +kernel
theorem dX6_add_17 : decode cX6_add 17 = .ok (.aload_n 0, 1) := by decide +kernel
theorem dX6_add_18 : decode cX6_add 18 = .ok (.getfield 9, 3) := by decide +kernel
theorem dX6_add_21 : decode cX6_add 21 = .ok (.aload_n 0, 1) := by decide +kernel
theorem dX6_add_22 : decode cX6_add 22 = .ok (.getfield 22, 3) := by decide +kernel
theorem dX6_add_25 : decode cX6_add 25 = .ok (.iload_n 1, 1) := by decide +kernel
theorem dX6_add_26 : decode cX6_add 26 = .ok (.iastore, 1) := by decide +kernel
theorem dX6_add_27 : decode cX6_add 27 = .ok (.aload_n 0, 1) := by decide +kernel
theorem dX6_add_28 : decode cX6_add 28 = .ok (.getfield 15, 3) := by decide +kernel
theorem dX6_add_31 : decode cX6_add 31 = .ok (.aload_n 0, 1) := by decide +kernel
theorem dX6_add_32 : decode cX6_add 32 = .ok (.getfield 22, 3) := by decide +kernel
theorem dX6_add_35 : decode cX6_add 35 = .ok (.iload_n 2, 1) := by decide +kernel
theorem dX6_add_36 : decode cX6_add 36 = .ok (.iastore, 1) := by decide +kernel
theorem dX6_add_37 : decode cX6_add 37 = .ok (.aload_n 0, 1) := by decide +kernel
theorem dX6_add_38 : decode cX6_add 38 = .ok (.getfield 18, 3) := by decide +kernel
theorem dX6_add_41 : decode cX6_add 41 = .ok (.aload_n 0, 1) := by decide +kernel
theorem dX6_add_42 : decode cX6_add 42 = .ok (.getfield 22, 3) := by decide +kernel
theorem dX6_add_45 : decode cX6_add 45 = .ok (.iload_n 3, 1) := by decide +kernel
theorem dX6_add_46 : decode cX6_add 46 = .ok (.bastore, 1) := by decide +kernel
theorem dX6_add_47 : decode cX6_add 47 = .ok (.aload_n 0, 1) := by decide +kernel
theorem dX6_add_48 : decode cX6_add 48 = .ok (.dup, 1) := by decide +kernel
theorem dX6_add_49 : decode cX6_add 49 = .ok (.getfield 22, 3) := by decide +kernel
theorem dX6_add_52 : decode cX6_add 52 = .ok (.iconst 1, 1) := by decide +kernel
theorem dX6_add_53 : decode cX6_add 53 = .ok (.iadd, 1) := by decide +kernel
theorem dX6_add_54 : decode cX6_add 54 = .ok (.putfield 22, 3) := by decide +kernel
theorem dX6_add_57 : decode cX6_add 57 = .ok (.return_, 1) := by decide +kernel
theorem dX6_fits_0 : decode cX6_fits 0 = .ok (.iconst 0, 1) := by decide +kernel
theorem dX6_fits_1 : decode cX6_fits 1 = .ok (.istore_n 3, 1) := by decide +kernel
theorem dX6_fits_2 : decode cX6_fits 2 = .ok (.iload_n 3, 1) := by decide +kernel
theorem dX6_fits_3 : decode cX6_fits 3 = .ok (.aload_n 0, 1) := by decide +kernel
theorem dX6_fits_4 : decode cX6_fits 4 = .ok (.getfield 22, 3) := by decide +kernel
theorem dX6_fits_7 : decode cX6_fits 7 = .ok (.if_icmp .ge 55, 3) := by decide +kernel
theorem dX6_fits_10 : decode cX6_fits 10 = .ok (.iload_n 3, 1) := by decide +kernel
theorem dX6_fits_11 : decode cX6_fits 11 = .ok (.bipush 6, 2) := by decide +kernel
theorem dX6_fits_13 : decode cX6_fits 13 = .ok (.if_icmp .ge 49, 3) := by decide +kernel
theorem dX6_fits_16 : decode cX6_fits 16 = .ok (.iload_n 2, 1) := by decide +kernel
theorem dX6_fits_17 : decode cX6_fits 17 = .ok (.iload_n 1, 1) := by decide +kernel
theorem dX6_fits_18 : decode cX6_fits 18 = .ok (.aload_n 0, 1) := by decide +kernel
theorem dX6_fits_19 : decode cX6_fits 19 = .ok (.getfield 9, 3) := by decide +kernel
theorem dX6_fits_22 : decode cX6_fits 22 = .ok (.iload_n 3, 1) := by decide +kernel
theorem dX6_fits_23 : decode cX6_fits 23 = .ok (.iaload, 1) := by decide +kernel
theorem dX6_fits_24 : decode cX6_fits 24 = .ok (.invokestatic 26, 3) := by decide +kernel
theorem dX6_fits_27 : decode cX6_fits 27 = .ok (.aload_n 0, 1) := by decide +kernel
theorem dX6_fits_28 : decode cX6_fits 28 = .ok (.getfield 15, 3) := by decide +kernel
theorem dX6_fits_31 : decode cX6_fits 31 = .ok (.iload_n 3, 1) := by decide +kernel
theorem dX6_fits_32 : decode cX6_fits 32 = .ok (.iaload, 1) := by decide +kernel
theorem dX6_fits_33 : decode cX6_fits 33 = .ok (.if_icmp .gt 7, 3) := by decide +kernel
theorem dX6_fits_36 : decode cX6_fits 36 = .ok (.iconst 1, 1) := by decide +kernel
theorem dX6_fits_37 : decode cX6_fits 37 = .ok (.goto 4, 3) := by decide +kernel
theorem dX6_fits_40 : decode cX6_fits 40 = .ok (.iconst 0, 1) := by decide +kernel
theorem dX6_fits_41 : decode cX6_fits 41 = .ok (.istore 4, 2) := by decide +kernel
theorem dX6_fits_43 : decode cX6_fits 43 = .ok (.iload 4, 2) := by decide +kernel
theorem dX6_fits_45 : decode cX6_fits 45 = .ok (.aload_n 0, 1) := by decide +kernel
theorem dX6_fits_46 : decode cX6_fits 46 = .ok (.getfield 18, 3) := by decide +kernel
theorem dX6_fits_49 : decode cX6_fits 49 = .ok (.iload_n 3, 1) := by decide +kernel
theorem dX6_fits_50 : decode cX6_fits 50 = .ok (.baload, 1) := by decide +kernel
theorem dX6_fits_51 : decode cX6_fits 51 = .ok (.if_icmp .eq 5, 3) := by decide +kernel
theorem dX6_fits_54 : decode cX6_fits 54 = .ok (.iconst 0, 1) := by decide +kernel
theorem dX6_fits_55 : decode cX6_fits 55 = .ok (.ireturn, 1) := by decide +kernel
theorem dX6_fits_56 : decode cX6_fits 56 = .ok (.iinc 3 1, 3) := by decide +kernel
theorem dX6_fits_59 : decode cX6_fits 59 = .ok (.goto (-57), 3) := by decide +kernel
theorem dX6_fits_62 : decode cX6_fits 62 = .ok (.iconst 1, 1) := by decide +kernel
theorem dX6_fits_63 : decode cX6_fits 63 = .ok (.ireturn, 1) := by decide +kernel
theorem dX6_fittingCount_0 : decode cX6_fittingCount 0 = .ok (.iconst 0, 1) := by decide +kernel
theorem dX6_fittingCount_1 : decode cX6_fittingCount 1 = .ok (.istore_n 1, 1) := by decide +kernel
theorem dX6_fittingCount_2 : decode cX6_fittingCount 2 = .ok (.iconst 0, 1) := by decide +kernel
theorem dX6_fittingCount_3 : decode cX6_fittingCount 3 = .ok (.istore_n 2, 1) := by decide +kernel
theorem dX6_fittingCount_4 : decode cX6_fittingCount 4 = .ok (.iload_n 2, 1) := by decide +kernel
theorem dX6_fittingCount_5 : decode cX6_fittingCount 5 = .ok (.iconst 3, 1) := by decide +kernel
theorem dX6_fittingCount_6 : decode cX6_fittingCount 6 = .ok (.if_icmp .ge 35, 3) := by decide +kernel
theorem dX6_fittingCount_9 : decode cX6_fittingCount 9 = .ok (.iconst 1, 1) := by decide +kernel
theorem dX6_fittingCount_10 : decode cX6_fittingCount 10 = .ok (.istore_n 3, 1) := by decide +kernel
theorem dX6_fittingCount_11 : decode cX6_fittingCount 11 = .ok (.iload_n 3, 1) := by decide +kernel
theorem dX6_fittingCount_12 : decode cX6_fittingCount 12 = .ok (.bipush 9, 2) := by decide +kernel
theorem dX6_fittingCount_14 : decode cX6_fittingCount 14 = .ok (.if_icmp .gt 21, 3) := by decide +kernel
theorem dX6_fittingCount_17 : decode cX6_fittingCount 17 = .ok (.aload_n 0, 1) := by decide +kernel
theorem dX6_fittingCount_18 : decode cX6_fittingCount 18 = .ok (.iload_n 2, 1) := by decide +kernel
theorem dX6_fittingCount_19 : decode cX6_fittingCount 19 = .ok (.iload_n 3, 1) := by decide +kernel
theorem dX6_fittingCount_20 : decode cX6_fittingCount 20 = .ok (.invokevirtual 30, 3) := by decide +kernel
theorem dX6_fittingCount_23 : decode cX6_fittingCount 23 = .ok (.ifCond .eq 6, 3) := by decide +kernel
theorem dX6_fittingCount_26 : decode cX6_fittingCount 26 = .ok (.iinc 1 1, 3) := by decide +kernel
theorem dX6_fittingCount_29 : decode cX6_fittingCount 29 = .ok (.iinc 3 1, 3) := by decide +kernel
theorem dX6_fittingCount_32 : decode cX6_fittingCount 32 = .ok (.goto (-21), 3) := by decide +kernel
theorem dX6_fittingCount_35 : decode cX6_fittingCount 35 = .ok (.iinc 2 1, 3) := by decide +kernel
theorem dX6_fittingCount_38 : decode cX6_fittingCount 38 = .ok (.goto (-34), 3) := by decide +kernel
theorem dX6_fittingCount_41 : decode cX6_fittingCount 41 = .ok (.iload_n 1, 1) := by decide +kernel
theorem dX6_fittingCount_42 : decode cX6_fittingCount 42 = .ok (.ireturn, 1) := by decide +kernel
theorem dX6_firstFitting_0 : decode cX6_firstFitting 0 = .ok (.iconst 0, 1) := by decide +kernel
theorem dX6_firstFitting_1 : decode cX6_firstFitting 1 = .ok (.istore_n 1, 1) := by decide +kernel
theorem dX6_firstFitting_2 : decode cX6_firstFitting 2 = .ok (.iload_n 1, 1) := by decide +kernel
theorem dX6_firstFitting_3 : decode cX6_firstFitting 3 = .ok (.iconst 3, 1) := by decide +kernel
theorem dX6_firstFitting_4 : decode cX6_firstFitting 4 = .ok (.if_icmp .ge 39, 3) := by decide +kernel
theorem dX6_firstFitting_7 : decode cX6_firstFitting 7 = .ok (.iconst 1, 1) := by decide +kernel
theorem dX6_firstFitting_8 : decode cX6_firstFitting 8 = .ok (.istore_n 2, 1) := by decide +kernel
theorem dX6_firstFitting_9 : decode cX6_firstFitting 9 = .ok (.iload_n 2, 1) := by decide +kernel
theorem dX6_firstFitting_10 : decode cX6_firstFitting 10 = .ok (.bipush 9, 2) := by decide +kernel
theorem dX6_firstFitting_12 : decode cX6_firstFitting 12 = .ok (.if_icmp .gt 25, 3) := by decide +kernel
theorem dX6_firstFitting_15 : decode cX6_firstFitting 15 = .ok (.aload_n 0, 1) := by decide +kernel
theorem dX6_firstFitting_16 : decode cX6_firstFitting 16 = .ok (.iload_n 1, 1) := by decide +kernel
theorem dX6_firstFitting_17 : decode cX6_firstFitting 17 = .ok (.iload_n 2, 1) := by decide +kernel
theorem dX6_firstFitting_18 : decode cX6_firstFitting 18 = .ok (.invokevirtual 30, 3) := by decide +kernel
theorem dX6_firstFitting_21 : decode cX6_firstFitting 21 = .ok (.ifCond .eq 10, 3) := by decide +kernel
theorem dX6_firstFitting_24 : decode cX6_firstFitting 24 = .ok (.bipush 10, 2) := by decide +kernel
theorem dX6_firstFitting_26 : decode cX6_firstFitting 26 = .ok (.iload_n 1, 1) := by decide +kernel
theorem dX6_firstFitting_27 : decode cX6_firstFitting 27 = .ok (.imul, 1) := by decide +kernel
theorem dX6_firstFitting_28 : decode cX6_firstFitting 28 = .ok (.iload_n 2, 1) := by decide +kernel
theorem dX6_firstFitting_29 : decode cX6_firstFitting 29 = .ok (.iadd, 1) := by decide +kernel
theorem dX6_firstFitting_30 : decode cX6_firstFitting 30 = .ok (.ireturn, 1) := by decide +kernel
theorem dX6_firstFitting_31 : decode cX6_firstFitting 31 = .ok (.iinc 2 1, 3) := by decide +kernel
theorem dX6_firstFitting_34 : decode cX6_firstFitting 34 = .ok (.goto (-25), 3) := by decide +kernel
theorem dX6_firstFitting_37 : decode cX6_firstFitting 37 = .ok (.iinc 1 1, 3) := by decide +kernel
theorem dX6_firstFitting_40 : decode cX6_firstFitting 40 = .ok (.goto (-38), 3) := by decide +kernel
theorem dX6_firstFitting_43 : decode cX6_firstFitting 43 = .ok (.bipush (-9), 2) := by decide +kernel
theorem dX6_firstFitting_45 : decode cX6_firstFitting 45 = .ok (.ireturn, 1) := by decide +kernel
theorem dX7_init_0 : decode cX7_init 0 = .ok (.aload_n 0, 1) := by decide +kernel
theorem dX7_init_1 : decode cX7_init 1 = .ok (.invokespecial 3, 3) := by decide +kernel
theorem dX7_init_4 : decode cX7_init 4 = .ok (.aload_n 0, 1) := by decide +kernel
theorem dX7_init_5 : decode cX7_init 5 = .ok (.iconst 5, 1) := by decide +kernel
theorem dX7_init_6 : decode cX7_init 6 = .ok (.newarray .int, 2) := by decide +kernel
theorem dX7_init_8 : decode cX7_init 8 = .ok (.putfield 9, 3) := by decide +kernel
theorem dX7_init_11 : decode cX7_init 11 = .ok (.aload_n 0, 1) := by decide +kernel
theorem dX7_init_12 : decode cX7_init 12 = .ok (.iconst 5, 1) := by decide +kernel
theorem dX7_init_13 : decode cX7_init 13 = .ok (.newarray .int, 2) := by decide +kernel
theorem dX7_init_15 : decode cX7_init 15 = .ok (.putfield 15, 3) := by decide +kernel
theorem dX7_init_18 : decode cX7_init 18 = .ok (.aload_n 0, 1) := by decide +kernel
theorem dX7_init_19 : decode cX7_init 19 = .ok (.iconst 5, 1) := by decide +kernel
theorem dX7_init_20 : decode cX7_init 20 = .ok (.newarray .int, 2) := by decide +kernel
theorem dX7_init_22 : decode cX7_init 22 = .ok (.putfield 18, 3) := by decide +kernel
theorem dX7_init_25 : decode cX7_init 25 = .ok (.return_, 1) := by decide +kernel
theorem dX7_count_0 : decode cX7_count 0 = .ok (.aload_n 0, 1) := by decide +kernel
theorem dX7_count_1 : decode cX7_count 1 = .ok (.getfield 21, 3) := by decide +kernel
theorem dX7_count_4 : decode cX7_count 4 = .ok (.ireturn, 1) := by decide +kernel
theorem dX7_empty_0 : decode cX7_empty 0 = .ok (.aload_n 0, 1) := by decide +kernel
theorem dX7_empty_1 : decode cX7_empty 1 = .ok (.iconst 0, 1) := by decide +kernel
theorem dX7_empty_2 : decode cX7_empty 2 = .ok (.putfield 21, 3) := by decide +kernel
theorem dX7_empty_5 : decode cX7_empty 5 = .ok (.return_, 1) := by decide +kernel
theorem dX7_add_0 : decode cX7_add 0 = .ok (.aload_n 0, 1) := by decide +kernel
theorem dX7_add_1 : decode cX7_add 1 = .ok (.getfield 21, 3) := by decide +kernel
theorem dX7_add_4 : decode cX7_add 4 = .ok (.ifCond .lt 11, 3) := by decide +kernel
theorem dX7_add_7 : decode cX7_add 7 = .ok (.aload_n 0, 1) := by decide +kernel
theorem dX7_add_8 : decode cX7_add 8 = .ok (.getfield 21, 3) := by decide +kernel
theorem dX7_add_11 : decode cX7_add 11 = .ok (.iconst 5, 1) := by decide +kernel
theorem dX7_add_12 : decode cX7_add 12 = .ok (.if_icmp .lt 4, 3) := by decide +kernel
theorem dX7_add_15 : decode cX7_add 15 = .ok (.return_, 1) := by decide +kernel
theorem dX7_add_16 : decode cX7_add 16 = .ok (.aload_n 0, 1) := by decide +kernel
theorem dX7_add_17 : decode cX7_add 17 = .ok (.getfield 9, 3) := by decide +kernel
theorem dX7_add_20 : decode cX7_add 20 = .ok (.aload_n 0, 1) := by decide +kernel
theorem dX7_add_21 : decode cX7_add 21 = .ok (.getfield 21, 3) := by decide +kernel
theorem dX7_add_24 : decode cX7_add 24 = .ok (.iload_n 1, 1) := by decide +kernel
theorem dX7_add_25 : decode cX7_add 25 = .ok (.iastore, 1) := by decide +kernel
theorem dX7_add_26 : decode cX7_add 26 = .ok (.aload_n 0, 1) := by decide +kernel
theorem dX7_add_27 : decode cX7_add 27 = .ok (.getfield 15, 3) := by decide +kernel
theorem dX7_add_30 : decode cX7_add 30 = .ok (.aload_n 0, 1) := by decide +kernel
theorem dX7_add_31 : decode cX7_add 31 = .ok (.getfield 21, 3) := by decide +kernel
theorem dX7_add_34 : decode cX7_add 34 = .ok (.iload_n 2, 1) := by decide +kernel
theorem dX7_add_35 : decode cX7_add 35 = .ok (.iastore, 1) := by decide +kernel
theorem dX7_add_36 : decode cX7_add 36 = .ok (.aload_n 0, 1) := by decide +kernel
theorem dX7_add_37 : decode cX7_add 37 = .ok (.getfield 18, 3) := by decide +kernel
theorem dX7_add_40 : decode cX7_add 40 = .ok (.aload_n 0, 1) := by decide +kernel
theorem dX7_add_41 : decode cX7_add 41 = .ok (.getfield 21, 3) := by decide +kernel
theorem dX7_add_44 : decode cX7_add 44 = .ok (.iload_n 3, 1) := by decide +kernel
theorem dX7_add_45 : decode cX7_add 45 = .ok (.iastore, 1) := by decide +kernel
theorem dX7_add_46 : decode cX7_add 46 = .ok (.aload_n 0, 1) := by decide +kernel
theorem dX7_add_47 : decode cX7_add 47 = .ok (.dup, 1) := by decide +kernel
theorem dX7_add_48 : decode cX7_add 48 = .ok (.getfield 21, 3) := by decide +kernel
theorem dX7_add_51 : decode cX7_add 51 = .ok (.iconst 1, 1) := by decide +kernel
theorem dX7_add_52 : decode cX7_add 52 = .ok (.iadd, 1) := by decide +kernel
theorem dX7_add_53 : decode cX7_add 53 = .ok (.putfield 21, 3) := by decide +kernel
theorem dX7_add_56 : decode cX7_add 56 = .ok (.return_, 1) := by decide +kernel
theorem dX7_has_0 : decode cX7_has 0 = .ok (.iload_n 1, 1) := by decide +kernel
theorem dX7_has_1 : decode cX7_has 1 = .ok (.ifCond .lt 20, 3) := by decide +kernel
theorem dX7_has_4 : decode cX7_has 4 = .ok (.iload_n 1, 1) := by decide +kernel
theorem dX7_has_5 : decode cX7_has 5 = .ok (.aload_n 0, 1) := by decide +kernel
theorem dX7_has_6 : decode cX7_has 6 = .ok (.getfield 21, 3) := by decide +kernel
theorem dX7_has_9 : decode cX7_has 9 = .ok (.if_icmp .ge 12, 3) := by decide +kernel
theorem dX7_has_12 : decode cX7_has 12 = .ok (.iload_n 1, 1) := by decide +kernel
theorem dX7_has_13 : decode cX7_has 13 = .ok (.iconst 5, 1) := by decide +kernel
theorem dX7_has_14 : decode cX7_has 14 = .ok (.if_icmp .ge 7, 3) := by decide +kernel
theorem dX7_has_17 : decode cX7_has 17 = .ok (.iconst 1, 1) := by decide +kernel
theorem dX7_has_18 : decode cX7_has 18 = .ok (.goto 4, 3) := by decide +kernel
theorem dX7_has_21 : decode cX7_has 21 = .ok (.iconst 0, 1) := by decide +kernel
theorem dX7_has_22 : decode cX7_has 22 = .ok (.ireturn, 1) := by decide +kernel
theorem dX7_paceOf_0 : decode cX7_paceOf 0 = .ok (.iload_n 1, 1) := by decide +kernel
theorem dX7_paceOf_1 : decode cX7_paceOf 1 = .ok (.ifCond .lt 29, 3) := by decide +kernel
theorem dX7_paceOf_4 : decode cX7_paceOf 4 = .ok (.iload_n 1, 1) := by decide +kernel
theorem dX7_paceOf_5 : decode cX7_paceOf 5 = .ok (.aload_n 0, 1) := by decide +kernel
theorem dX7_paceOf_6 : decode cX7_paceOf 6 = .ok (.getfield 21, 3) := by decide +kernel
theorem dX7_paceOf_9 : decode cX7_paceOf 9 = .ok (.if_icmp .ge 21, 3) := by decide +kernel
theorem dX7_paceOf_12 : decode cX7_paceOf 12 = .ok (.iload_n 1, 1) := by decide +kernel
theorem dX7_paceOf_13 : decode cX7_paceOf 13 = .ok (.aload_n 0, 1) := by decide +kernel
theorem dX7_paceOf_14 : decode cX7_paceOf 14 = .ok (.getfield 9, 3) := by decide +kernel
theorem dX7_paceOf_17 : decode cX7_paceOf 17 = .ok (.arraylength, 1) := by decide +kernel
theorem dX7_paceOf_18 : decode cX7_paceOf 18 = .ok (.if_icmp .ge 12, 3) := by decide +kernel
theorem dX7_paceOf_21 : decode cX7_paceOf 21 = .ok (.aload_n 0, 1) := by decide +kernel
theorem dX7_paceOf_22 : decode cX7_paceOf 22 = .ok (.getfield 9, 3) := by decide +kernel
theorem dX7_paceOf_25 : decode cX7_paceOf 25 = .ok (.iload_n 1, 1) := by decide +kernel
theorem dX7_paceOf_26 : decode cX7_paceOf 26 = .ok (.iaload, 1) := by decide +kernel
theorem dX7_paceOf_27 : decode cX7_paceOf 27 = .ok (.goto 4, 3) := by decide +kernel
theorem dX7_paceOf_30 : decode cX7_paceOf 30 = .ok (.iconst 0, 1) := by decide +kernel
theorem dX7_paceOf_31 : decode cX7_paceOf 31 = .ok (.ireturn, 1) := by decide +kernel
theorem dX7_kindOf_0 : decode cX7_kindOf 0 = .ok (.iload_n 1, 1) := by decide +kernel
theorem dX7_kindOf_1 : decode cX7_kindOf 1 = .ok (.ifCond .lt 29, 3) := by decide +kernel
theorem dX7_kindOf_4 : decode cX7_kindOf 4 = .ok (.iload_n 1, 1) := by decide +kernel
theorem dX7_kindOf_5 : decode cX7_kindOf 5 = .ok (.aload_n 0, 1) := by decide +kernel
theorem dX7_kindOf_6 : decode cX7_kindOf 6 = .ok (.getfield 21, 3) := by decide +kernel
theorem dX7_kindOf_9 : decode cX7_kindOf 9 = .ok (.if_icmp .ge 21, 3) := by decide +kernel
theorem dX7_kindOf_12 : decode cX7_kindOf 12 = .ok (.iload_n 1, 1) := by decide +kernel
theorem dX7_kindOf_13 : decode cX7_kindOf 13 = .ok (.aload_n 0, 1) := by decide +kernel
theorem dX7_kindOf_14 : decode cX7_kindOf 14 = .ok (.getfield 15, 3) := by decide +kernel
theorem dX7_kindOf_17 : decode cX7_kindOf 17 = .ok (.arraylength, 1) := by decide +kernel
theorem dX7_kindOf_18 : decode cX7_kindOf 18 = .ok (.if_icmp .ge 12, 3) := by decide +kernel
theorem dX7_kindOf_21 : decode cX7_kindOf 21 = .ok (.aload_n 0, 1) := by decide +kernel
theorem dX7_kindOf_22 : decode cX7_kindOf 22 = .ok (.getfield 15, 3) := by decide +kernel
theorem dX7_kindOf_25 : decode cX7_kindOf 25 = .ok (.iload_n 1, 1) := by decide +kernel
theorem dX7_kindOf_26 : decode cX7_kindOf 26 = .ok (.iaload, 1) := by decide +kernel
theorem dX7_kindOf_27 : decode cX7_kindOf 27 = .ok (.goto 5, 3) := by decide +kernel
theorem dX7_kindOf_30 : decode cX7_kindOf 30 = .ok (.bipush (-9), 2) := by decide +kernel
theorem dX7_kindOf_32 : decode cX7_kindOf 32 = .ok (.ireturn, 1) := by decide +kernel
theorem dX7_toldThornsOf_0 : decode cX7_toldThornsOf 0 = .ok (.aload_n 0, 1) := by decide +kernel
theorem dX7_toldThornsOf_1 : decode cX7_toldThornsOf 1 = .ok (.iload_n 1, 1) := by decide +kernel
theorem dX7_toldThornsOf_2 : decode cX7_toldThornsOf 2 = .ok (.invokevirtual 25, 3) := by decide +kernel
theorem dX7_toldThornsOf_5 : decode cX7_toldThornsOf 5 = .ok (.ifCond .eq 12, 3) := by decide +kernel
theorem dX7_toldThornsOf_8 : decode cX7_toldThornsOf 8 = .ok (.aload_n 0, 1) := by decide +kernel
theorem dX7_toldThornsOf_9 : decode cX7_toldThornsOf 9 = .ok (.getfield 18, 3) := by decide +kernel
theorem dX7_toldThornsOf_12 : decode cX7_toldThornsOf 12 = .ok (.iload_n 1, 1) := by decide +kernel
theorem dX7_toldThornsOf_13 : decode cX7_toldThornsOf 13 = .ok (.iaload, 1) := by decide +kernel
theorem dX7_toldThornsOf_14 : decode cX7_toldThornsOf 14 = .ok (.goto 4, 3) := by decide +kernel
theorem dX7_toldThornsOf_17 : decode cX7_toldThornsOf 17 = .ok (.iconst 0, 1) := by decide +kernel
theorem dX7_toldThornsOf_18 : decode cX7_toldThornsOf 18 = .ok (.ireturn, 1) := by decide +kernel
theorem dX8_init_0 : decode cX8_init 0 = .ok (.aload_n 0, 1) := by decide +kernel
theorem dX8_init_1 : decode cX8_init 1 = .ok (.invokespecial 1, 3) := by decide +kernel
theorem dX8_init_4 : decode cX8_init 4 = .ok (.aload_n 0, 1) := by decide +kernel
theorem dX8_init_5 : decode cX8_init 5 = .ok (.new 7, 3) := by decide +kernel
end
section
theorem dX8_init_8 : decode cX8_init 8 = .ok (.dup, 1) := by decide +kernel
theorem dX8_init_9 : decode cX8_init 9 = .ok (.invokespecial 9, 3) := by decide +kernel
theorem dX8_init_12 : decode cX8_init 12 = .ok (.putfield 10, 3) := by decide +kernel
theorem dX8_init_15 : decode cX8_init 15 = .ok (.aload_n 0, 1) := by decide +kernel
theorem dX8_init_16 : decode cX8_init 16 = .ok (.new 16, 3) := by decide +kernel
theorem dX8_init_19 : decode cX8_init 19 = .ok (.dup, 1) := by decide +kernel
theorem dX8_init_20 : decode cX8_init 20 = .ok (.invokespecial 18, 3) := by decide +kernel
theorem dX8_init_23 : decode cX8_init 23 = .ok (.putfield 19, 3) := by decide +kernel
theorem dX8_init_26 : decode cX8_init 26 = .ok (.aload_n 0, 1) := by decide +kernel
theorem dX8_init_27 : decode cX8_init 27 = .ok (.new 23, 3) := by decide +kernel
theorem dX8_init_30 : decode cX8_init 30 = .ok (.dup, 1) := by decide +kernel
theorem dX8_init_31 : decode cX8_init 31 = .ok (.invokespecial 25, 3) := by decide +kernel
theorem dX8_init_34 : decode cX8_init 34 = .ok (.putfield 26, 3) := by decide +kernel
theorem dX8_init_37 : decode cX8_init 37 = .ok (.aload_n 0, 1) := by decide +kernel
theorem dX8_init_38 : decode cX8_init 38 = .ok (.new 30, 3) := by decide +kernel
theorem dX8_init_41 : decode cX8_init 41 = .ok (.dup, 1) := by decide +kernel
theorem dX8_init_42 : decode cX8_init 42 = .ok (.aload_n 0, 1) := by decide +kernel
theorem dX8_init_43 : decode cX8_init 43 = .ok (.getfield 19, 3) := by decide +kernel
theorem dX8_init_46 : decode cX8_init 46 = .ok (.aload_n 0, 1) := by decide +kernel
theorem dX8_init_47 : decode cX8_init 47 = .ok (.getfield 26, 3) := by decide +kernel
theorem dX8_init_50 : decode cX8_init 50 = .ok (.invokespecial 32, 3) := by decide +kernel
theorem dX8_init_53 : decode cX8_init 53 = .ok (.putfield 35, 3) := by decide +kernel
theorem dX8_init_56 : decode cX8_init 56 = .ok (.aload_n 0, 1) := by decide +kernel
theorem dX8_init_57 : decode cX8_init 57 = .ok (.new 39, 3) := by decide +kernel
theorem dX8_init_60 : decode cX8_init 60 = .ok (.dup, 1) := by decide +kernel
theorem dX8_init_61 : decode cX8_init 61 = .ok (.invokespecial 41, 3) := by decide +kernel
theorem dX8_init_64 : decode cX8_init 64 = .ok (.putfield 42, 3) := by decide +kernel
theorem dX8_init_67 : decode cX8_init 67 = .ok (.aload_n 0, 1) := by decide +kernel
theorem dX8_init_68 : decode cX8_init 68 = .ok (.new 46, 3) := by decide +kernel
theorem dX8_init_71 : decode cX8_init 71 = .ok (.dup, 1) := by decide +kernel
theorem dX8_init_72 : decode cX8_init 72 = .ok (.aload_n 0, 1) := by decide +kernel
theorem dX8_init_73 : decode cX8_init 73 = .ok (.getfield 35, 3) := by decide +kernel
theorem dX8_init_76 : decode cX8_init 76 = .ok (.new 30, 3) := by decide +kernel
theorem dX8_init_79 : decode cX8_init 79 = .ok (.dup, 1) := by decide +kernel
theorem dX8_init_80 : decode cX8_init 80 = .ok (.aload_n 0, 1) := by decide +kernel
theorem dX8_init_81 : decode cX8_init 81 = .ok (.getfield 19, 3) := by decide +kernel
theorem dX8_init_84 : decode cX8_init 84 = .ok (.aload_n 0, 1) := by decide +kernel
theorem dX8_init_85 : decode cX8_init 85 = .ok (.getfield 26, 3) := by decide +kernel
theorem dX8_init_88 : decode cX8_init 88 = .ok (.invokespecial 32, 3) := by decide +kernel
theorem dX8_init_91 : decode cX8_init 91 = .ok (.invokespecial 48, 3) := by decide +kernel
theorem dX8_init_94 : decode cX8_init 94 = .ok (.putfield 51, 3) := by decide +kernel
theorem dX8_init_97 : decode cX8_init 97 = .ok (.aload_n 0, 1) := by decide +kernel
theorem dX8_init_98 : decode cX8_init 98 = .ok (.new 55, 3) := by decide +kernel
theorem dX8_init_101 : decode cX8_init 101 = .ok (.dup, 1) := by decide +kernel
theorem dX8_init_102 : decode cX8_init 102 = .ok (.aload_n 0, 1) := by decide +kernel
theorem dX8_init_103 : decode cX8_init 103 = .ok (.getfield 35, 3) := by decide +kernel
theorem dX8_init_106 : decode cX8_init 106 = .ok (.new 30, 3) := by decide +kernel
theorem dX8_init_109 : decode cX8_init 109 = .ok (.dup, 1) := by decide +kernel
theorem dX8_init_110 : decode cX8_init 110 = .ok (.aload_n 0, 1) := by decide +kernel
theorem dX8_init_111 : decode cX8_init 111 = .ok (.getfield 19, 3) := by decide +kernel
theorem dX8_init_114 : decode cX8_init 114 = .ok (.aload_n 0, 1) := by decide +kernel
theorem dX8_init_115 : decode cX8_init 115 = .ok (.getfield 26, 3) := by decide +kernel
theorem dX8_init_118 : decode cX8_init 118 = .ok (.invokespecial 32, 3) := by decide +kernel
theorem dX8_init_121 : decode cX8_init 121 = .ok (.invokespecial 57, 3) := by decide +kernel
theorem dX8_init_124 : decode cX8_init 124 = .ok (.putfield 58, 3) := by decide +kernel
theorem dX8_init_127 : decode cX8_init 127 = .ok (.aload_n 0, 1) := by decide +kernel
theorem dX8_init_128 : decode cX8_init 128 = .ok (.new 62, 3) := by decide +kernel
theorem dX8_init_131 : decode cX8_init 131 = .ok (.dup, 1) := by decide +kernel
theorem dX8_init_132 : decode cX8_init 132 = .ok (.invokespecial 64, 3) := by decide +kernel
theorem dX8_init_135 : decode cX8_init 135 = .ok (.putfield 65, 3) := by decide +kernel
theorem dX8_init_138 : decode cX8_init 138 = .ok (.aload_n 0, 1) := by decide +kernel
theorem dX8_init_139 : decode cX8_init 139 = .ok (.iconst 2, 1) := by decide +kernel
theorem dX8_init_140 : decode cX8_init 140 = .ok (.newarray .long, 2) := by decide +kernel
theorem dX8_init_142 : decode cX8_init 142 = .ok (.dup, 1) := by decide +kernel
theorem dX8_init_143 : decode cX8_init 143 = .ok (.iconst 0, 1) := by decide +kernel
theorem dX8_init_144 : decode cX8_init 144 = .ok (.ldc2_w 69, 3) := by decide +kernel
theorem dX8_init_147 : decode cX8_init 147 = .ok (.lastore, 1) := by decide +kernel
theorem dX8_init_148 : decode cX8_init 148 = .ok (.dup, 1) := by decide +kernel
theorem dX8_init_149 : decode cX8_init 149 = .ok (.iconst 1, 1) := by decide +kernel
theorem dX8_init_150 : decode cX8_init 150 = .ok (.ldc2_w 69, 3) := by decide +kernel
theorem dX8_init_153 : decode cX8_init 153 = .ok (.lastore, 1) := by decide +kernel
theorem dX8_init_154 : decode cX8_init 154 = .ok (.putfield 71, 3) := by decide +kernel
theorem dX8_init_157 : decode cX8_init 157 = .ok (.aload_n 0, 1) := by decide +kernel
theorem dX8_init_158 : decode cX8_init 158 = .ok (.lconst 0, 1) := by decide +kernel
theorem dX8_init_159 : decode cX8_init 159 = .ok (.putfield 75, 3) := by decide +kernel
theorem dX8_init_162 : decode cX8_init 162 = .ok (.return_, 1) := by decide +kernel
theorem dX8_write_0 : decode cX8_write 0 = .ok (.iload_n 1, 1) := by decide +kernel
theorem dX8_write_1 : decode cX8_write 1 = .ok (.ifCond .lt 10, 3) := by decide +kernel
theorem dX8_write_4 : decode cX8_write 4 = .ok (.iload_n 1, 1) := by decide +kernel
theorem dX8_write_5 : decode cX8_write 5 = .ok (.sipush 255, 3) := by decide +kernel
theorem dX8_write_8 : decode cX8_write 8 = .ok (.if_icmp .le 6, 3) := by decide +kernel
theorem dX8_write_11 : decode cX8_write 11 = .ok (.bipush (-2), 2) := by decide +kernel
theorem dX8_write_13 : decode cX8_write 13 = .ok (.ireturn, 1) := by decide +kernel
theorem dX8_write_14 : decode cX8_write 14 = .ok (.aload_n 0, 1) := by decide +kernel
theorem dX8_write_15 : decode cX8_write 15 = .ok (.getfield 10, 3) := by decide +kernel
theorem dX8_write_18 : decode cX8_write 18 = .ok (.invokevirtual 79, 3) := by decide +kernel
theorem dX8_write_21 : decode cX8_write 21 = .ok (.bipush 48, 2) := by decide +kernel
theorem dX8_write_23 : decode cX8_write 23 = .ok (.if_icmp .lt 6, 3) := by decide +kernel
theorem dX8_write_26 : decode cX8_write 26 = .ok (.bipush (-4), 2) := by decide +kernel
theorem dX8_write_28 : decode cX8_write 28 = .ok (.ireturn, 1) := by decide +kernel
theorem dX8_write_29 : decode cX8_write 29 = .ok (.aload_n 0, 1) := by decide +kernel
theorem dX8_write_30 : decode cX8_write 30 = .ok (.getfield 10, 3) := by decide +kernel
theorem dX8_write_33 : decode cX8_write 33 = .ok (.iload_n 1, 1) := by decide +kernel
theorem dX8_write_34 : decode cX8_write 34 = .ok (.invokevirtual 83, 3) := by decide +kernel
theorem dX8_write_37 : decode cX8_write 37 = .ok (.aload_n 0, 1) := by decide +kernel
theorem dX8_write_38 : decode cX8_write 38 = .ok (.getfield 10, 3) := by decide +kernel
theorem dX8_write_41 : decode cX8_write 41 = .ok (.invokevirtual 79, 3) := by decide +kernel
theorem dX8_write_44 : decode cX8_write 44 = .ok (.ireturn, 1) := by decide +kernel
theorem dX8_wipe_0 : decode cX8_wipe 0 = .ok (.aload_n 0, 1) := by decide +kernel
theorem dX8_wipe_1 : decode cX8_wipe 1 = .ok (.getfield 10, 3) := by decide +kernel
theorem dX8_wipe_4 : decode cX8_wipe 4 = .ok (.invokevirtual 79, 3) := by decide +kernel
theorem dX8_wipe_7 : decode cX8_wipe 7 = .ok (.istore_n 1, 1) := by decide +kernel
theorem dX8_wipe_8 : decode cX8_wipe 8 = .ok (.aload_n 0, 1) := by decide +kernel
theorem dX8_wipe_9 : decode cX8_wipe 9 = .ok (.getfield 10, 3) := by decide +kernel
theorem dX8_wipe_12 : decode cX8_wipe 12 = .ok (.invokevirtual 87, 3) := by decide +kernel
theorem dX8_wipe_15 : decode cX8_wipe 15 = .ok (.iload_n 1, 1) := by decide +kernel
theorem dX8_wipe_16 : decode cX8_wipe 16 = .ok (.ireturn, 1) := by decide +kernel
theorem dX8_fault_0 : decode cX8_fault 0 = .ok (.aload_n 0, 1) := by decide +kernel
theorem dX8_fault_1 : decode cX8_fault 1 = .ok (.getfield 10, 3) := by decide +kernel
theorem dX8_fault_4 : decode cX8_fault 4 = .ok (.invokevirtual 90, 3) := by decide +kernel
theorem dX8_fault_7 : decode cX8_fault 7 = .ok (.ireturn, 1) := by decide +kernel
theorem dX8_army_0 : decode cX8_army 0 = .ok (.aload_n 0, 1) := by decide +kernel
theorem dX8_army_1 : decode cX8_army 1 = .ok (.getfield 10, 3) := by decide +kernel
theorem dX8_army_4 : decode cX8_army 4 = .ok (.invokevirtual 90, 3) := by decide +kernel
theorem dX8_army_7 : decode cX8_army 7 = .ok (.bipush (-9), 2) := by decide +kernel
theorem dX8_army_9 : decode cX8_army 9 = .ok (.if_icmp .eq 6, 3) := by decide +kernel
theorem dX8_army_12 : decode cX8_army 12 = .ok (.bipush (-3), 2) := by decide +kernel
theorem dX8_army_14 : decode cX8_army 14 = .ok (.ireturn, 1) := by decide +kernel
theorem dX8_army_15 : decode cX8_army 15 = .ok (.aload_n 0, 1) := by decide +kernel
theorem dX8_army_16 : decode cX8_army 16 = .ok (.getfield 10, 3) := by decide +kernel
theorem dX8_army_19 : decode cX8_army 19 = .ok (.aload_n 0, 1) := by decide +kernel
theorem dX8_army_20 : decode cX8_army 20 = .ok (.getfield 19, 3) := by decide +kernel
theorem dX8_army_23 : decode cX8_army 23 = .ok (.aload_n 0, 1) := by decide +kernel
theorem dX8_army_24 : decode cX8_army 24 = .ok (.getfield 26, 3) := by decide +kernel
theorem dX8_army_27 : decode cX8_army 27 = .ok (.invokevirtual 93, 3) := by decide +kernel
theorem dX8_army_30 : decode cX8_army 30 = .ok (.aload_n 0, 1) := by decide +kernel
theorem dX8_army_31 : decode cX8_army 31 = .ok (.getfield 35, 3) := by decide +kernel
theorem dX8_army_34 : decode cX8_army 34 = .ok (.invokevirtual 96, 3) := by decide +kernel
theorem dX8_army_37 : decode cX8_army 37 = .ok (.aload_n 0, 1) := by decide +kernel
theorem dX8_army_38 : decode cX8_army 38 = .ok (.getfield 42, 3) := by decide +kernel
theorem dX8_army_41 : decode cX8_army 41 = .ok (.invokevirtual 99, 3) := by decide +kernel
theorem dX8_army_44 : decode cX8_army 44 = .ok (.iconst 0, 1) := by decide +kernel
theorem dX8_army_45 : decode cX8_army 45 = .ok (.istore_n 1, 1) := by decide +kernel
theorem dX8_army_46 : decode cX8_army 46 = .ok (.iload_n 1, 1) := by decide +kernel
theorem dX8_army_47 : decode cX8_army 47 = .ok (.aload_n 0, 1) := by decide +kernel
theorem dX8_army_48 : decode cX8_army 48 = .ok (.getfield 71, 3) := by decide +kernel
theorem dX8_army_51 : decode cX8_army 51 = .ok (.arraylength, 1) := by decide +kernel
theorem dX8_army_52 : decode cX8_army 52 = .ok (.if_icmp .ge 18, 3) := by decide +kernel
theorem dX8_army_55 : decode cX8_army 55 = .ok (.aload_n 0, 1) := by decide +kernel
theorem dX8_army_56 : decode cX8_army 56 = .ok (.getfield 71, 3) := by decide +kernel
theorem dX8_army_59 : decode cX8_army 59 = .ok (.iload_n 1, 1) := by decide +kernel
theorem dX8_army_60 : decode cX8_army 60 = .ok (.ldc2_w 69, 3) := by decide +kernel
theorem dX8_army_63 : decode cX8_army 63 = .ok (.lastore, 1) := by decide +kernel
theorem dX8_army_64 : decode cX8_army 64 = .ok (.iinc 1 1, 3) := by decide +kernel
theorem dX8_army_67 : decode cX8_army 67 = .ok (.goto (-21), 3) := by decide +kernel
theorem dX8_army_70 : decode cX8_army 70 = .ok (.bipush 10, 2) := by decide +kernel
theorem dX8_army_72 : decode cX8_army 72 = .ok (.aload_n 0, 1) := by decide +kernel
theorem dX8_army_73 : decode cX8_army 73 = .ok (.getfield 19, 3) := by decide +kernel
theorem dX8_army_76 : decode cX8_army 76 = .ok (.invokevirtual 102, 3) := by decide +kernel
theorem dX8_army_79 : decode cX8_army 79 = .ok (.imul, 1) := by decide +kernel
theorem dX8_army_80 : decode cX8_army 80 = .ok (.aload_n 0, 1) := by decide +kernel
theorem dX8_army_81 : decode cX8_army 81 = .ok (.getfield 26, 3) := by decide +kernel
theorem dX8_army_84 : decode cX8_army 84 = .ok (.invokevirtual 105, 3) := by decide +kernel
theorem dX8_army_87 : decode cX8_army 87 = .ok (.iadd, 1) := by decide +kernel
theorem dX8_army_88 : decode cX8_army 88 = .ok (.ireturn, 1) := by decide +kernel
theorem dX8_about_0 : decode cX8_about 0 = .ok (.iload_n 1, 1) := by decide +kernel
theorem dX8_about_1 : decode cX8_about 1 = .ok (.tableswitch 166 0 11 #[63, 71, 79, 87, 95, 103, 111, 119, 134, 142, 150, 158], 63) := by decide +kernel
theorem dX8_about_64 : decode cX8_about 64 = .ok (.aload_n 0, 1) := by decide +kernel
theorem dX8_about_65 : decode cX8_about 65 = .ok (.getfield 19, 3) := by decide +kernel
theorem dX8_about_68 : decode cX8_about 68 = .ok (.invokevirtual 102, 3) := by decide +kernel
theorem dX8_about_71 : decode cX8_about 71 = .ok (.ireturn, 1) := by decide +kernel
theorem dX8_about_72 : decode cX8_about 72 = .ok (.aload_n 0, 1) := by decide +kernel
theorem dX8_about_73 : decode cX8_about 73 = .ok (.getfield 26, 3) := by decide +kernel
theorem dX8_about_76 : decode cX8_about 76 = .ok (.invokevirtual 105, 3) := by decide +kernel
theorem dX8_about_79 : decode cX8_about 79 = .ok (.ireturn, 1) := by decide +kernel
theorem dX8_about_80 : decode cX8_about 80 = .ok (.aload_n 0, 1) := by decide +kernel
theorem dX8_about_81 : decode cX8_about 81 = .ok (.getfield 19, 3) := by decide +kernel
theorem dX8_about_84 : decode cX8_about 84 = .ok (.invokevirtual 106, 3) := by decide +kernel
theorem dX8_about_87 : decode cX8_about 87 = .ok (.ireturn, 1) := by decide +kernel
theorem dX8_about_88 : decode cX8_about 88 = .ok (.aload_n 0, 1) := by decide +kernel
theorem dX8_about_89 : decode cX8_about 89 = .ok (.getfield 35, 3) := by decide +kernel
theorem dX8_about_92 : decode cX8_about 92 = .ok (.invokevirtual 109, 3) := by decide +kernel
theorem dX8_about_95 : decode cX8_about 95 = .ok (.ireturn, 1) := by decide +kernel
theorem dX8_about_96 : decode cX8_about 96 = .ok (.aload_n 0, 1) := by decide +kernel
theorem dX8_about_97 : decode cX8_about 97 = .ok (.getfield 35, 3) := by decide +kernel
theorem dX8_about_100 : decode cX8_about 100 = .ok (.invokevirtual 112, 3) := by decide +kernel
theorem dX8_about_103 : decode cX8_about 103 = .ok (.ireturn, 1) := by decide +kernel
theorem dX8_about_104 : decode cX8_about 104 = .ok (.aload_n 0, 1) := by decide +kernel
theorem dX8_about_105 : decode cX8_about 105 = .ok (.getfield 35, 3) := by decide +kernel
theorem dX8_about_108 : decode cX8_about 108 = .ok (.invokevirtual 115, 3) := by decide +kernel
theorem dX8_about_111 : decode cX8_about 111 = .ok (.ireturn, 1) := by decide +kernel
theorem dX8_about_112 : decode cX8_about 112 = .ok (.aload_n 0, 1) := by decide +kernel
theorem dX8_about_113 : decode cX8_about 113 = .ok (.getfield 35, 3) := by decide +kernel
theorem dX8_about_116 : decode cX8_about 116 = .ok (.invokevirtual 118, 3) := by decide +kernel
theorem dX8_about_119 : decode cX8_about 119 = .ok (.ireturn, 1) := by decide +kernel
theorem dX8_about_120 : decode cX8_about 120 = .ok (.aload_n 0, 1) := by decide +kernel
theorem dX8_about_121 : decode cX8_about 121 = .ok (.getfield 19, 3) := by decide +kernel
theorem dX8_about_124 : decode cX8_about 124 = .ok (.aload_n 0, 1) := by decide +kernel
theorem dX8_about_125 : decode cX8_about 125 = .ok (.getfield 35, 3) := by decide +kernel
theorem dX8_about_128 : decode cX8_about 128 = .ok (.invokevirtual 109, 3) := by decide +kernel
theorem dX8_about_131 : decode cX8_about 131 = .ok (.invokevirtual 121, 3) := by decide +kernel
theorem dX8_about_134 : decode cX8_about 134 = .ok (.ireturn, 1) := by decide +kernel
theorem dX8_about_135 : decode cX8_about 135 = .ok (.aload_n 0, 1) := by decide +kernel
theorem dX8_about_136 : decode cX8_about 136 = .ok (.getfield 35, 3) := by decide +kernel
theorem dX8_about_139 : decode cX8_about 139 = .ok (.invokevirtual 125, 3) := by decide +kernel
theorem dX8_about_142 : decode cX8_about 142 = .ok (.ireturn, 1) := by decide +kernel
theorem dX8_about_143 : decode cX8_about 143 = .ok (.aload_n 0, 1) := by decide +kernel
theorem dX8_about_144 : decode cX8_about 144 = .ok (.getfield 42, 3) := by decide +kernel
theorem dX8_about_147 : decode cX8_about 147 = .ok (.invokevirtual 128, 3) := by decide +kernel
theorem dX8_about_150 : decode cX8_about 150 = .ok (.ireturn, 1) := by decide +kernel
theorem dX8_about_151 : decode cX8_about 151 = .ok (.aload_n 0, 1) := by decide +kernel
theorem dX8_about_152 : decode cX8_about 152 = .ok (.getfield 65, 3) := by decide +kernel
theorem dX8_about_155 : decode cX8_about 155 = .ok (.invokevirtual 129, 3) := by decide +kernel
theorem dX8_about_158 : decode cX8_about 158 = .ok (.ireturn, 1) := by decide +kernel
theorem dX8_about_159 : decode cX8_about 159 = .ok (.aload_n 0, 1) := by decide +kernel
theorem dX8_about_160 : decode cX8_about 160 = .ok (.getfield 10, 3) := by decide +kernel
theorem dX8_about_163 : decode cX8_about 163 = .ok (.invokevirtual 79, 3) := by decide +kernel
theorem dX8_about_166 : decode cX8_about 166 = .ok (.ireturn, 1) := by decide +kernel
theorem dX8_about_167 : decode cX8_about 167 = .ok (.bipush (-2), 2) := by decide +kernel
theorem dX8_about_169 : decode cX8_about 169 = .ok (.ireturn, 1) := by decide +kernel
theorem dX8_man_0 : decode cX8_man 0 = .ok (.aload_n 0, 1) := by decide +kernel
theorem dX8_man_1 : decode cX8_man 1 = .ok (.getfield 26, 3) := by decide +kernel
theorem dX8_man_4 : decode cX8_man 4 = .ok (.iload_n 1, 1) := by decide +kernel
theorem dX8_man_5 : decode cX8_man 5 = .ok (.invokevirtual 130, 3) := by decide +kernel
theorem dX8_man_8 : decode cX8_man 8 = .ok (.ifCond .ne 5, 3) := by decide +kernel
theorem dX8_man_11 : decode cX8_man 11 = .ok (.iconst (-1), 1) := by decide +kernel
theorem dX8_man_12 : decode cX8_man 12 = .ok (.ireturn, 1) := by decide +kernel
theorem dX8_man_13 : decode cX8_man 13 = .ok (.iload_n 2, 1) := by decide +kernel
theorem dX8_man_14 : decode cX8_man 14 = .ok (.tableswitch 66 0 3 #[30, 39, 48, 57], 30) := by decide +kernel
theorem dX8_man_44 : decode cX8_man 44 = .ok (.aload_n 0, 1) := by decide +kernel
theorem dX8_man_45 : decode cX8_man 45 = .ok (.getfield 26, 3) := by decide +kernel
theorem dX8_man_48 : decode cX8_man 48 = .ok (.iload_n 1, 1) := by decide +kernel
theorem dX8_man_49 : decode cX8_man 49 = .ok (.invokevirtual 134, 3) := by decide +kernel
theorem dX8_man_52 : decode cX8_man 52 = .ok (.ireturn, 1) := by decide +kernel
theorem dX8_man_53 : decode cX8_man 53 = .ok (.aload_n 0, 1) := by decide +kernel
theorem dX8_man_54 : decode cX8_man 54 = .ok (.getfield 26, 3) := by decide +kernel
theorem dX8_man_57 : decode cX8_man 57 = .ok (.iload_n 1, 1) := by decide +kernel
theorem dX8_man_58 : decode cX8_man 58 = .ok (.invokevirtual 137, 3) := by decide +kernel
theorem dX8_man_61 : decode cX8_man 61 = .ok (.ireturn, 1) := by decide +kernel
theorem dX8_man_62 : decode cX8_man 62 = .ok (.aload_n 0, 1) := by decide +kernel
theorem dX8_man_63 : decode cX8_man 63 = .ok (.getfield 35, 3) := by decide +kernel
theorem dX8_man_66 : decode cX8_man 66 = .ok (.iload_n 1, 1) := by decide +kernel
theorem dX8_man_67 : decode cX8_man 67 = .ok (.invokevirtual 140, 3) := by decide +kernel
theorem dX8_man_70 : decode cX8_man 70 = .ok (.ireturn, 1) := by decide +kernel
theorem dX8_man_71 : decode cX8_man 71 = .ok (.aload_n 0, 1) := by decide +kernel
theorem dX8_man_72 : decode cX8_man 72 = .ok (.getfield 35, 3) := by decide +kernel
theorem dX8_man_75 : decode cX8_man 75 = .ok (.iload_n 1, 1) := by decide +kernel
theorem dX8_man_76 : decode cX8_man 76 = .ok (.invokevirtual 143, 3) := by decide +kernel
theorem dX8_man_79 : decode cX8_man 79 = .ok (.ireturn, 1) := by decide +kernel
theorem dX8_man_80 : decode cX8_man 80 = .ok (.bipush (-2), 2) := by decide +kernel
theorem dX8_man_82 : decode cX8_man 82 = .ok (.ireturn, 1) := by decide +kernel
theorem dX8_stretch_0 : decode cX8_stretch 0 = .ok (.aload_n 0, 1) := by decide +kernel
theorem dX8_stretch_1 : decode cX8_stretch 1 = .ok (.getfield 19, 3) := by decide +kernel
theorem dX8_stretch_4 : decode cX8_stretch 4 = .ok (.iload_n 1, 1) := by decide +kernel
theorem dX8_stretch_5 : decode cX8_stretch 5 = .ok (.invokevirtual 146, 3) := by decide +kernel
theorem dX8_stretch_8 : decode cX8_stretch 8 = .ok (.ifCond .ne 5, 3) := by decide +kernel
theorem dX8_stretch_11 : decode cX8_stretch 11 = .ok (.iconst (-1), 1) := by decide +kernel
theorem dX8_stretch_12 : decode cX8_stretch 12 = .ok (.ireturn, 1) := by decide +kernel
theorem dX8_stretch_13 : decode cX8_stretch 13 = .ok (.iload_n 2, 1) := by decide +kernel
theorem dX8_stretch_14 : decode cX8_stretch 14 = .ok (.tableswitch 53 0 2 #[26, 35, 44], 26) := by decide +kernel
theorem dX8_stretch_40 : decode cX8_stretch 40 = .ok (.aload_n 0, 1) := by decide +kernel
theorem dX8_stretch_41 : decode cX8_stretch 41 = .ok (.getfield 19, 3) := by decide +kernel
theorem dX8_stretch_44 : decode cX8_stretch 44 = .ok (.iload_n 1, 1) := by decide +kernel
theorem dX8_stretch_45 : decode cX8_stretch 45 = .ok (.invokevirtual 147, 3) := by decide +kernel
theorem dX8_stretch_48 : decode cX8_stretch 48 = .ok (.ireturn, 1) := by decide +kernel
theorem dX8_stretch_49 : decode cX8_stretch 49 = .ok (.aload_n 0, 1) := by decide +kernel
theorem dX8_stretch_50 : decode cX8_stretch 50 = .ok (.getfield 19, 3) := by decide +kernel
theorem dX8_stretch_53 : decode cX8_stretch 53 = .ok (.iload_n 1, 1) := by decide +kernel
theorem dX8_stretch_54 : decode cX8_stretch 54 = .ok (.invokevirtual 150, 3) := by decide +kernel
theorem dX8_stretch_57 : decode cX8_stretch 57 = .ok (.ireturn, 1) := by decide +kernel
theorem dX8_stretch_58 : decode cX8_stretch 58 = .ok (.aload_n 0, 1) := by decide +kernel
theorem dX8_stretch_59 : decode cX8_stretch 59 = .ok (.getfield 19, 3) := by decide +kernel
theorem dX8_stretch_62 : decode cX8_stretch 62 = .ok (.iload_n 1, 1) := by decide +kernel
theorem dX8_stretch_63 : decode cX8_stretch 63 = .ok (.invokevirtual 153, 3) := by decide +kernel
theorem dX8_stretch_66 : decode cX8_stretch 66 = .ok (.ireturn, 1) := by decide +kernel
theorem dX8_stretch_67 : decode cX8_stretch 67 = .ok (.bipush (-2), 2) := by decide +kernel
theorem dX8_stretch_69 : decode cX8_stretch 69 = .ok (.ireturn, 1) := by decide +kernel
theorem dX8_day_0 : decode cX8_day 0 = .ok (.aload_n 0, 1) := by decide +kernel
theorem dX8_day_1 : decode cX8_day 1 = .ok (.getfield 42, 3) := by decide +kernel
theorem dX8_day_4 : decode cX8_day 4 = .ok (.aload_n 0, 1) := by decide +kernel
theorem dX8_day_5 : decode cX8_day 5 = .ok (.getfield 35, 3) := by decide +kernel
theorem dX8_day_8 : decode cX8_day 8 = .ok (.invokevirtual 156, 3) := by decide +kernel
theorem dX8_day_11 : decode cX8_day 11 = .ok (.invokevirtual 160, 3) := by decide +kernel
theorem dX8_day_14 : decode cX8_day 14 = .ok (.aload_n 0, 1) := by decide +kernel
theorem dX8_day_15 : decode cX8_day 15 = .ok (.getfield 35, 3) := by decide +kernel
theorem dX8_day_18 : decode cX8_day 18 = .ok (.invokevirtual 164, 3) := by decide +kernel
theorem dX8_day_21 : decode cX8_day 21 = .ok (.ireturn, 1) := by decide +kernel
theorem dX8_halt_0 : decode cX8_halt 0 = .ok (.aload_n 0, 1) := by decide +kernel
theorem dX8_halt_1 : decode cX8_halt 1 = .ok (.getfield 42, 3) := by decide +kernel
theorem dX8_halt_4 : decode cX8_halt 4 = .ok (.aload_n 0, 1) := by decide +kernel
theorem dX8_halt_5 : decode cX8_halt 5 = .ok (.getfield 35, 3) := by decide +kernel
theorem dX8_halt_8 : decode cX8_halt 8 = .ok (.invokevirtual 156, 3) := by decide +kernel
theorem dX8_halt_11 : decode cX8_halt 11 = .ok (.invokevirtual 160, 3) := by decide +kernel
theorem dX8_halt_14 : decode cX8_halt 14 = .ok (.aload_n 0, 1) := by decide +kernel
theorem dX8_halt_15 : decode cX8_halt 15 = .ok (.getfield 35, 3) := by decide +kernel
theorem dX8_halt_18 : decode cX8_halt 18 = .ok (.invokevirtual 167, 3) := by decide +kernel
theorem dX8_halt_21 : decode cX8_halt 21 = .ok (.aload_n 0, 1) := by decide +kernel
theorem dX8_halt_22 : decode cX8_halt 22 = .ok (.getfield 35, 3) := by decide +kernel
theorem dX8_halt_25 : decode cX8_halt 25 = .ok (.invokevirtual 125, 3) := by decide +kernel
theorem dX8_halt_28 : decode cX8_halt 28 = .ok (.ireturn, 1) := by decide +kernel
theorem dX8_gravel_0 : decode cX8_gravel 0 = .ok (.aload_n 0, 1) := by decide +kernel
theorem dX8_gravel_1 : decode cX8_gravel 1 = .ok (.getfield 26, 3) := by decide +kernel
theorem dX8_gravel_4 : decode cX8_gravel 4 = .ok (.iload_n 1, 1) := by decide +kernel
theorem dX8_gravel_5 : decode cX8_gravel 5 = .ok (.invokevirtual 130, 3) := by decide +kernel
theorem dX8_gravel_8 : decode cX8_gravel 8 = .ok (.ifCond .ne 5, 3) := by decide +kernel
theorem dX8_gravel_11 : decode cX8_gravel 11 = .ok (.iconst (-1), 1) := by decide +kernel
theorem dX8_gravel_12 : decode cX8_gravel 12 = .ok (.ireturn, 1) := by decide +kernel
theorem dX8_gravel_13 : decode cX8_gravel 13 = .ok (.aload_n 0, 1) := by decide +kernel
theorem dX8_gravel_14 : decode cX8_gravel 14 = .ok (.getfield 35, 3) := by decide +kernel
theorem dX8_gravel_17 : decode cX8_gravel 17 = .ok (.iload_n 1, 1) := by decide +kernel
theorem dX8_gravel_18 : decode cX8_gravel 18 = .ok (.invokevirtual 170, 3) := by decide +kernel
theorem dX8_gravel_21 : decode cX8_gravel 21 = .ok (.ifCond .ne 6, 3) := by decide +kernel
theorem dX8_gravel_24 : decode cX8_gravel 24 = .ok (.bipush (-4), 2) := by decide +kernel
theorem dX8_gravel_26 : decode cX8_gravel 26 = .ok (.ireturn, 1) := by decide +kernel
theorem dX8_gravel_27 : decode cX8_gravel 27 = .ok (.aload_n 0, 1) := by decide +kernel
theorem dX8_gravel_28 : decode cX8_gravel 28 = .ok (.getfield 42, 3) := by decide +kernel
theorem dX8_gravel_31 : decode cX8_gravel 31 = .ok (.aload_n 0, 1) := by decide +kernel
theorem dX8_gravel_32 : decode cX8_gravel 32 = .ok (.getfield 35, 3) := by decide +kernel
theorem dX8_gravel_35 : decode cX8_gravel 35 = .ok (.invokevirtual 156, 3) := by decide +kernel
theorem dX8_gravel_38 : decode cX8_gravel 38 = .ok (.invokevirtual 160, 3) := by decide +kernel
theorem dX8_gravel_41 : decode cX8_gravel 41 = .ok (.aload_n 0, 1) := by decide +kernel
theorem dX8_gravel_42 : decode cX8_gravel 42 = .ok (.getfield 35, 3) := by decide +kernel
theorem dX8_gravel_45 : decode cX8_gravel 45 = .ok (.iload_n 1, 1) := by decide +kernel
theorem dX8_gravel_46 : decode cX8_gravel 46 = .ok (.invokevirtual 173, 3) := by decide +kernel
theorem dX8_gravel_49 : decode cX8_gravel 49 = .ok (.aload_n 0, 1) := by decide +kernel
theorem dX8_gravel_50 : decode cX8_gravel 50 = .ok (.getfield 35, 3) := by decide +kernel
theorem dX8_gravel_53 : decode cX8_gravel 53 = .ok (.iload_n 1, 1) := by decide +kernel
theorem dX8_gravel_54 : decode cX8_gravel 54 = .ok (.invokevirtual 140, 3) := by decide +kernel
theorem dX8_gravel_57 : decode cX8_gravel 57 = .ok (.ireturn, 1) := by decide +kernel
theorem dX8_pull_0 : decode cX8_pull 0 = .ok (.aload_n 0, 1) := by decide +kernel
theorem dX8_pull_1 : decode cX8_pull 1 = .ok (.getfield 26, 3) := by decide +kernel
theorem dX8_pull_4 : decode cX8_pull 4 = .ok (.iload_n 1, 1) := by decide +kernel
theorem dX8_pull_5 : decode cX8_pull 5 = .ok (.invokevirtual 130, 3) := by decide +kernel
theorem dX8_pull_8 : decode cX8_pull 8 = .ok (.ifCond .ne 5, 3) := by decide +kernel
theorem dX8_pull_11 : decode cX8_pull 11 = .ok (.iconst (-1), 1) := by decide +kernel
theorem dX8_pull_12 : decode cX8_pull 12 = .ok (.ireturn, 1) := by decide +kernel
theorem dX8_pull_13 : decode cX8_pull 13 = .ok (.aload_n 0, 1) := by decide +kernel
theorem dX8_pull_14 : decode cX8_pull 14 = .ok (.getfield 35, 3) := by decide +kernel
theorem dX8_pull_17 : decode cX8_pull 17 = .ok (.iload_n 1, 1) := by decide +kernel
theorem dX8_pull_18 : decode cX8_pull 18 = .ok (.invokevirtual 176, 3) := by decide +kernel
theorem dX8_pull_21 : decode cX8_pull 21 = .ok (.ifCond .ne 6, 3) := by decide +kernel
theorem dX8_pull_24 : decode cX8_pull 24 = .ok (.bipush (-3), 2) := by decide +kernel
theorem dX8_pull_26 : decode cX8_pull 26 = .ok (.ireturn, 1) := by decide +kernel
theorem dX8_pull_27 : decode cX8_pull 27 = .ok (.aload_n 0, 1) := by decide +kernel
theorem dX8_pull_28 : decode cX8_pull 28 = .ok (.getfield 42, 3) := by decide +kernel
theorem dX8_pull_31 : decode cX8_pull 31 = .ok (.aload_n 0, 1) := by decide +kernel
theorem dX8_pull_32 : decode cX8_pull 32 = .ok (.getfield 35, 3) := by decide +kernel
theorem dX8_pull_35 : decode cX8_pull 35 = .ok (.invokevirtual 156, 3) := by decide +kernel
theorem dX8_pull_38 : decode cX8_pull 38 = .ok (.invokevirtual 160, 3) := by decide +kernel
theorem dX8_pull_41 : decode cX8_pull 41 = .ok (.aload_n 0, 1) := by decide +kernel
theorem dX8_pull_42 : decode cX8_pull 42 = .ok (.getfield 35, 3) := by decide +kernel
theorem dX8_pull_45 : decode cX8_pull 45 = .ok (.iload_n 1, 1) := by decide +kernel
theorem dX8_pull_46 : decode cX8_pull 46 = .ok (.invokevirtual 179, 3) := by decide +kernel
theorem dX8_pull_49 : decode cX8_pull 49 = .ok (.aload_n 0, 1) := by decide +kernel
theorem dX8_pull_50 : decode cX8_pull 50 = .ok (.getfield 35, 3) := by decide +kernel
theorem dX8_pull_53 : decode cX8_pull 53 = .ok (.iload_n 1, 1) := by decide +kernel
theorem dX8_pull_54 : decode cX8_pull 54 = .ok (.invokevirtual 140, 3) := by decide +kernel
theorem dX8_pull_57 : decode cX8_pull 57 = .ok (.ireturn, 1) := by decide +kernel
theorem dX8_undo_0 : decode cX8_undo 0 = .ok (.aload_n 0, 1) := by decide +kernel
theorem dX8_undo_1 : decode cX8_undo 1 = .ok (.getfield 42, 3) := by decide +kernel
theorem dX8_undo_4 : decode cX8_undo 4 = .ok (.invokevirtual 128, 3) := by decide +kernel
theorem dX8_undo_7 : decode cX8_undo 7 = .ok (.ifCond .ne 6, 3) := by decide +kernel
theorem dX8_undo_10 : decode cX8_undo 10 = .ok (.bipush (-3), 2) := by decide +kernel
theorem dX8_undo_12 : decode cX8_undo 12 = .ok (.ireturn, 1) := by decide +kernel
theorem dX8_undo_13 : decode cX8_undo 13 = .ok (.aload_n 0, 1) := by decide +kernel
theorem dX8_undo_14 : decode cX8_undo 14 = .ok (.getfield 35, 3) := by decide +kernel
theorem dX8_undo_17 : decode cX8_undo 17 = .ok (.aload_n 0, 1) := by decide +kernel
theorem dX8_undo_18 : decode cX8_undo 18 = .ok (.getfield 42, 3) := by decide +kernel
theorem dX8_undo_21 : decode cX8_undo 21 = .ok (.invokevirtual 182, 3) := by decide +kernel
theorem dX8_undo_24 : decode cX8_undo 24 = .ok (.invokevirtual 185, 3) := by decide +kernel
theorem dX8_undo_27 : decode cX8_undo 27 = .ok (.aload_n 0, 1) := by decide +kernel
theorem dX8_undo_28 : decode cX8_undo 28 = .ok (.getfield 42, 3) := by decide +kernel
theorem dX8_undo_31 : decode cX8_undo 31 = .ok (.invokevirtual 128, 3) := by decide +kernel
theorem dX8_undo_34 : decode cX8_undo 34 = .ok (.ireturn, 1) := by decide +kernel
theorem dX8_later_0 : decode cX8_later 0 = .ok (.iload_n 1, 1) := by decide +kernel
theorem dX8_later_1 : decode cX8_later 1 = .ok (.ifCond .lt 16, 3) := by decide +kernel
theorem dX8_later_4 : decode cX8_later 4 = .ok (.iload_n 1, 1) := by decide +kernel
theorem dX8_later_5 : decode cX8_later 5 = .ok (.bipush 40, 2) := by decide +kernel
theorem dX8_later_7 : decode cX8_later 7 = .ok (.if_icmp .gt 10, 3) := by decide +kernel
theorem dX8_later_10 : decode cX8_later 10 = .ok (.iload_n 2, 1) := by decide +kernel
theorem dX8_later_11 : decode cX8_later 11 = .ok (.invokestatic 188, 3) := by decide +kernel
theorem dX8_later_14 : decode cX8_later 14 = .ok (.ifCond .ne 6, 3) := by decide +kernel
theorem dX8_later_17 : decode cX8_later 17 = .ok (.bipush (-2), 2) := by decide +kernel
theorem dX8_later_19 : decode cX8_later 19 = .ok (.ireturn, 1) := by decide +kernel
theorem dX8_later_20 : decode cX8_later 20 = .ok (.iload_n 2, 1) := by decide +kernel
theorem dX8_later_21 : decode cX8_later 21 = .ok (.ifCond .ne 14, 3) := by decide +kernel
theorem dX8_later_24 : decode cX8_later 24 = .ok (.aload_n 0, 1) := by decide +kernel
theorem dX8_later_25 : decode cX8_later 25 = .ok (.getfield 51, 3) := by decide +kernel
theorem dX8_later_28 : decode cX8_later 28 = .ok (.iload_n 1, 1) := by decide +kernel
theorem dX8_later_29 : decode cX8_later 29 = .ok (.invokevirtual 191, 3) := by decide +kernel
theorem dX8_later_32 : decode cX8_later 32 = .ok (.goto 11, 3) := by decide +kernel
theorem dX8_later_35 : decode cX8_later 35 = .ok (.aload_n 0, 1) := by decide +kernel
theorem dX8_later_36 : decode cX8_later 36 = .ok (.getfield 51, 3) := by decide +kernel
theorem dX8_later_39 : decode cX8_later 39 = .ok (.iload_n 1, 1) := by decide +kernel
theorem dX8_later_40 : decode cX8_later 40 = .ok (.invokevirtual 194, 3) := by decide +kernel
theorem dX8_later_43 : decode cX8_later 43 = .ok (.ireturn, 1) := by decide +kernel
theorem dX8_comes_0 : decode cX8_comes 0 = .ok (.aload_n 0, 1) := by decide +kernel
theorem dX8_comes_1 : decode cX8_comes 1 = .ok (.getfield 51, 3) := by decide +kernel
theorem dX8_comes_4 : decode cX8_comes 4 = .ok (.invokevirtual 197, 3) := by decide +kernel
theorem dX8_comes_7 : decode cX8_comes 7 = .ok (.ireturn, 1) := by decide +kernel
theorem dX8_leads_0 : decode cX8_leads 0 = .ok (.aload_n 0, 1) := by decide +kernel
theorem dX8_leads_1 : decode cX8_leads 1 = .ok (.getfield 26, 3) := by decide +kernel
theorem dX8_leads_4 : decode cX8_leads 4 = .ok (.iload_n 1, 1) := by decide +kernel
theorem dX8_leads_5 : decode cX8_leads 5 = .ok (.invokevirtual 130, 3) := by decide +kernel
theorem dX8_leads_8 : decode cX8_leads 8 = .ok (.ifCond .ne 5, 3) := by decide +kernel
theorem dX8_leads_11 : decode cX8_leads 11 = .ok (.iconst (-1), 1) := by decide +kernel
theorem dX8_leads_12 : decode cX8_leads 12 = .ok (.ireturn, 1) := by decide +kernel
theorem dX8_leads_13 : decode cX8_leads 13 = .ok (.aload_n 0, 1) := by decide +kernel
theorem dX8_leads_14 : decode cX8_leads 14 = .ok (.getfield 51, 3) := by decide +kernel
theorem dX8_leads_17 : decode cX8_leads 17 = .ok (.iload_n 1, 1) := by decide +kernel
theorem dX8_leads_18 : decode cX8_leads 18 = .ok (.invokevirtual 200, 3) := by decide +kernel
theorem dX8_leads_21 : decode cX8_leads 21 = .ok (.ireturn, 1) := by decide +kernel
theorem dX8_cure_0 : decode cX8_cure 0 = .ok (.iload_n 1, 1) := by decide +kernel
theorem dX8_cure_1 : decode cX8_cure 1 = .ok (.invokestatic 188, 3) := by decide +kernel
theorem dX8_cure_4 : decode cX8_cure 4 = .ok (.ifCond .ne 6, 3) := by decide +kernel
theorem dX8_cure_7 : decode cX8_cure 7 = .ok (.bipush (-2), 2) := by decide +kernel
theorem dX8_cure_9 : decode cX8_cure 9 = .ok (.ireturn, 1) := by decide +kernel
theorem dX8_cure_10 : decode cX8_cure 10 = .ok (.aload_n 0, 1) := by decide +kernel
theorem dX8_cure_11 : decode cX8_cure 11 = .ok (.getfield 51, 3) := by decide +kernel
theorem dX8_cure_14 : decode cX8_cure 14 = .ok (.iload_n 1, 1) := by decide +kernel
theorem dX8_cure_15 : decode cX8_cure 15 = .ok (.ifCond .ne 7, 3) := by decide +kernel
theorem dX8_cure_18 : decode cX8_cure 18 = .ok (.iconst 1, 1) := by decide +kernel
theorem dX8_cure_19 : decode cX8_cure 19 = .ok (.goto 4, 3) := by decide +kernel
theorem dX8_cure_22 : decode cX8_cure 22 = .ok (.iconst 0, 1) := by decide +kernel
theorem dX8_cure_23 : decode cX8_cure 23 = .ok (.invokevirtual 203, 3) := by decide +kernel
theorem dX8_cure_26 : decode cX8_cure 26 = .ok (.ireturn, 1) := by decide +kernel
theorem dX8_plan_0 : decode cX8_plan 0 = .ok (.iload_n 1, 1) := by decide +kernel
theorem dX8_plan_1 : decode cX8_plan 1 = .ok (.ifCond .lt 16, 3) := by decide +kernel
theorem dX8_plan_4 : decode cX8_plan 4 = .ok (.iload_n 1, 1) := by decide +kernel
theorem dX8_plan_5 : decode cX8_plan 5 = .ok (.bipush 20, 2) := by decide +kernel
theorem dX8_plan_7 : decode cX8_plan 7 = .ok (.if_icmp .gt 10, 3) := by decide +kernel
theorem dX8_plan_10 : decode cX8_plan 10 = .ok (.iload_n 2, 1) := by decide +kernel
theorem dX8_plan_11 : decode cX8_plan 11 = .ok (.invokestatic 188, 3) := by decide +kernel
theorem dX8_plan_14 : decode cX8_plan 14 = .ok (.ifCond .ne 6, 3) := by decide +kernel
theorem dX8_plan_17 : decode cX8_plan 17 = .ok (.bipush (-2), 2) := by decide +kernel
theorem dX8_plan_19 : decode cX8_plan 19 = .ok (.ireturn, 1) := by decide +kernel
theorem dX8_plan_20 : decode cX8_plan 20 = .ok (.aload_n 0, 1) := by decide +kernel
theorem dX8_plan_21 : decode cX8_plan 21 = .ok (.getfield 51, 3) := by decide +kernel
theorem dX8_plan_24 : decode cX8_plan 24 = .ok (.iload_n 1, 1) := by decide +kernel
theorem dX8_plan_25 : decode cX8_plan 25 = .ok (.invokevirtual 207, 3) := by decide +kernel
theorem dX8_plan_28 : decode cX8_plan 28 = .ok (.istore_n 3, 1) := by decide +kernel
theorem dX8_plan_29 : decode cX8_plan 29 = .ok (.iload_n 3, 1) := by decide +kernel
theorem dX8_plan_30 : decode cX8_plan 30 = .ok (.bipush (-9), 2) := by decide +kernel
theorem dX8_plan_32 : decode cX8_plan 32 = .ok (.if_icmp .ne 6, 3) := by decide +kernel
theorem dX8_plan_35 : decode cX8_plan 35 = .ok (.bipush (-9), 2) := by decide +kernel
theorem dX8_plan_37 : decode cX8_plan 37 = .ok (.ireturn, 1) := by decide +kernel
theorem dX8_plan_38 : decode cX8_plan 38 = .ok (.iload_n 2, 1) := by decide +kernel
theorem dX8_plan_39 : decode cX8_plan 39 = .ok (.ifCond .ne 14, 3) := by decide +kernel
theorem dX8_plan_42 : decode cX8_plan 42 = .ok (.aload_n 0, 1) := by decide +kernel
theorem dX8_plan_43 : decode cX8_plan 43 = .ok (.getfield 51, 3) := by decide +kernel
theorem dX8_plan_46 : decode cX8_plan 46 = .ok (.iload_n 3, 1) := by decide +kernel
theorem dX8_plan_47 : decode cX8_plan 47 = .ok (.invokevirtual 210, 3) := by decide +kernel
theorem dX8_plan_50 : decode cX8_plan 50 = .ok (.goto 11, 3) := by decide +kernel
theorem dX8_plan_53 : decode cX8_plan 53 = .ok (.aload_n 0, 1) := by decide +kernel
theorem dX8_plan_54 : decode cX8_plan 54 = .ok (.getfield 51, 3) := by decide +kernel
theorem dX8_plan_57 : decode cX8_plan 57 = .ok (.iload_n 3, 1) := by decide +kernel
theorem dX8_plan_58 : decode cX8_plan 58 = .ok (.invokevirtual 213, 3) := by decide +kernel
theorem dX8_plan_61 : decode cX8_plan 61 = .ok (.ireturn, 1) := by decide +kernel
theorem dX8_judge_0 : decode cX8_judge 0 = .ok (.iload_n 1, 1) := by decide +kernel
theorem dX8_judge_1 : decode cX8_judge 1 = .ok (.iconst 1, 1) := by decide +kernel
theorem dX8_judge_2 : decode cX8_judge 2 = .ok (.if_icmp .lt 29, 3) := by decide +kernel
theorem dX8_judge_5 : decode cX8_judge 5 = .ok (.iload_n 1, 1) := by decide +kernel
theorem dX8_judge_6 : decode cX8_judge 6 = .ok (.getstatic 216, 3) := by decide +kernel
theorem dX8_judge_9 : decode cX8_judge 9 = .ok (.arraylength, 1) := by decide +kernel
theorem dX8_judge_10 : decode cX8_judge 10 = .ok (.if_icmp .gt 21, 3) := by decide +kernel
theorem dX8_judge_13 : decode cX8_judge 13 = .ok (.lload_n 2, 1) := by decide +kernel
theorem dX8_judge_14 : decode cX8_judge 14 = .ok (.lconst 0, 1) := by decide +kernel
theorem dX8_judge_15 : decode cX8_judge 15 = .ok (.lcmp, 1) := by decide +kernel
theorem dX8_judge_16 : decode cX8_judge 16 = .ok (.ifCond .lt 15, 3) := by decide +kernel
theorem dX8_judge_19 : decode cX8_judge 19 = .ok (.lload_n 2, 1) := by decide +kernel
theorem dX8_judge_20 : decode cX8_judge 20 = .ok (.getstatic 216, 3) := by decide +kernel
theorem dX8_judge_23 : decode cX8_judge 23 = .ok (.iload_n 1, 1) := by decide +kernel
theorem dX8_judge_24 : decode cX8_judge 24 = .ok (.iconst 1, 1) := by decide +kernel
theorem dX8_judge_25 : decode cX8_judge 25 = .ok (.isub, 1) := by decide +kernel
theorem dX8_judge_26 : decode cX8_judge 26 = .ok (.laload, 1) := by decide +kernel
theorem dX8_judge_27 : decode cX8_judge 27 = .ok (.lcmp, 1) := by decide +kernel
theorem dX8_judge_28 : decode cX8_judge 28 = .ok (.ifCond .lt 6, 3) := by decide +kernel
theorem dX8_judge_31 : decode cX8_judge 31 = .ok (.bipush (-2), 2) := by decide +kernel
theorem dX8_judge_33 : decode cX8_judge 33 = .ok (.ireturn, 1) := by decide +kernel
theorem dX8_judge_34 : decode cX8_judge 34 = .ok (.aload_n 0, 1) := by decide +kernel
theorem dX8_judge_35 : decode cX8_judge 35 = .ok (.getfield 51, 3) := by decide +kernel
theorem dX8_judge_38 : decode cX8_judge 38 = .ok (.iload_n 1, 1) := by decide +kernel
theorem dX8_judge_39 : decode cX8_judge 39 = .ok (.lload_n 2, 1) := by decide +kernel
theorem dX8_judge_40 : decode cX8_judge 40 = .ok (.invokevirtual 219, 3) := by decide +kernel
theorem dX8_judge_43 : decode cX8_judge 43 = .ok (.ireturn, 1) := by decide +kernel
theorem dX8_share_0 : decode cX8_share 0 = .ok (.aload_n 0, 1) := by decide +kernel
theorem dX8_share_1 : decode cX8_share 1 = .ok (.getfield 26, 3) := by decide +kernel
theorem dX8_share_4 : decode cX8_share 4 = .ok (.iload_n 1, 1) := by decide +kernel
theorem dX8_share_5 : decode cX8_share 5 = .ok (.invokevirtual 130, 3) := by decide +kernel
theorem dX8_share_8 : decode cX8_share 8 = .ok (.ifCond .ne 5, 3) := by decide +kernel
theorem dX8_share_11 : decode cX8_share 11 = .ok (.iconst (-1), 1) := by decide +kernel
theorem dX8_share_12 : decode cX8_share 12 = .ok (.ireturn, 1) := by decide +kernel
theorem dX8_share_13 : decode cX8_share 13 = .ok (.aload_n 0, 1) := by decide +kernel
theorem dX8_share_14 : decode cX8_share 14 = .ok (.getfield 26, 3) := by decide +kernel
theorem dX8_share_17 : decode cX8_share 17 = .ok (.invokevirtual 105, 3) := by decide +kernel
theorem dX8_share_20 : decode cX8_share 20 = .ok (.invokestatic 223, 3) := by decide +kernel
theorem dX8_share_23 : decode cX8_share 23 = .ok (.istore_n 3, 1) := by decide +kernel
theorem dX8_share_24 : decode cX8_share 24 = .ok (.aload_n 0, 1) := by decide +kernel
theorem dX8_share_25 : decode cX8_share 25 = .ok (.getfield 51, 3) := by decide +kernel
theorem dX8_share_28 : decode cX8_share 28 = .ok (.iload_n 1, 1) := by decide +kernel
theorem dX8_share_29 : decode cX8_share 29 = .ok (.invokevirtual 226, 3) := by decide +kernel
theorem dX8_share_32 : decode cX8_share 32 = .ok (.iload_n 3, 1) := by decide +kernel
theorem dX8_share_33 : decode cX8_share 33 = .ok (.iload_n 2, 1) := by decide +kernel
theorem dX8_share_34 : decode cX8_share 34 = .ok (.invokestatic 229, 3) := by decide +kernel
theorem dX8_share_37 : decode cX8_share 37 = .ok (.ireturn, 1) := by decide +kernel
theorem dX8_attempt_0 : decode cX8_attempt 0 = .ok (.iload_n 1, 1) := by decide +kernel
theorem dX8_attempt_1 : decode cX8_attempt 1 = .ok (.ifCond .lt 26, 3) := by decide +kernel
theorem dX8_attempt_4 : decode cX8_attempt 4 = .ok (.iload_n 1, 1) := by decide +kernel
theorem dX8_attempt_5 : decode cX8_attempt 5 = .ok (.iconst 3, 1) := by decide +kernel
theorem dX8_attempt_6 : decode cX8_attempt 6 = .ok (.if_icmp .gt 21, 3) := by decide +kernel
theorem dX8_attempt_9 : decode cX8_attempt 9 = .ok (.iload_n 2, 1) := by decide +kernel
theorem dX8_attempt_10 : decode cX8_attempt 10 = .ok (.iconst 1, 1) := by decide +kernel
theorem dX8_attempt_11 : decode cX8_attempt 11 = .ok (.if_icmp .lt 16, 3) := by decide +kernel
theorem dX8_attempt_14 : decode cX8_attempt 14 = .ok (.iload_n 2, 1) := by decide +kernel
theorem dX8_attempt_15 : decode cX8_attempt 15 = .ok (.bipush 9, 2) := by decide +kernel
theorem dX8_attempt_17 : decode cX8_attempt 17 = .ok (.if_icmp .gt 10, 3) := by decide +kernel
theorem dX8_attempt_20 : decode cX8_attempt 20 = .ok (.iload_n 3, 1) := by decide +kernel
theorem dX8_attempt_21 : decode cX8_attempt 21 = .ok (.invokestatic 188, 3) := by decide +kernel
theorem dX8_attempt_24 : decode cX8_attempt 24 = .ok (.ifCond .ne 6, 3) := by decide +kernel
theorem dX8_attempt_27 : decode cX8_attempt 27 = .ok (.bipush (-2), 2) := by decide +kernel
theorem dX8_attempt_29 : decode cX8_attempt 29 = .ok (.ireturn, 1) := by decide +kernel
theorem dX8_attempt_30 : decode cX8_attempt 30 = .ok (.aload_n 0, 1) := by decide +kernel
theorem dX8_attempt_31 : decode cX8_attempt 31 = .ok (.getfield 65, 3) := by decide +kernel
theorem dX8_attempt_34 : decode cX8_attempt 34 = .ok (.invokevirtual 129, 3) := by decide +kernel
theorem dX8_attempt_37 : decode cX8_attempt 37 = .ok (.bipush 6, 2) := by decide +kernel
theorem dX8_attempt_39 : decode cX8_attempt 39 = .ok (.if_icmp .lt 6, 3) := by decide +kernel
theorem dX8_attempt_42 : decode cX8_attempt 42 = .ok (.bipush (-4), 2) := by decide +kernel
theorem dX8_attempt_44 : decode cX8_attempt 44 = .ok (.ireturn, 1) := by decide +kernel
theorem dX8_attempt_45 : decode cX8_attempt 45 = .ok (.aload_n 0, 1) := by decide +kernel
theorem dX8_attempt_46 : decode cX8_attempt 46 = .ok (.getfield 65, 3) := by decide +kernel
theorem dX8_attempt_49 : decode cX8_attempt 49 = .ok (.iload_n 1, 1) := by decide +kernel
theorem dX8_attempt_50 : decode cX8_attempt 50 = .ok (.iload_n 2, 1) := by decide +kernel
theorem dX8_attempt_51 : decode cX8_attempt 51 = .ok (.iload_n 3, 1) := by decide +kernel
theorem dX8_attempt_52 : decode cX8_attempt 52 = .ok (.iconst 1, 1) := by decide +kernel
theorem dX8_attempt_53 : decode cX8_attempt 53 = .ok (.if_icmp .ne 7, 3) := by decide +kernel
theorem dX8_attempt_56 : decode cX8_attempt 56 = .ok (.iconst 1, 1) := by decide +kernel
theorem dX8_attempt_57 : decode cX8_attempt 57 = .ok (.goto 4, 3) := by decide +kernel
theorem dX8_attempt_60 : decode cX8_attempt 60 = .ok (.iconst 0, 1) := by decide +kernel
theorem dX8_attempt_61 : decode cX8_attempt 61 = .ok (.invokevirtual 233, 3) := by decide +kernel
theorem dX8_attempt_64 : decode cX8_attempt 64 = .ok (.aload_n 0, 1) := by decide +kernel
theorem dX8_attempt_65 : decode cX8_attempt 65 = .ok (.getfield 65, 3) := by decide +kernel
theorem dX8_attempt_68 : decode cX8_attempt 68 = .ok (.invokevirtual 129, 3) := by decide +kernel
theorem dX8_attempt_71 : decode cX8_attempt 71 = .ok (.ireturn, 1) := by decide +kernel
theorem dX8_unattempt_0 : decode cX8_unattempt 0 = .ok (.aload_n 0, 1) := by decide +kernel
theorem dX8_unattempt_1 : decode cX8_unattempt 1 = .ok (.getfield 65, 3) := by decide +kernel
theorem dX8_unattempt_4 : decode cX8_unattempt 4 = .ok (.invokevirtual 129, 3) := by decide +kernel
theorem dX8_unattempt_7 : decode cX8_unattempt 7 = .ok (.istore_n 1, 1) := by decide +kernel
theorem dX8_unattempt_8 : decode cX8_unattempt 8 = .ok (.aload_n 0, 1) := by decide +kernel
theorem dX8_unattempt_9 : decode cX8_unattempt 9 = .ok (.getfield 65, 3) := by decide +kernel
theorem dX8_unattempt_12 : decode cX8_unattempt 12 = .ok (.invokevirtual 237, 3) := by decide +kernel
theorem dX8_unattempt_15 : decode cX8_unattempt 15 = .ok (.iload_n 1, 1) := by decide +kernel
theorem dX8_unattempt_16 : decode cX8_unattempt 16 = .ok (.ireturn, 1) := by decide +kernel
theorem dX8_paces_0 : decode cX8_paces 0 = .ok (.iload_n 1, 1) := by decide +kernel
theorem dX8_paces_1 : decode cX8_paces 1 = .ok (.invokestatic 188, 3) := by decide +kernel
theorem dX8_paces_4 : decode cX8_paces 4 = .ok (.ifCond .ne 6, 3) := by decide +kernel
theorem dX8_paces_7 : decode cX8_paces 7 = .ok (.bipush (-2), 2) := by decide +kernel
theorem dX8_paces_9 : decode cX8_paces 9 = .ok (.ireturn, 1) := by decide +kernel
theorem dX8_paces_10 : decode cX8_paces 10 = .ok (.iload_n 1, 1) := by decide +kernel
theorem dX8_paces_11 : decode cX8_paces 11 = .ok (.ifCond .ne 13, 3) := by decide +kernel
theorem dX8_paces_14 : decode cX8_paces 14 = .ok (.aload_n 0, 1) := by decide +kernel
theorem dX8_paces_15 : decode cX8_paces 15 = .ok (.getfield 65, 3) := by decide +kernel
theorem dX8_paces_18 : decode cX8_paces 18 = .ok (.invokevirtual 238, 3) := by decide +kernel
theorem dX8_paces_21 : decode cX8_paces 21 = .ok (.goto 10, 3) := by decide +kernel
theorem dX8_paces_24 : decode cX8_paces 24 = .ok (.aload_n 0, 1) := by decide +kernel
theorem dX8_paces_25 : decode cX8_paces 25 = .ok (.getfield 65, 3) := by decide +kernel
theorem dX8_paces_28 : decode cX8_paces 28 = .ok (.invokevirtual 241, 3) := by decide +kernel
theorem dX8_paces_31 : decode cX8_paces 31 = .ok (.ireturn, 1) := by decide +kernel
theorem dX8_rests_0 : decode cX8_rests 0 = .ok (.aload_n 0, 1) := by decide +kernel
theorem dX8_rests_1 : decode cX8_rests 1 = .ok (.getfield 26, 3) := by decide +kernel
theorem dX8_rests_4 : decode cX8_rests 4 = .ok (.iload_n 1, 1) := by decide +kernel
theorem dX8_rests_5 : decode cX8_rests 5 = .ok (.invokevirtual 130, 3) := by decide +kernel
theorem dX8_rests_8 : decode cX8_rests 8 = .ok (.ifCond .eq 14, 3) := by decide +kernel
theorem dX8_rests_11 : decode cX8_rests 11 = .ok (.aload_n 0, 1) := by decide +kernel
theorem dX8_rests_12 : decode cX8_rests 12 = .ok (.getfield 26, 3) := by decide +kernel
theorem dX8_rests_15 : decode cX8_rests 15 = .ok (.iload_n 2, 1) := by decide +kernel
theorem dX8_rests_16 : decode cX8_rests 16 = .ok (.invokevirtual 130, 3) := by decide +kernel
theorem dX8_rests_19 : decode cX8_rests 19 = .ok (.ifCond .ne 5, 3) := by decide +kernel
theorem dX8_rests_22 : decode cX8_rests 22 = .ok (.iconst (-1), 1) := by decide +kernel
theorem dX8_rests_23 : decode cX8_rests 23 = .ok (.ireturn, 1) := by decide +kernel
theorem dX8_rests_24 : decode cX8_rests 24 = .ok (.iload_n 1, 1) := by decide +kernel
theorem dX8_rests_25 : decode cX8_rests 25 = .ok (.iload_n 2, 1) := by decide +kernel
theorem dX8_rests_26 : decode cX8_rests 26 = .ok (.if_icmp .eq 10, 3) := by decide +kernel
theorem dX8_rests_29 : decode cX8_rests 29 = .ok (.iload_n 3, 1) := by decide +kernel
theorem dX8_rests_30 : decode cX8_rests 30 = .ok (.invokestatic 188, 3) := by decide +kernel
theorem dX8_rests_33 : decode cX8_rests 33 = .ok (.ifCond .ne 6, 3) := by decide +kernel
theorem dX8_rests_36 : decode cX8_rests 36 = .ok (.bipush (-2), 2) := by decide +kernel
theorem dX8_rests_38 : decode cX8_rests 38 = .ok (.ireturn, 1) := by decide +kernel
theorem dX8_rests_39 : decode cX8_rests 39 = .ok (.aload_n 0, 1) := by decide +kernel
theorem dX8_rests_40 : decode cX8_rests 40 = .ok (.getfield 58, 3) := by decide +kernel
theorem dX8_rests_43 : decode cX8_rests 43 = .ok (.iload_n 1, 1) := by decide +kernel
theorem dX8_rests_44 : decode cX8_rests 44 = .ok (.iload_n 2, 1) := by decide +kernel
theorem dX8_rests_45 : decode cX8_rests 45 = .ok (.invokevirtual 244, 3) := by decide +kernel
theorem dX8_rests_48 : decode cX8_rests 48 = .ok (.iload_n 3, 1) := by decide +kernel
theorem dX8_rests_49 : decode cX8_rests 49 = .ok (.ifCond .ne 13, 3) := by decide +kernel
theorem dX8_rests_52 : decode cX8_rests 52 = .ok (.aload_n 0, 1) := by decide +kernel
theorem dX8_rests_53 : decode cX8_rests 53 = .ok (.getfield 58, 3) := by decide +kernel
theorem dX8_rests_56 : decode cX8_rests 56 = .ok (.invokevirtual 248, 3) := by decide +kernel
theorem dX8_rests_59 : decode cX8_rests 59 = .ok (.goto 10, 3) := by decide +kernel
theorem dX8_rests_62 : decode cX8_rests 62 = .ok (.aload_n 0, 1) := by decide +kernel
theorem dX8_rests_63 : decode cX8_rests 63 = .ok (.getfield 58, 3) := by decide +kernel
theorem dX8_rests_66 : decode cX8_rests 66 = .ok (.invokevirtual 251, 3) := by decide +kernel
theorem dX8_rests_69 : decode cX8_rests 69 = .ok (.ireturn, 1) := by decide +kernel
theorem dX8_thorny_0 : decode cX8_thorny 0 = .ok (.iload_n 1, 1) := by decide +kernel
theorem dX8_thorny_1 : decode cX8_thorny 1 = .ok (.ifCond .lt 19, 3) := by decide +kernel
theorem dX8_thorny_4 : decode cX8_thorny 4 = .ok (.iload_n 1, 1) := by decide +kernel
theorem dX8_thorny_5 : decode cX8_thorny 5 = .ok (.bipush 20, 2) := by decide +kernel
theorem dX8_thorny_7 : decode cX8_thorny 7 = .ok (.if_icmp .gt 13, 3) := by decide +kernel
theorem dX8_thorny_10 : decode cX8_thorny 10 = .ok (.iload_n 2, 1) := by decide +kernel
theorem dX8_thorny_11 : decode cX8_thorny 11 = .ok (.ifCond .lt 9, 3) := by decide +kernel
theorem dX8_thorny_14 : decode cX8_thorny 14 = .ok (.iload_n 2, 1) := by decide +kernel
theorem dX8_thorny_15 : decode cX8_thorny 15 = .ok (.bipush 10, 2) := by decide +kernel
theorem dX8_thorny_17 : decode cX8_thorny 17 = .ok (.if_icmp .le 6, 3) := by decide +kernel
theorem dX8_thorny_20 : decode cX8_thorny 20 = .ok (.bipush (-2), 2) := by decide +kernel
theorem dX8_thorny_22 : decode cX8_thorny 22 = .ok (.ireturn, 1) := by decide +kernel
theorem dX8_thorny_23 : decode cX8_thorny 23 = .ok (.bipush 10, 2) := by decide +kernel
theorem dX8_thorny_25 : decode cX8_thorny 25 = .ok (.aload_n 0, 1) := by decide +kernel
theorem dX8_thorny_26 : decode cX8_thorny 26 = .ok (.getfield 26, 3) := by decide +kernel
theorem dX8_thorny_29 : decode cX8_thorny 29 = .ok (.invokevirtual 105, 3) := by decide +kernel
theorem dX8_thorny_32 : decode cX8_thorny 32 = .ok (.invokestatic 254, 3) := by decide +kernel
theorem dX8_thorny_35 : decode cX8_thorny 35 = .ok (.istore 4, 2) := by decide +kernel
theorem dX8_thorny_37 : decode cX8_thorny 37 = .ok (.aload_n 0, 1) := by decide +kernel
theorem dX8_thorny_38 : decode cX8_thorny 38 = .ok (.getfield 58, 3) := by decide +kernel
theorem dX8_thorny_41 : decode cX8_thorny 41 = .ok (.iload_n 1, 1) := by decide +kernel
theorem dX8_thorny_42 : decode cX8_thorny 42 = .ok (.iload_n 2, 1) := by decide +kernel
theorem dX8_thorny_43 : decode cX8_thorny 43 = .ok (.invokevirtual 258, 3) := by decide +kernel
theorem dX8_thorny_46 : decode cX8_thorny 46 = .ok (.iload 4, 2) := by decide +kernel
theorem dX8_thorny_48 : decode cX8_thorny 48 = .ok (.iload_n 3, 1) := by decide +kernel
theorem dX8_thorny_49 : decode cX8_thorny 49 = .ok (.invokestatic 229, 3) := by decide +kernel
theorem dX8_thorny_52 : decode cX8_thorny 52 = .ok (.ireturn, 1) := by decide +kernel
theorem dX8_seed_0 : decode cX8_seed 0 = .ok (.aload_n 0, 1) := by decide +kernel
theorem dX8_seed_1 : decode cX8_seed 1 = .ok (.getfield 75, 3) := by decide +kernel
theorem dX8_seed_4 : decode cX8_seed 4 = .ok (.lstore_n 3, 1) := by decide +kernel
theorem dX8_seed_5 : decode cX8_seed 5 = .ok (.aload_n 0, 1) := by decide +kernel
theorem dX8_seed_6 : decode cX8_seed 6 = .ok (.lload_n 1, 1) := by decide +kernel
theorem dX8_seed_7 : decode cX8_seed 7 = .ok (.putfield 75, 3) := by decide +kernel
theorem dX8_seed_10 : decode cX8_seed 10 = .ok (.lload_n 3, 1) := by decide +kernel
theorem dX8_seed_11 : decode cX8_seed 11 = .ok (.lreturn, 1) := by decide +kernel
theorem dX8_campaigns_0 : decode cX8_campaigns 0 = .ok (.iload_n 1, 1) := by decide +kernel
theorem dX8_campaigns_1 : decode cX8_campaigns 1 = .ok (.iconst 1, 1) := by decide +kernel
theorem dX8_campaigns_2 : decode cX8_campaigns 2 = .ok (.if_icmp .lt 9, 3) := by decide +kernel
theorem dX8_campaigns_5 : decode cX8_campaigns 5 = .ok (.iload_n 1, 1) := by decide +kernel
theorem dX8_campaigns_6 : decode cX8_campaigns 6 = .ok (.bipush 30, 2) := by decide +kernel
theorem dX8_campaigns_8 : decode cX8_campaigns 8 = .ok (.if_icmp .le 6, 3) := by decide +kernel
theorem dX8_campaigns_11 : decode cX8_campaigns 11 = .ok (.bipush (-2), 2) := by decide +kernel
theorem dX8_campaigns_13 : decode cX8_campaigns 13 = .ok (.ireturn, 1) := by decide +kernel
theorem dX8_campaigns_14 : decode cX8_campaigns 14 = .ok (.iconst 0, 1) := by decide +kernel
theorem dX8_campaigns_15 : decode cX8_campaigns 15 = .ok (.istore_n 2, 1) := by decide +kernel
theorem dX8_campaigns_16 : decode cX8_campaigns 16 = .ok (.aload_n 0, 1) := by decide +kernel
theorem dX8_campaigns_17 : decode cX8_campaigns 17 = .ok (.getfield 58, 3) := by decide +kernel
theorem dX8_campaigns_20 : decode cX8_campaigns 20 = .ok (.invokevirtual 261, 3) := by decide +kernel
theorem dX8_campaigns_23 : decode cX8_campaigns 23 = .ok (.iconst 0, 1) := by decide +kernel
theorem dX8_campaigns_24 : decode cX8_campaigns 24 = .ok (.istore_n 3, 1) := by decide +kernel
theorem dX8_campaigns_25 : decode cX8_campaigns 25 = .ok (.iload_n 3, 1) := by decide +kernel
theorem dX8_campaigns_26 : decode cX8_campaigns 26 = .ok (.iload_n 1, 1) := by decide +kernel
theorem dX8_campaigns_27 : decode cX8_campaigns 27 = .ok (.if_icmp .ge 47, 3) := by decide +kernel
theorem dX8_campaigns_30 : decode cX8_campaigns 30 = .ok (.aload_n 0, 1) := by decide +kernel
theorem dX8_campaigns_31 : decode cX8_campaigns 31 = .ok (.aload_n 0, 1) := by decide +kernel
theorem dX8_campaigns_32 : decode cX8_campaigns 32 = .ok (.getfield 75, 3) := by decide +kernel
theorem dX8_campaigns_35 : decode cX8_campaigns 35 = .ok (.ldc2_w 264, 3) := by decide +kernel
theorem dX8_campaigns_38 : decode cX8_campaigns 38 = .ok (.lmul, 1) := by decide +kernel
theorem dX8_campaigns_39 : decode cX8_campaigns 39 = .ok (.ldc2_w 266, 3) := by decide +kernel
theorem dX8_campaigns_42 : decode cX8_campaigns 42 = .ok (.ladd, 1) := by decide +kernel
theorem dX8_campaigns_43 : decode cX8_campaigns 43 = .ok (.putfield 75, 3) := by decide +kernel
theorem dX8_campaigns_46 : decode cX8_campaigns 46 = .ok (.iload_n 2, 1) := by decide +kernel
theorem dX8_campaigns_47 : decode cX8_campaigns 47 = .ok (.aload_n 0, 1) := by decide +kernel
theorem dX8_campaigns_48 : decode cX8_campaigns 48 = .ok (.getfield 58, 3) := by decide +kernel
theorem dX8_campaigns_51 : decode cX8_campaigns 51 = .ok (.aload_n 0, 1) := by decide +kernel
theorem dX8_campaigns_52 : decode cX8_campaigns 52 = .ok (.getfield 75, 3) := by decide +kernel
theorem dX8_campaigns_55 : decode cX8_campaigns 55 = .ok (.bipush 33, 2) := by decide +kernel
theorem dX8_campaigns_57 : decode cX8_campaigns 57 = .ok (.lushr, 1) := by decide +kernel
theorem dX8_campaigns_58 : decode cX8_campaigns 58 = .ok (.ldc2_w 268, 3) := by decide +kernel
theorem dX8_campaigns_61 : decode cX8_campaigns 61 = .ok (.lrem, 1) := by decide +kernel
theorem dX8_campaigns_62 : decode cX8_campaigns 62 = .ok (.l2i, 1) := by decide +kernel
theorem dX8_campaigns_63 : decode cX8_campaigns 63 = .ok (.invokevirtual 270, 3) := by decide +kernel
theorem dX8_campaigns_66 : decode cX8_campaigns 66 = .ok (.iadd, 1) := by decide +kernel
theorem dX8_campaigns_67 : decode cX8_campaigns 67 = .ok (.istore_n 2, 1) := by decide +kernel
theorem dX8_campaigns_68 : decode cX8_campaigns 68 = .ok (.iinc 3 1, 3) := by decide +kernel
theorem dX8_campaigns_71 : decode cX8_campaigns 71 = .ok (.goto (-46), 3) := by decide +kernel
theorem dX8_campaigns_74 : decode cX8_campaigns 74 = .ok (.iload_n 2, 1) := by decide +kernel
theorem dX8_campaigns_75 : decode cX8_campaigns 75 = .ok (.ireturn, 1) := by decide +kernel
theorem dX8_keep_0 : decode cX8_keep 0 = .ok (.iload_n 1, 1) := by decide +kernel
theorem dX8_keep_1 : decode cX8_keep 1 = .ok (.ifCond .lt 12, 3) := by decide +kernel
theorem dX8_keep_4 : decode cX8_keep 4 = .ok (.iload_n 1, 1) := by decide +kernel
theorem dX8_keep_5 : decode cX8_keep 5 = .ok (.aload_n 0, 1) := by decide +kernel
theorem dX8_keep_6 : decode cX8_keep 6 = .ok (.getfield 71, 3) := by decide +kernel
theorem dX8_keep_9 : decode cX8_keep 9 = .ok (.arraylength, 1) := by decide +kernel
theorem dX8_keep_10 : decode cX8_keep 10 = .ok (.if_icmp .lt 5, 3) := by decide +kernel
theorem dX8_keep_13 : decode cX8_keep 13 = .ok (.iconst (-1), 1) := by decide +kernel
theorem dX8_keep_14 : decode cX8_keep 14 = .ok (.ireturn, 1) := by decide +kernel
theorem dX8_keep_15 : decode cX8_keep 15 = .ok (.aload_n 0, 1) := by decide +kernel
theorem dX8_keep_16 : decode cX8_keep 16 = .ok (.getfield 71, 3) := by decide +kernel
theorem dX8_keep_19 : decode cX8_keep 19 = .ok (.iload_n 1, 1) := by decide +kernel
theorem dX8_keep_20 : decode cX8_keep 20 = .ok (.aload_n 0, 1) := by decide +kernel
theorem dX8_keep_21 : decode cX8_keep 21 = .ok (.getfield 35, 3) := by decide +kernel
theorem dX8_keep_24 : decode cX8_keep 24 = .ok (.invokevirtual 156, 3) := by decide +kernel
theorem dX8_keep_27 : decode cX8_keep 27 = .ok (.lastore, 1) := by decide +kernel
theorem dX8_keep_28 : decode cX8_keep 28 = .ok (.aload_n 0, 1) := by decide +kernel
theorem dX8_keep_29 : decode cX8_keep 29 = .ok (.getfield 35, 3) := by decide +kernel
theorem dX8_keep_32 : decode cX8_keep 32 = .ok (.invokevirtual 112, 3) := by decide +kernel
theorem dX8_keep_35 : decode cX8_keep 35 = .ok (.ireturn, 1) := by decide +kernel
theorem dX8_again_0 : decode cX8_again 0 = .ok (.iload_n 1, 1) := by decide +kernel
theorem dX8_again_1 : decode cX8_again 1 = .ok (.ifCond .lt 12, 3) := by decide +kernel
theorem dX8_again_4 : decode cX8_again 4 = .ok (.iload_n 1, 1) := by decide +kernel
theorem dX8_again_5 : decode cX8_again 5 = .ok (.aload_n 0, 1) := by decide +kernel
theorem dX8_again_6 : decode cX8_again 6 = .ok (.getfield 71, 3) := by decide +kernel
theorem dX8_again_9 : decode cX8_again 9 = .ok (.arraylength, 1) := by decide +kernel
theorem dX8_again_10 : decode cX8_again 10 = .ok (.if_icmp .lt 5, 3) := by decide +kernel
theorem dX8_again_13 : decode cX8_again 13 = .ok (.iconst (-1), 1) := by decide +kernel
theorem dX8_again_14 : decode cX8_again 14 = .ok (.ireturn, 1) := by decide +kernel
theorem dX8_again_15 : decode cX8_again 15 = .ok (.aload_n 0, 1) := by decide +kernel
end
section
theorem dX8_again_16 : decode cX8_again 16 = .ok (.getfield 71, 3) := by decide +kernel
theorem dX8_again_19 : decode cX8_again 19 = .ok (.iload_n 1, 1) := by decide +kernel
theorem dX8_again_20 : decode cX8_again 20 = .ok (.laload, 1) := by decide +kernel
theorem dX8_again_21 : decode cX8_again 21 = .ok (.ldc2_w 69, 3) := by decide +kernel
theorem dX8_again_24 : decode cX8_again 24 = .ok (.lcmp, 1) := by decide +kernel
theorem dX8_again_25 : decode cX8_again 25 = .ok (.ifCond .ne 6, 3) := by decide +kernel
theorem dX8_again_28 : decode cX8_again 28 = .ok (.bipush (-3), 2) := by decide +kernel
theorem dX8_again_30 : decode cX8_again 30 = .ok (.ireturn, 1) := by decide +kernel
theorem dX8_again_31 : decode cX8_again 31 = .ok (.aload_n 0, 1) := by decide +kernel
theorem dX8_again_32 : decode cX8_again 32 = .ok (.getfield 35, 3) := by decide +kernel
theorem dX8_again_35 : decode cX8_again 35 = .ok (.aload_n 0, 1) := by decide +kernel
theorem dX8_again_36 : decode cX8_again 36 = .ok (.getfield 71, 3) := by decide +kernel
theorem dX8_again_39 : decode cX8_again 39 = .ok (.iload_n 1, 1) := by decide +kernel
theorem dX8_again_40 : decode cX8_again 40 = .ok (.laload, 1) := by decide +kernel
theorem dX8_again_41 : decode cX8_again 41 = .ok (.invokevirtual 185, 3) := by decide +kernel
theorem dX8_again_44 : decode cX8_again 44 = .ok (.aload_n 0, 1) := by decide +kernel
theorem dX8_again_45 : decode cX8_again 45 = .ok (.getfield 42, 3) := by decide +kernel
theorem dX8_again_48 : decode cX8_again 48 = .ok (.invokevirtual 99, 3) := by decide +kernel
theorem dX8_again_51 : decode cX8_again 51 = .ok (.aload_n 0, 1) := by decide +kernel
theorem dX8_again_52 : decode cX8_again 52 = .ok (.getfield 35, 3) := by decide +kernel
theorem dX8_again_55 : decode cX8_again 55 = .ok (.invokevirtual 112, 3) := by decide +kernel
theorem dX8_again_58 : decode cX8_again 58 = .ok (.ireturn, 1) := by decide +kernel
theorem dX8_isChoice_0 : decode cX8_isChoice 0 = .ok (.iload_n 0, 1) := by decide +kernel
theorem dX8_isChoice_1 : decode cX8_isChoice 1 = .ok (.ifCond .eq 8, 3) := by decide +kernel
theorem dX8_isChoice_4 : decode cX8_isChoice 4 = .ok (.iload_n 0, 1) := by decide +kernel
theorem dX8_isChoice_5 : decode cX8_isChoice 5 = .ok (.iconst 1, 1) := by decide +kernel
theorem dX8_isChoice_6 : decode cX8_isChoice 6 = .ok (.if_icmp .ne 7, 3) := by decide +kernel
theorem dX8_isChoice_9 : decode cX8_isChoice 9 = .ok (.iconst 1, 1) := by decide +kernel
theorem dX8_isChoice_10 : decode cX8_isChoice 10 = .ok (.goto 4, 3) := by decide +kernel
theorem dX8_isChoice_13 : decode cX8_isChoice 13 = .ok (.iconst 0, 1) := by decide +kernel
theorem dX8_isChoice_14 : decode cX8_isChoice 14 = .ok (.ireturn, 1) := by decide +kernel
theorem dX8_factorial_0 : decode cX8_factorial 0 = .ok (.iload_n 0, 1) := by decide +kernel
theorem dX8_factorial_1 : decode cX8_factorial 1 = .ok (.ifCond .lt 19, 3) := by decide +kernel
theorem dX8_factorial_4 : decode cX8_factorial 4 = .ok (.iload_n 0, 1) := by decide +kernel
theorem dX8_factorial_5 : decode cX8_factorial 5 = .ok (.getstatic 273, 3) := by decide +kernel
theorem dX8_factorial_8 : decode cX8_factorial 8 = .ok (.arraylength, 1) := by decide +kernel
theorem dX8_factorial_9 : decode cX8_factorial 9 = .ok (.if_icmp .ge 11, 3) := by decide +kernel
theorem dX8_factorial_12 : decode cX8_factorial 12 = .ok (.getstatic 273, 3) := by decide +kernel
theorem dX8_factorial_15 : decode cX8_factorial 15 = .ok (.iload_n 0, 1) := by decide +kernel
theorem dX8_factorial_16 : decode cX8_factorial 16 = .ok (.iaload, 1) := by decide +kernel
theorem dX8_factorial_17 : decode cX8_factorial 17 = .ok (.goto 4, 3) := by decide +kernel
theorem dX8_factorial_20 : decode cX8_factorial 20 = .ok (.iconst 1, 1) := by decide +kernel
theorem dX8_factorial_21 : decode cX8_factorial 21 = .ok (.ireturn, 1) := by decide +kernel
theorem dX8_power_0 : decode cX8_power 0 = .ok (.iconst 1, 1) := by decide +kernel
theorem dX8_power_1 : decode cX8_power 1 = .ok (.istore_n 2, 1) := by decide +kernel
theorem dX8_power_2 : decode cX8_power 2 = .ok (.iconst 0, 1) := by decide +kernel
theorem dX8_power_3 : decode cX8_power 3 = .ok (.istore_n 3, 1) := by decide +kernel
theorem dX8_power_4 : decode cX8_power 4 = .ok (.iload_n 3, 1) := by decide +kernel
theorem dX8_power_5 : decode cX8_power 5 = .ok (.iload_n 1, 1) := by decide +kernel
theorem dX8_power_6 : decode cX8_power 6 = .ok (.if_icmp .ge 13, 3) := by decide +kernel
theorem dX8_power_9 : decode cX8_power 9 = .ok (.iload_n 2, 1) := by decide +kernel
theorem dX8_power_10 : decode cX8_power 10 = .ok (.iload_n 0, 1) := by decide +kernel
theorem dX8_power_11 : decode cX8_power 11 = .ok (.imul, 1) := by decide +kernel
theorem dX8_power_12 : decode cX8_power 12 = .ok (.istore_n 2, 1) := by decide +kernel
theorem dX8_power_13 : decode cX8_power 13 = .ok (.iinc 3 1, 3) := by decide +kernel
theorem dX8_power_16 : decode cX8_power 16 = .ok (.goto (-12), 3) := by decide +kernel
theorem dX8_power_19 : decode cX8_power 19 = .ok (.iload_n 2, 1) := by decide +kernel
theorem dX8_power_20 : decode cX8_power 20 = .ok (.ireturn, 1) := by decide +kernel
theorem dX8_speedBy_0 : decode cX8_speedBy 0 = .ok (.iload_n 1, 1) := by decide +kernel
theorem dX8_speedBy_1 : decode cX8_speedBy 1 = .ok (.ifCond .lt 19, 3) := by decide +kernel
theorem dX8_speedBy_4 : decode cX8_speedBy 4 = .ok (.iload_n 1, 1) := by decide +kernel
theorem dX8_speedBy_5 : decode cX8_speedBy 5 = .ok (.getstatic 277, 3) := by decide +kernel
theorem dX8_speedBy_8 : decode cX8_speedBy 8 = .ok (.arraylength, 1) := by decide +kernel
theorem dX8_speedBy_9 : decode cX8_speedBy 9 = .ok (.if_icmp .ge 11, 3) := by decide +kernel
theorem dX8_speedBy_12 : decode cX8_speedBy 12 = .ok (.getstatic 277, 3) := by decide +kernel
theorem dX8_speedBy_15 : decode cX8_speedBy 15 = .ok (.iload_n 1, 1) := by decide +kernel
theorem dX8_speedBy_16 : decode cX8_speedBy 16 = .ok (.iaload, 1) := by decide +kernel
theorem dX8_speedBy_17 : decode cX8_speedBy 17 = .ok (.goto 4, 3) := by decide +kernel
theorem dX8_speedBy_20 : decode cX8_speedBy 20 = .ok (.iconst 0, 1) := by decide +kernel
theorem dX8_speedBy_21 : decode cX8_speedBy 21 = .ok (.istore_n 3, 1) := by decide +kernel
theorem dX8_speedBy_22 : decode cX8_speedBy 22 = .ok (.iload_n 0, 1) := by decide +kernel
theorem dX8_speedBy_23 : decode cX8_speedBy 23 = .ok (.iload_n 3, 1) := by decide +kernel
theorem dX8_speedBy_24 : decode cX8_speedBy 24 = .ok (.iload_n 2, 1) := by decide +kernel
theorem dX8_speedBy_25 : decode cX8_speedBy 25 = .ok (.imul, 1) := by decide +kernel
theorem dX8_speedBy_26 : decode cX8_speedBy 26 = .ok (.isub, 1) := by decide +kernel
theorem dX8_speedBy_27 : decode cX8_speedBy 27 = .ok (.istore 4, 2) := by decide +kernel
theorem dX8_speedBy_29 : decode cX8_speedBy 29 = .ok (.iload 4, 2) := by decide +kernel
theorem dX8_speedBy_31 : decode cX8_speedBy 31 = .ok (.iconst 1, 1) := by decide +kernel
theorem dX8_speedBy_32 : decode cX8_speedBy 32 = .ok (.if_icmp .ge 7, 3) := by decide +kernel
theorem dX8_speedBy_35 : decode cX8_speedBy 35 = .ok (.iconst 1, 1) := by decide +kernel
theorem dX8_speedBy_36 : decode cX8_speedBy 36 = .ok (.goto 5, 3) := by decide +kernel
theorem dX8_speedBy_39 : decode cX8_speedBy 39 = .ok (.iload 4, 2) := by decide +kernel
theorem dX8_speedBy_41 : decode cX8_speedBy 41 = .ok (.ireturn, 1) := by decide +kernel
theorem dX8_termOf_0 : decode cX8_termOf 0 = .ok (.iload_n 0, 1) := by decide +kernel
theorem dX8_termOf_1 : decode cX8_termOf 1 = .ok (.invokestatic 280, 3) := by decide +kernel
theorem dX8_termOf_4 : decode cX8_termOf 4 = .ok (.iload_n 1, 1) := by decide +kernel
theorem dX8_termOf_5 : decode cX8_termOf 5 = .ok (.invokestatic 285, 3) := by decide +kernel
theorem dX8_termOf_8 : decode cX8_termOf 8 = .ok (.istore_n 3, 1) := by decide +kernel
theorem dX8_termOf_9 : decode cX8_termOf 9 = .ok (.iload_n 3, 1) := by decide +kernel
theorem dX8_termOf_10 : decode cX8_termOf 10 = .ok (.ifCond .ne 5, 3) := by decide +kernel
theorem dX8_termOf_13 : decode cX8_termOf 13 = .ok (.iconst 0, 1) := by decide +kernel
theorem dX8_termOf_14 : decode cX8_termOf 14 = .ok (.ireturn, 1) := by decide +kernel
theorem dX8_termOf_15 : decode cX8_termOf 15 = .ok (.iload_n 2, 1) := by decide +kernel
theorem dX8_termOf_16 : decode cX8_termOf 16 = .ok (.ifCond .eq 7, 3) := by decide +kernel
theorem dX8_termOf_19 : decode cX8_termOf 19 = .ok (.iload_n 0, 1) := by decide +kernel
theorem dX8_termOf_20 : decode cX8_termOf 20 = .ok (.goto 4, 3) := by decide +kernel
theorem dX8_termOf_23 : decode cX8_termOf 23 = .ok (.iload_n 1, 1) := by decide +kernel
theorem dX8_termOf_24 : decode cX8_termOf 24 = .ok (.iload_n 3, 1) := by decide +kernel
theorem dX8_termOf_25 : decode cX8_termOf 25 = .ok (.idiv, 1) := by decide +kernel
theorem dX8_termOf_26 : decode cX8_termOf 26 = .ok (.ireturn, 1) := by decide +kernel
theorem dX8_commonDivisor_0 : decode cX8_commonDivisor 0 = .ok (.iload_n 0, 1) := by decide +kernel
theorem dX8_commonDivisor_1 : decode cX8_commonDivisor 1 = .ok (.istore_n 2, 1) := by decide +kernel
theorem dX8_commonDivisor_2 : decode cX8_commonDivisor 2 = .ok (.iload_n 1, 1) := by decide +kernel
theorem dX8_commonDivisor_3 : decode cX8_commonDivisor 3 = .ok (.istore_n 3, 1) := by decide +kernel
theorem dX8_commonDivisor_4 : decode cX8_commonDivisor 4 = .ok (.iconst 0, 1) := by decide +kernel
theorem dX8_commonDivisor_5 : decode cX8_commonDivisor 5 = .ok (.istore 4, 2) := by decide +kernel
theorem dX8_commonDivisor_7 : decode cX8_commonDivisor 7 = .ok (.iload 4, 2) := by decide +kernel
theorem dX8_commonDivisor_9 : decode cX8_commonDivisor 9 = .ok (.bipush 64, 2) := by decide +kernel
theorem dX8_commonDivisor_11 : decode cX8_commonDivisor 11 = .ok (.if_icmp .ge 23, 3) := by decide +kernel
theorem dX8_commonDivisor_14 : decode cX8_commonDivisor 14 = .ok (.iload_n 3, 1) := by decide +kernel
theorem dX8_commonDivisor_15 : decode cX8_commonDivisor 15 = .ok (.ifCond .eq 19, 3) := by decide +kernel
theorem dX8_commonDivisor_18 : decode cX8_commonDivisor 18 = .ok (.iload_n 2, 1) := by decide +kernel
theorem dX8_commonDivisor_19 : decode cX8_commonDivisor 19 = .ok (.iload_n 3, 1) := by decide +kernel
theorem dX8_commonDivisor_20 : decode cX8_commonDivisor 20 = .ok (.irem, 1) := by decide +kernel
theorem dX8_commonDivisor_21 : decode cX8_commonDivisor 21 = .ok (.istore 5, 2) := by decide +kernel
theorem dX8_commonDivisor_23 : decode cX8_commonDivisor 23 = .ok (.iload_n 3, 1) := by decide +kernel
theorem dX8_commonDivisor_24 : decode cX8_commonDivisor 24 = .ok (.istore_n 2, 1) := by decide +kernel
theorem dX8_commonDivisor_25 : decode cX8_commonDivisor 25 = .ok (.iload 5, 2) := by decide +kernel
theorem dX8_commonDivisor_27 : decode cX8_commonDivisor 27 = .ok (.istore_n 3, 1) := by decide +kernel
theorem dX8_commonDivisor_28 : decode cX8_commonDivisor 28 = .ok (.iinc 4 1, 3) := by decide +kernel
theorem dX8_commonDivisor_31 : decode cX8_commonDivisor 31 = .ok (.goto (-24), 3) := by decide +kernel
theorem dX8_commonDivisor_34 : decode cX8_commonDivisor 34 = .ok (.iload_n 2, 1) := by decide +kernel
theorem dX8_commonDivisor_35 : decode cX8_commonDivisor 35 = .ok (.ireturn, 1) := by decide +kernel
theorem dX9_init_0 : decode cX9_init 0 = .ok (.aload_n 0, 1) := by decide +kernel
theorem dX9_init_1 : decode cX9_init 1 = .ok (.invokespecial 1, 3) := by decide +kernel
theorem dX9_init_4 : decode cX9_init 4 = .ok (.aload_n 0, 1) := by decide +kernel
theorem dX9_init_5 : decode cX9_init 5 = .ok (.bipush 48, 2) := by decide +kernel
theorem dX9_init_7 : decode cX9_init 7 = .ok (.newarray .int, 2) := by decide +kernel
theorem dX9_init_9 : decode cX9_init 9 = .ok (.putfield 7, 3) := by decide +kernel
theorem dX9_init_12 : decode cX9_init 12 = .ok (.aload_n 0, 1) := by decide +kernel
theorem dX9_init_13 : decode cX9_init 13 = .ok (.bipush 8, 2) := by decide +kernel
theorem dX9_init_15 : decode cX9_init 15 = .ok (.newarray .int, 2) := by decide +kernel
theorem dX9_init_17 : decode cX9_init 17 = .ok (.putfield 13, 3) := by decide +kernel
theorem dX9_init_20 : decode cX9_init 20 = .ok (.aload_n 0, 1) := by decide +kernel
theorem dX9_init_21 : decode cX9_init 21 = .ok (.bipush 8, 2) := by decide +kernel
theorem dX9_init_23 : decode cX9_init 23 = .ok (.newarray .int, 2) := by decide +kernel
theorem dX9_init_25 : decode cX9_init 25 = .ok (.putfield 16, 3) := by decide +kernel
theorem dX9_init_28 : decode cX9_init 28 = .ok (.aload_n 0, 1) := by decide +kernel
theorem dX9_init_29 : decode cX9_init 29 = .ok (.iconst 5, 1) := by decide +kernel
theorem dX9_init_30 : decode cX9_init 30 = .ok (.newarray .int, 2) := by decide +kernel
theorem dX9_init_32 : decode cX9_init 32 = .ok (.putfield 19, 3) := by decide +kernel
theorem dX9_init_35 : decode cX9_init 35 = .ok (.aload_n 0, 1) := by decide +kernel
theorem dX9_init_36 : decode cX9_init 36 = .ok (.iconst 5, 1) := by decide +kernel
theorem dX9_init_37 : decode cX9_init 37 = .ok (.newarray .int, 2) := by decide +kernel
theorem dX9_init_39 : decode cX9_init 39 = .ok (.putfield 22, 3) := by decide +kernel
theorem dX9_init_42 : decode cX9_init 42 = .ok (.aload_n 0, 1) := by decide +kernel
theorem dX9_init_43 : decode cX9_init 43 = .ok (.bipush 16, 2) := by decide +kernel
theorem dX9_init_45 : decode cX9_init 45 = .ok (.newarray .int, 2) := by decide +kernel
theorem dX9_init_47 : decode cX9_init 47 = .ok (.putfield 25, 3) := by decide +kernel
theorem dX9_init_50 : decode cX9_init 50 = .ok (.aload_n 0, 1) := by decide +kernel
theorem dX9_init_51 : decode cX9_init 51 = .ok (.bipush 15, 2) := by decide +kernel
theorem dX9_init_53 : decode cX9_init 53 = .ok (.newarray .int, 2) := by decide +kernel
theorem dX9_init_55 : decode cX9_init 55 = .ok (.putfield 28, 3) := by decide +kernel
theorem dX9_init_58 : decode cX9_init 58 = .ok (.aload_n 0, 1) := by decide +kernel
theorem dX9_init_59 : decode cX9_init 59 = .ok (.bipush 7, 2) := by decide +kernel
theorem dX9_init_61 : decode cX9_init 61 = .ok (.newarray .int, 2) := by decide +kernel
theorem dX9_init_63 : decode cX9_init 63 = .ok (.putfield 31, 3) := by decide +kernel
theorem dX9_init_66 : decode cX9_init 66 = .ok (.aload_n 0, 1) := by decide +kernel
theorem dX9_init_67 : decode cX9_init 67 = .ok (.bipush 7, 2) := by decide +kernel
theorem dX9_init_69 : decode cX9_init 69 = .ok (.newarray .int, 2) := by decide +kernel
theorem dX9_init_71 : decode cX9_init 71 = .ok (.putfield 34, 3) := by decide +kernel
theorem dX9_init_74 : decode cX9_init 74 = .ok (.aload_n 0, 1) := by decide +kernel
theorem dX9_init_75 : decode cX9_init 75 = .ok (.bipush 7, 2) := by decide +kernel
theorem dX9_init_77 : decode cX9_init 77 = .ok (.newarray .int, 2) := by decide +kernel
theorem dX9_init_79 : decode cX9_init 79 = .ok (.putfield 37, 3) := by decide +kernel
theorem dX9_init_82 : decode cX9_init 82 = .ok (.aload_n 0, 1) := by decide +kernel
theorem dX9_init_83 : decode cX9_init 83 = .ok (.bipush 98, 2) := by decide +kernel
theorem dX9_init_85 : decode cX9_init 85 = .ok (.newarray .int, 2) := by decide +kernel
theorem dX9_init_87 : decode cX9_init 87 = .ok (.putfield 40, 3) := by decide +kernel
theorem dX9_init_90 : decode cX9_init 90 = .ok (.aload_n 0, 1) := by decide +kernel
theorem dX9_init_91 : decode cX9_init 91 = .ok (.bipush 14, 2) := by decide +kernel
theorem dX9_init_93 : decode cX9_init 93 = .ok (.newarray .int, 2) := by decide +kernel
theorem dX9_init_95 : decode cX9_init 95 = .ok (.putfield 43, 3) := by decide +kernel
theorem dX9_init_98 : decode cX9_init 98 = .ok (.aload_n 0, 1) := by decide +kernel
theorem dX9_init_99 : decode cX9_init 99 = .ok (.iconst 2, 1) := by decide +kernel
theorem dX9_init_100 : decode cX9_init 100 = .ok (.newarray .boolean, 2) := by decide +kernel
theorem dX9_init_102 : decode cX9_init 102 = .ok (.putfield 46, 3) := by decide +kernel
theorem dX9_init_105 : decode cX9_init 105 = .ok (.aload_n 0, 1) := by decide +kernel
theorem dX9_init_106 : decode cX9_init 106 = .ok (.bipush 6, 2) := by decide +kernel
theorem dX9_init_108 : decode cX9_init 108 = .ok (.newarray .int, 2) := by decide +kernel
theorem dX9_init_110 : decode cX9_init 110 = .ok (.putfield 50, 3) := by decide +kernel
theorem dX9_init_113 : decode cX9_init 113 = .ok (.aload_n 0, 1) := by decide +kernel
theorem dX9_init_114 : decode cX9_init 114 = .ok (.bipush 6, 2) := by decide +kernel
theorem dX9_init_116 : decode cX9_init 116 = .ok (.newarray .int, 2) := by decide +kernel
theorem dX9_init_118 : decode cX9_init 118 = .ok (.putfield 53, 3) := by decide +kernel
theorem dX9_init_121 : decode cX9_init 121 = .ok (.aload_n 0, 1) := by decide +kernel
theorem dX9_init_122 : decode cX9_init 122 = .ok (.bipush 6, 2) := by decide +kernel
theorem dX9_init_124 : decode cX9_init 124 = .ok (.newarray .int, 2) := by decide +kernel
theorem dX9_init_126 : decode cX9_init 126 = .ok (.putfield 56, 3) := by decide +kernel
theorem dX9_init_129 : decode cX9_init 129 = .ok (.aload_n 0, 1) := by decide +kernel
theorem dX9_init_130 : decode cX9_init 130 = .ok (.bipush 8, 2) := by decide +kernel
theorem dX9_init_132 : decode cX9_init 132 = .ok (.newarray .int, 2) := by decide +kernel
theorem dX9_init_134 : decode cX9_init 134 = .ok (.putfield 59, 3) := by decide +kernel
theorem dX9_init_137 : decode cX9_init 137 = .ok (.aload_n 0, 1) := by decide +kernel
theorem dX9_init_138 : decode cX9_init 138 = .ok (.bipush 32, 2) := by decide +kernel
theorem dX9_init_140 : decode cX9_init 140 = .ok (.newarray .int, 2) := by decide +kernel
theorem dX9_init_142 : decode cX9_init 142 = .ok (.putfield 62, 3) := by decide +kernel
theorem dX9_init_145 : decode cX9_init 145 = .ok (.return_, 1) := by decide +kernel
theorem dX9_in_0 : decode cX9_in 0 = .ok (.lload_n 0, 1) := by decide +kernel
theorem dX9_in_1 : decode cX9_in 1 = .ok (.lload_n 2, 1) := by decide +kernel
theorem dX9_in_2 : decode cX9_in 2 = .ok (.lcmp, 1) := by decide +kernel
theorem dX9_in_3 : decode cX9_in 3 = .ok (.ifCond .lt 14, 3) := by decide +kernel
theorem dX9_in_6 : decode cX9_in 6 = .ok (.lload_n 0, 1) := by decide +kernel
theorem dX9_in_7 : decode cX9_in 7 = .ok (.lload 4, 2) := by decide +kernel
theorem dX9_in_9 : decode cX9_in 9 = .ok (.lcmp, 1) := by decide +kernel
theorem dX9_in_10 : decode cX9_in 10 = .ok (.ifCond .gt 7, 3) := by decide +kernel
theorem dX9_in_13 : decode cX9_in 13 = .ok (.iconst 1, 1) := by decide +kernel
theorem dX9_in_14 : decode cX9_in 14 = .ok (.goto 4, 3) := by decide +kernel
theorem dX9_in_17 : decode cX9_in 17 = .ok (.iconst 0, 1) := by decide +kernel
theorem dX9_in_18 : decode cX9_in 18 = .ok (.ireturn, 1) := by decide +kernel
theorem dX9_has_0 : decode cX9_has 0 = .ok (.iload_n 0, 1) := by decide +kernel
theorem dX9_has_1 : decode cX9_has 1 = .ok (.iload_n 1, 1) := by decide +kernel
theorem dX9_has_2 : decode cX9_has 2 = .ok (.ishr, 1) := by decide +kernel
theorem dX9_has_3 : decode cX9_has 3 = .ok (.iconst 1, 1) := by decide +kernel
theorem dX9_has_4 : decode cX9_has 4 = .ok (.iand, 1) := by decide +kernel
theorem dX9_has_5 : decode cX9_has 5 = .ok (.iconst 1, 1) := by decide +kernel
theorem dX9_has_6 : decode cX9_has 6 = .ok (.if_icmp .ne 7, 3) := by decide +kernel
theorem dX9_has_9 : decode cX9_has 9 = .ok (.iconst 1, 1) := by decide +kernel
theorem dX9_has_10 : decode cX9_has 10 = .ok (.goto 4, 3) := by decide +kernel
theorem dX9_has_13 : decode cX9_has 13 = .ok (.iconst 0, 1) := by decide +kernel
theorem dX9_has_14 : decode cX9_has 14 = .ok (.ireturn, 1) := by decide +kernel
theorem dX9_many_0 : decode cX9_many 0 = .ok (.iconst 0, 1) := by decide +kernel
theorem dX9_many_1 : decode cX9_many 1 = .ok (.istore_n 1, 1) := by decide +kernel
theorem dX9_many_2 : decode cX9_many 2 = .ok (.iconst 0, 1) := by decide +kernel
theorem dX9_many_3 : decode cX9_many 3 = .ok (.istore_n 2, 1) := by decide +kernel
theorem dX9_many_4 : decode cX9_many 4 = .ok (.iload_n 2, 1) := by decide +kernel
theorem dX9_many_5 : decode cX9_many 5 = .ok (.iconst 5, 1) := by decide +kernel
theorem dX9_many_6 : decode cX9_many 6 = .ok (.if_icmp .ge 17, 3) := by decide +kernel
theorem dX9_many_9 : decode cX9_many 9 = .ok (.iload_n 1, 1) := by decide +kernel
theorem dX9_many_10 : decode cX9_many 10 = .ok (.iload_n 0, 1) := by decide +kernel
theorem dX9_many_11 : decode cX9_many 11 = .ok (.iload_n 2, 1) := by decide +kernel
theorem dX9_many_12 : decode cX9_many 12 = .ok (.ishr, 1) := by decide +kernel
theorem dX9_many_13 : decode cX9_many 13 = .ok (.iconst 1, 1) := by decide +kernel
theorem dX9_many_14 : decode cX9_many 14 = .ok (.iand, 1) := by decide +kernel
theorem dX9_many_15 : decode cX9_many 15 = .ok (.iadd, 1) := by decide +kernel
theorem dX9_many_16 : decode cX9_many 16 = .ok (.istore_n 1, 1) := by decide +kernel
theorem dX9_many_17 : decode cX9_many 17 = .ok (.iinc 2 1, 3) := by decide +kernel
theorem dX9_many_20 : decode cX9_many 20 = .ok (.goto (-16), 3) := by decide +kernel
theorem dX9_many_23 : decode cX9_many 23 = .ok (.iload_n 1, 1) := by decide +kernel
theorem dX9_many_24 : decode cX9_many 24 = .ok (.ireturn, 1) := by decide +kernel
theorem dX9_power_0 : decode cX9_power 0 = .ok (.iconst 1, 1) := by decide +kernel
theorem dX9_power_1 : decode cX9_power 1 = .ok (.istore_n 2, 1) := by decide +kernel
theorem dX9_power_2 : decode cX9_power 2 = .ok (.iconst 0, 1) := by decide +kernel
theorem dX9_power_3 : decode cX9_power 3 = .ok (.istore_n 3, 1) := by decide +kernel
theorem dX9_power_4 : decode cX9_power 4 = .ok (.iload_n 3, 1) := by decide +kernel
theorem dX9_power_5 : decode cX9_power 5 = .ok (.iload_n 1, 1) := by decide +kernel
theorem dX9_power_6 : decode cX9_power 6 = .ok (.if_icmp .ge 13, 3) := by decide +kernel
theorem dX9_power_9 : decode cX9_power 9 = .ok (.iload_n 2, 1) := by decide +kernel
theorem dX9_power_10 : decode cX9_power 10 = .ok (.iload_n 0, 1) := by decide +kernel
theorem dX9_power_11 : decode cX9_power 11 = .ok (.imul, 1) := by decide +kernel
theorem dX9_power_12 : decode cX9_power 12 = .ok (.istore_n 2, 1) := by decide +kernel
theorem dX9_power_13 : decode cX9_power 13 = .ok (.iinc 3 1, 3) := by decide +kernel
theorem dX9_power_16 : decode cX9_power 16 = .ok (.goto (-12), 3) := by decide +kernel
theorem dX9_power_19 : decode cX9_power 19 = .ok (.iload_n 2, 1) := by decide +kernel
theorem dX9_power_20 : decode cX9_power 20 = .ok (.ireturn, 1) := by decide +kernel
theorem dX9_noMan_0 : decode cX9_noMan 0 = .ok (.iload_n 1, 1) := by decide +kernel
theorem dX9_noMan_1 : decode cX9_noMan 1 = .ok (.i2l, 1) := by decide +kernel
theorem dX9_noMan_2 : decode cX9_noMan 2 = .ok (.lconst 0, 1) := by decide +kernel
theorem dX9_noMan_3 : decode cX9_noMan 3 = .ok (.aload_n 0, 1) := by decide +kernel
theorem dX9_noMan_4 : decode cX9_noMan 4 = .ok (.getfield 69, 3) := by decide +kernel
theorem dX9_noMan_7 : decode cX9_noMan 7 = .ok (.iconst 1, 1) := by decide +kernel
theorem dX9_noMan_8 : decode cX9_noMan 8 = .ok (.isub, 1) := by decide +kernel
theorem dX9_noMan_9 : decode cX9_noMan 9 = .ok (.i2l, 1) := by decide +kernel
theorem dX9_noMan_10 : decode cX9_noMan 10 = .ok (.invokestatic 72, 3) := by decide +kernel
theorem dX9_noMan_13 : decode cX9_noMan 13 = .ok (.ifCond .ne 7, 3) := by decide +kernel
theorem dX9_noMan_16 : decode cX9_noMan 16 = .ok (.iconst 1, 1) := by decide +kernel
theorem dX9_noMan_17 : decode cX9_noMan 17 = .ok (.goto 4, 3) := by decide +kernel
theorem dX9_noMan_20 : decode cX9_noMan 20 = .ok (.iconst 0, 1) := by decide +kernel
theorem dX9_noMan_21 : decode cX9_noMan 21 = .ok (.ireturn, 1) := by decide +kernel
theorem dX9_write_0 : decode cX9_write 0 = .ok (.aload_n 0, 1) := by decide +kernel
theorem dX9_write_1 : decode cX9_write 1 = .ok (.iconst 0, 1) := by decide +kernel
theorem dX9_write_2 : decode cX9_write 2 = .ok (.putfield 65, 3) := by decide +kernel
theorem dX9_write_5 : decode cX9_write 5 = .ok (.iload_n 1, 1) := by decide +kernel
theorem dX9_write_6 : decode cX9_write 6 = .ok (.i2l, 1) := by decide +kernel
theorem dX9_write_7 : decode cX9_write 7 = .ok (.lconst 0, 1) := by decide +kernel
theorem dX9_write_8 : decode cX9_write 8 = .ok (.ldc2_w 76, 3) := by decide +kernel
theorem dX9_write_11 : decode cX9_write 11 = .ok (.invokestatic 72, 3) := by decide +kernel
theorem dX9_write_14 : decode cX9_write 14 = .ok (.ifCond .ne 6, 3) := by decide +kernel
theorem dX9_write_17 : decode cX9_write 17 = .ok (.bipush (-2), 2) := by decide +kernel
theorem dX9_write_19 : decode cX9_write 19 = .ok (.ireturn, 1) := by decide +kernel
theorem dX9_write_20 : decode cX9_write 20 = .ok (.aload_n 0, 1) := by decide +kernel
theorem dX9_write_21 : decode cX9_write 21 = .ok (.getfield 78, 3) := by decide +kernel
theorem dX9_write_24 : decode cX9_write 24 = .ok (.bipush 48, 2) := by decide +kernel
theorem dX9_write_26 : decode cX9_write 26 = .ok (.if_icmp .ne 6, 3) := by decide +kernel
theorem dX9_write_29 : decode cX9_write 29 = .ok (.bipush (-4), 2) := by decide +kernel
theorem dX9_write_31 : decode cX9_write 31 = .ok (.ireturn, 1) := by decide +kernel
theorem dX9_write_32 : decode cX9_write 32 = .ok (.aload_n 0, 1) := by decide +kernel
theorem dX9_write_33 : decode cX9_write 33 = .ok (.getfield 7, 3) := by decide +kernel
theorem dX9_write_36 : decode cX9_write 36 = .ok (.aload_n 0, 1) := by decide +kernel
theorem dX9_write_37 : decode cX9_write 37 = .ok (.getfield 78, 3) := by decide +kernel
theorem dX9_write_40 : decode cX9_write 40 = .ok (.iload_n 1, 1) := by decide +kernel
theorem dX9_write_41 : decode cX9_write 41 = .ok (.iastore, 1) := by decide +kernel
theorem dX9_write_42 : decode cX9_write 42 = .ok (.aload_n 0, 1) := by decide +kernel
theorem dX9_write_43 : decode cX9_write 43 = .ok (.dup, 1) := by decide +kernel
theorem dX9_write_44 : decode cX9_write 44 = .ok (.getfield 78, 3) := by decide +kernel
theorem dX9_write_47 : decode cX9_write 47 = .ok (.iconst 1, 1) := by decide +kernel
theorem dX9_write_48 : decode cX9_write 48 = .ok (.iadd, 1) := by decide +kernel
theorem dX9_write_49 : decode cX9_write 49 = .ok (.putfield 78, 3) := by decide +kernel
theorem dX9_write_52 : decode cX9_write 52 = .ok (.aload_n 0, 1) := by decide +kernel
theorem dX9_write_53 : decode cX9_write 53 = .ok (.getfield 78, 3) := by decide +kernel
theorem dX9_write_56 : decode cX9_write 56 = .ok (.ireturn, 1) := by decide +kernel
theorem dX9_wipe_0 : decode cX9_wipe 0 = .ok (.aload_n 0, 1) := by decide +kernel
theorem dX9_wipe_1 : decode cX9_wipe 1 = .ok (.iconst 0, 1) := by decide +kernel
theorem dX9_wipe_2 : decode cX9_wipe 2 = .ok (.putfield 65, 3) := by decide +kernel
theorem dX9_wipe_5 : decode cX9_wipe 5 = .ok (.aload_n 0, 1) := by decide +kernel
theorem dX9_wipe_6 : decode cX9_wipe 6 = .ok (.getfield 78, 3) := by decide +kernel
theorem dX9_wipe_9 : decode cX9_wipe 9 = .ok (.istore_n 1, 1) := by decide +kernel
theorem dX9_wipe_10 : decode cX9_wipe 10 = .ok (.aload_n 0, 1) := by decide +kernel
theorem dX9_wipe_11 : decode cX9_wipe 11 = .ok (.iconst 0, 1) := by decide +kernel
theorem dX9_wipe_12 : decode cX9_wipe 12 = .ok (.putfield 78, 3) := by decide +kernel
theorem dX9_wipe_15 : decode cX9_wipe 15 = .ok (.iload_n 1, 1) := by decide +kernel
theorem dX9_wipe_16 : decode cX9_wipe 16 = .ok (.ireturn, 1) := by decide +kernel
theorem dX9_figure_0 : decode cX9_figure 0 = .ok (.aload_n 0, 1) := by decide +kernel
theorem dX9_figure_1 : decode cX9_figure 1 = .ok (.getfield 81, 3) := by decide +kernel
theorem dX9_figure_4 : decode cX9_figure 4 = .ok (.aload_n 0, 1) := by decide +kernel
theorem dX9_figure_5 : decode cX9_figure 5 = .ok (.getfield 78, 3) := by decide +kernel
theorem dX9_figure_8 : decode cX9_figure 8 = .ok (.if_icmp .eq 26, 3) := by decide +kernel
theorem dX9_figure_11 : decode cX9_figure 11 = .ok (.aload_n 0, 1) := by decide +kernel
theorem dX9_figure_12 : decode cX9_figure 12 = .ok (.getfield 7, 3) := by decide +kernel
theorem dX9_figure_15 : decode cX9_figure 15 = .ok (.aload_n 0, 1) := by decide +kernel
theorem dX9_figure_16 : decode cX9_figure 16 = .ok (.getfield 81, 3) := by decide +kernel
theorem dX9_figure_19 : decode cX9_figure 19 = .ok (.iaload, 1) := by decide +kernel
theorem dX9_figure_20 : decode cX9_figure 20 = .ok (.bipush 48, 2) := by decide +kernel
theorem dX9_figure_22 : decode cX9_figure 22 = .ok (.isub, 1) := by decide +kernel
theorem dX9_figure_23 : decode cX9_figure 23 = .ok (.i2l, 1) := by decide +kernel
theorem dX9_figure_24 : decode cX9_figure 24 = .ok (.iload_n 1, 1) := by decide +kernel
theorem dX9_figure_25 : decode cX9_figure 25 = .ok (.i2l, 1) := by decide +kernel
theorem dX9_figure_26 : decode cX9_figure 26 = .ok (.iload_n 2, 1) := by decide +kernel
theorem dX9_figure_27 : decode cX9_figure 27 = .ok (.i2l, 1) := by decide +kernel
theorem dX9_figure_28 : decode cX9_figure 28 = .ok (.invokestatic 72, 3) := by decide +kernel
theorem dX9_figure_31 : decode cX9_figure 31 = .ok (.ifCond .ne 6, 3) := by decide +kernel
theorem dX9_figure_34 : decode cX9_figure 34 = .ok (.bipush (-9), 2) := by decide +kernel
theorem dX9_figure_36 : decode cX9_figure 36 = .ok (.ireturn, 1) := by decide +kernel
theorem dX9_figure_37 : decode cX9_figure 37 = .ok (.aload_n 0, 1) := by decide +kernel
theorem dX9_figure_38 : decode cX9_figure 38 = .ok (.dup, 1) := by decide +kernel
theorem dX9_figure_39 : decode cX9_figure 39 = .ok (.getfield 81, 3) := by decide +kernel
theorem dX9_figure_42 : decode cX9_figure 42 = .ok (.iconst 1, 1) := by decide +kernel
theorem dX9_figure_43 : decode cX9_figure 43 = .ok (.iadd, 1) := by decide +kernel
theorem dX9_figure_44 : decode cX9_figure 44 = .ok (.putfield 81, 3) := by decide +kernel
theorem dX9_figure_47 : decode cX9_figure 47 = .ok (.aload_n 0, 1) := by decide +kernel
theorem dX9_figure_48 : decode cX9_figure 48 = .ok (.getfield 7, 3) := by decide +kernel
theorem dX9_figure_51 : decode cX9_figure 51 = .ok (.aload_n 0, 1) := by decide +kernel
theorem dX9_figure_52 : decode cX9_figure 52 = .ok (.getfield 81, 3) := by decide +kernel
theorem dX9_figure_55 : decode cX9_figure 55 = .ok (.iconst 1, 1) := by decide +kernel
theorem dX9_figure_56 : decode cX9_figure 56 = .ok (.isub, 1) := by decide +kernel
theorem dX9_figure_57 : decode cX9_figure 57 = .ok (.iaload, 1) := by decide +kernel
theorem dX9_figure_58 : decode cX9_figure 58 = .ok (.bipush 48, 2) := by decide +kernel
theorem dX9_figure_60 : decode cX9_figure 60 = .ok (.isub, 1) := by decide +kernel
theorem dX9_figure_61 : decode cX9_figure 61 = .ok (.ireturn, 1) := by decide +kernel
theorem dX9_readOneStretch_0 : decode cX9_readOneStretch 0 = .ok (.aload_n 0, 1) := by decide +kernel
theorem dX9_readOneStretch_1 : decode cX9_readOneStretch 1 = .ok (.iconst 1, 1) := by decide +kernel
theorem dX9_readOneStretch_2 : decode cX9_readOneStretch 2 = .ok (.bipush 9, 2) := by decide +kernel
theorem dX9_readOneStretch_4 : decode cX9_readOneStretch 4 = .ok (.invokevirtual 84, 3) := by decide +kernel
theorem dX9_readOneStretch_7 : decode cX9_readOneStretch 7 = .ok (.istore_n 1, 1) := by decide +kernel
theorem dX9_readOneStretch_8 : decode cX9_readOneStretch 8 = .ok (.iload_n 1, 1) := by decide +kernel
theorem dX9_readOneStretch_9 : decode cX9_readOneStretch 9 = .ok (.bipush (-9), 2) := by decide +kernel
theorem dX9_readOneStretch_11 : decode cX9_readOneStretch 11 = .ok (.if_icmp .ne 8, 3) := by decide +kernel
theorem dX9_readOneStretch_14 : decode cX9_readOneStretch 14 = .ok (.bipush (-9), 2) := by decide +kernel
theorem dX9_readOneStretch_16 : decode cX9_readOneStretch 16 = .ok (.goto 9, 3) := by decide +kernel
theorem dX9_readOneStretch_19 : decode cX9_readOneStretch 19 = .ok (.aload_n 0, 1) := by decide +kernel
theorem dX9_readOneStretch_20 : decode cX9_readOneStretch 20 = .ok (.iconst 0, 1) := by decide +kernel
theorem dX9_readOneStretch_21 : decode cX9_readOneStretch 21 = .ok (.iconst 3, 1) := by decide +kernel
theorem dX9_readOneStretch_22 : decode cX9_readOneStretch 22 = .ok (.invokevirtual 84, 3) := by decide +kernel
theorem dX9_readOneStretch_25 : decode cX9_readOneStretch 25 = .ok (.istore_n 2, 1) := by decide +kernel
theorem dX9_readOneStretch_26 : decode cX9_readOneStretch 26 = .ok (.iload_n 2, 1) := by decide +kernel
theorem dX9_readOneStretch_27 : decode cX9_readOneStretch 27 = .ok (.bipush (-9), 2) := by decide +kernel
theorem dX9_readOneStretch_29 : decode cX9_readOneStretch 29 = .ok (.if_icmp .ne 5, 3) := by decide +kernel
theorem dX9_readOneStretch_32 : decode cX9_readOneStretch 32 = .ok (.iconst 0, 1) := by decide +kernel
theorem dX9_readOneStretch_33 : decode cX9_readOneStretch 33 = .ok (.ireturn, 1) := by decide +kernel
theorem dX9_readOneStretch_34 : decode cX9_readOneStretch 34 = .ok (.aload_n 0, 1) := by decide +kernel
theorem dX9_readOneStretch_35 : decode cX9_readOneStretch 35 = .ok (.getfield 25, 3) := by decide +kernel
theorem dX9_readOneStretch_38 : decode cX9_readOneStretch 38 = .ok (.iconst 2, 1) := by decide +kernel
theorem dX9_readOneStretch_39 : decode cX9_readOneStretch 39 = .ok (.aload_n 0, 1) := by decide +kernel
theorem dX9_readOneStretch_40 : decode cX9_readOneStretch 40 = .ok (.getfield 88, 3) := by decide +kernel
theorem dX9_readOneStretch_43 : decode cX9_readOneStretch 43 = .ok (.imul, 1) := by decide +kernel
theorem dX9_readOneStretch_44 : decode cX9_readOneStretch 44 = .ok (.iload_n 1, 1) := by decide +kernel
theorem dX9_readOneStretch_45 : decode cX9_readOneStretch 45 = .ok (.iastore, 1) := by decide +kernel
theorem dX9_readOneStretch_46 : decode cX9_readOneStretch 46 = .ok (.aload_n 0, 1) := by decide +kernel
theorem dX9_readOneStretch_47 : decode cX9_readOneStretch 47 = .ok (.getfield 25, 3) := by decide +kernel
theorem dX9_readOneStretch_50 : decode cX9_readOneStretch 50 = .ok (.iconst 2, 1) := by decide +kernel
theorem dX9_readOneStretch_51 : decode cX9_readOneStretch 51 = .ok (.aload_n 0, 1) := by decide +kernel
theorem dX9_readOneStretch_52 : decode cX9_readOneStretch 52 = .ok (.getfield 88, 3) := by decide +kernel
theorem dX9_readOneStretch_55 : decode cX9_readOneStretch 55 = .ok (.imul, 1) := by decide +kernel
theorem dX9_readOneStretch_56 : decode cX9_readOneStretch 56 = .ok (.iconst 1, 1) := by decide +kernel
theorem dX9_readOneStretch_57 : decode cX9_readOneStretch 57 = .ok (.iadd, 1) := by decide +kernel
theorem dX9_readOneStretch_58 : decode cX9_readOneStretch 58 = .ok (.iload_n 2, 1) := by decide +kernel
theorem dX9_readOneStretch_59 : decode cX9_readOneStretch 59 = .ok (.iastore, 1) := by decide +kernel
theorem dX9_readOneStretch_60 : decode cX9_readOneStretch 60 = .ok (.aload_n 0, 1) := by decide +kernel
theorem dX9_readOneStretch_61 : decode cX9_readOneStretch 61 = .ok (.dup, 1) := by decide +kernel
theorem dX9_readOneStretch_62 : decode cX9_readOneStretch 62 = .ok (.getfield 88, 3) := by decide +kernel
theorem dX9_readOneStretch_65 : decode cX9_readOneStretch 65 = .ok (.iconst 1, 1) := by decide +kernel
theorem dX9_readOneStretch_66 : decode cX9_readOneStretch 66 = .ok (.iadd, 1) := by decide +kernel
theorem dX9_readOneStretch_67 : decode cX9_readOneStretch 67 = .ok (.putfield 88, 3) := by decide +kernel
theorem dX9_readOneStretch_70 : decode cX9_readOneStretch 70 = .ok (.iconst 1, 1) := by decide +kernel
theorem dX9_readOneStretch_71 : decode cX9_readOneStretch 71 = .ok (.ireturn, 1) := by decide +kernel
theorem dX9_readOneMan_0 : decode cX9_readOneMan 0 = .ok (.aload_n 0, 1) := by decide +kernel
theorem dX9_readOneMan_1 : decode cX9_readOneMan 1 = .ok (.iconst 1, 1) := by decide +kernel
theorem dX9_readOneMan_2 : decode cX9_readOneMan 2 = .ok (.bipush 9, 2) := by decide +kernel
theorem dX9_readOneMan_4 : decode cX9_readOneMan 4 = .ok (.invokevirtual 84, 3) := by decide +kernel
theorem dX9_readOneMan_7 : decode cX9_readOneMan 7 = .ok (.istore_n 1, 1) := by decide +kernel
theorem dX9_readOneMan_8 : decode cX9_readOneMan 8 = .ok (.iload_n 1, 1) := by decide +kernel
theorem dX9_readOneMan_9 : decode cX9_readOneMan 9 = .ok (.bipush (-9), 2) := by decide +kernel
theorem dX9_readOneMan_11 : decode cX9_readOneMan 11 = .ok (.if_icmp .ne 8, 3) := by decide +kernel
theorem dX9_readOneMan_14 : decode cX9_readOneMan 14 = .ok (.bipush (-9), 2) := by decide +kernel
theorem dX9_readOneMan_16 : decode cX9_readOneMan 16 = .ok (.goto 9, 3) := by decide +kernel
theorem dX9_readOneMan_19 : decode cX9_readOneMan 19 = .ok (.aload_n 0, 1) := by decide +kernel
theorem dX9_readOneMan_20 : decode cX9_readOneMan 20 = .ok (.iconst 0, 1) := by decide +kernel
theorem dX9_readOneMan_21 : decode cX9_readOneMan 21 = .ok (.iconst 3, 1) := by decide +kernel
theorem dX9_readOneMan_22 : decode cX9_readOneMan 22 = .ok (.invokevirtual 84, 3) := by decide +kernel
theorem dX9_readOneMan_25 : decode cX9_readOneMan 25 = .ok (.istore_n 2, 1) := by decide +kernel
theorem dX9_readOneMan_26 : decode cX9_readOneMan 26 = .ok (.iload_n 2, 1) := by decide +kernel
theorem dX9_readOneMan_27 : decode cX9_readOneMan 27 = .ok (.bipush (-9), 2) := by decide +kernel
theorem dX9_readOneMan_29 : decode cX9_readOneMan 29 = .ok (.if_icmp .ne 8, 3) := by decide +kernel
theorem dX9_readOneMan_32 : decode cX9_readOneMan 32 = .ok (.bipush (-9), 2) := by decide +kernel
theorem dX9_readOneMan_34 : decode cX9_readOneMan 34 = .ok (.goto 10, 3) := by decide +kernel
theorem dX9_readOneMan_37 : decode cX9_readOneMan 37 = .ok (.aload_n 0, 1) := by decide +kernel
theorem dX9_readOneMan_38 : decode cX9_readOneMan 38 = .ok (.iconst 0, 1) := by decide +kernel
theorem dX9_readOneMan_39 : decode cX9_readOneMan 39 = .ok (.bipush 9, 2) := by decide +kernel
theorem dX9_readOneMan_41 : decode cX9_readOneMan 41 = .ok (.invokevirtual 84, 3) := by decide +kernel
theorem dX9_readOneMan_44 : decode cX9_readOneMan 44 = .ok (.istore_n 3, 1) := by decide +kernel
theorem dX9_readOneMan_45 : decode cX9_readOneMan 45 = .ok (.iload_n 3, 1) := by decide +kernel
theorem dX9_readOneMan_46 : decode cX9_readOneMan 46 = .ok (.bipush (-9), 2) := by decide +kernel
theorem dX9_readOneMan_48 : decode cX9_readOneMan 48 = .ok (.if_icmp .ne 5, 3) := by decide +kernel
theorem dX9_readOneMan_51 : decode cX9_readOneMan 51 = .ok (.iconst 0, 1) := by decide +kernel
theorem dX9_readOneMan_52 : decode cX9_readOneMan 52 = .ok (.ireturn, 1) := by decide +kernel
theorem dX9_readOneMan_53 : decode cX9_readOneMan 53 = .ok (.aload_n 0, 1) := by decide +kernel
theorem dX9_readOneMan_54 : decode cX9_readOneMan 54 = .ok (.getfield 28, 3) := by decide +kernel
theorem dX9_readOneMan_57 : decode cX9_readOneMan 57 = .ok (.iconst 3, 1) := by decide +kernel
theorem dX9_readOneMan_58 : decode cX9_readOneMan 58 = .ok (.aload_n 0, 1) := by decide +kernel
theorem dX9_readOneMan_59 : decode cX9_readOneMan 59 = .ok (.getfield 91, 3) := by decide +kernel
theorem dX9_readOneMan_62 : decode cX9_readOneMan 62 = .ok (.imul, 1) := by decide +kernel
theorem dX9_readOneMan_63 : decode cX9_readOneMan 63 = .ok (.iload_n 1, 1) := by decide +kernel
theorem dX9_readOneMan_64 : decode cX9_readOneMan 64 = .ok (.iastore, 1) := by decide +kernel
theorem dX9_readOneMan_65 : decode cX9_readOneMan 65 = .ok (.aload_n 0, 1) := by decide +kernel
theorem dX9_readOneMan_66 : decode cX9_readOneMan 66 = .ok (.getfield 28, 3) := by decide +kernel
theorem dX9_readOneMan_69 : decode cX9_readOneMan 69 = .ok (.iconst 3, 1) := by decide +kernel
theorem dX9_readOneMan_70 : decode cX9_readOneMan 70 = .ok (.aload_n 0, 1) := by decide +kernel
theorem dX9_readOneMan_71 : decode cX9_readOneMan 71 = .ok (.getfield 91, 3) := by decide +kernel
theorem dX9_readOneMan_74 : decode cX9_readOneMan 74 = .ok (.imul, 1) := by decide +kernel
theorem dX9_readOneMan_75 : decode cX9_readOneMan 75 = .ok (.iconst 1, 1) := by decide +kernel
theorem dX9_readOneMan_76 : decode cX9_readOneMan 76 = .ok (.iadd, 1) := by decide +kernel
theorem dX9_readOneMan_77 : decode cX9_readOneMan 77 = .ok (.iload_n 2, 1) := by decide +kernel
theorem dX9_readOneMan_78 : decode cX9_readOneMan 78 = .ok (.iastore, 1) := by decide +kernel
theorem dX9_readOneMan_79 : decode cX9_readOneMan 79 = .ok (.aload_n 0, 1) := by decide +kernel
theorem dX9_readOneMan_80 : decode cX9_readOneMan 80 = .ok (.getfield 28, 3) := by decide +kernel
theorem dX9_readOneMan_83 : decode cX9_readOneMan 83 = .ok (.iconst 3, 1) := by decide +kernel
theorem dX9_readOneMan_84 : decode cX9_readOneMan 84 = .ok (.aload_n 0, 1) := by decide +kernel
theorem dX9_readOneMan_85 : decode cX9_readOneMan 85 = .ok (.getfield 91, 3) := by decide +kernel
theorem dX9_readOneMan_88 : decode cX9_readOneMan 88 = .ok (.imul, 1) := by decide +kernel
theorem dX9_readOneMan_89 : decode cX9_readOneMan 89 = .ok (.iconst 2, 1) := by decide +kernel
theorem dX9_readOneMan_90 : decode cX9_readOneMan 90 = .ok (.iadd, 1) := by decide +kernel
theorem dX9_readOneMan_91 : decode cX9_readOneMan 91 = .ok (.iload_n 3, 1) := by decide +kernel
theorem dX9_readOneMan_92 : decode cX9_readOneMan 92 = .ok (.iastore, 1) := by decide +kernel
theorem dX9_readOneMan_93 : decode cX9_readOneMan 93 = .ok (.aload_n 0, 1) := by decide +kernel
theorem dX9_readOneMan_94 : decode cX9_readOneMan 94 = .ok (.dup, 1) := by decide +kernel
theorem dX9_readOneMan_95 : decode cX9_readOneMan 95 = .ok (.getfield 91, 3) := by decide +kernel
theorem dX9_readOneMan_98 : decode cX9_readOneMan 98 = .ok (.iconst 1, 1) := by decide +kernel
theorem dX9_readOneMan_99 : decode cX9_readOneMan 99 = .ok (.iadd, 1) := by decide +kernel
theorem dX9_readOneMan_100 : decode cX9_readOneMan 100 = .ok (.putfield 91, 3) := by decide +kernel
theorem dX9_readOneMan_103 : decode cX9_readOneMan 103 = .ok (.iconst 1, 1) := by decide +kernel
theorem dX9_readOneMan_104 : decode cX9_readOneMan 104 = .ok (.ireturn, 1) := by decide +kernel
theorem dX9_readThing_0 : decode cX9_readThing 0 = .ok (.aload_n 0, 1) := by decide +kernel
theorem dX9_readThing_1 : decode cX9_readThing 1 = .ok (.getfield 7, 3) := by decide +kernel
theorem dX9_readThing_4 : decode cX9_readThing 4 = .ok (.aload_n 0, 1) := by decide +kernel
theorem dX9_readThing_5 : decode cX9_readThing 5 = .ok (.getfield 81, 3) := by decide +kernel
theorem dX9_readThing_8 : decode cX9_readThing 8 = .ok (.iaload, 1) := by decide +kernel
theorem dX9_readThing_9 : decode cX9_readThing 9 = .ok (.istore_n 1, 1) := by decide +kernel
theorem dX9_readThing_10 : decode cX9_readThing 10 = .ok (.aload_n 0, 1) := by decide +kernel
theorem dX9_readThing_11 : decode cX9_readThing 11 = .ok (.dup, 1) := by decide +kernel
theorem dX9_readThing_12 : decode cX9_readThing 12 = .ok (.getfield 81, 3) := by decide +kernel
theorem dX9_readThing_15 : decode cX9_readThing 15 = .ok (.iconst 1, 1) := by decide +kernel
theorem dX9_readThing_16 : decode cX9_readThing 16 = .ok (.iadd, 1) := by decide +kernel
theorem dX9_readThing_17 : decode cX9_readThing 17 = .ok (.putfield 81, 3) := by decide +kernel
theorem dX9_readThing_20 : decode cX9_readThing 20 = .ok (.iload_n 1, 1) := by decide +kernel
theorem dX9_readThing_21 : decode cX9_readThing 21 = .ok (.bipush 83, 2) := by decide +kernel
theorem dX9_readThing_23 : decode cX9_readThing 23 = .ok (.if_icmp .ne 17, 3) := by decide +kernel
theorem dX9_readThing_26 : decode cX9_readThing 26 = .ok (.aload_n 0, 1) := by decide +kernel
theorem dX9_readThing_27 : decode cX9_readThing 27 = .ok (.getfield 88, 3) := by decide +kernel
theorem dX9_readThing_30 : decode cX9_readThing 30 = .ok (.bipush 8, 2) := by decide +kernel
theorem dX9_readThing_32 : decode cX9_readThing 32 = .ok (.if_icmp .ge 8, 3) := by decide +kernel
theorem dX9_readThing_35 : decode cX9_readThing 35 = .ok (.aload_n 0, 1) := by decide +kernel
theorem dX9_readThing_36 : decode cX9_readThing 36 = .ok (.invokevirtual 94, 3) := by decide +kernel
theorem dX9_readThing_39 : decode cX9_readThing 39 = .ok (.ireturn, 1) := by decide +kernel
theorem dX9_readThing_40 : decode cX9_readThing 40 = .ok (.iload_n 1, 1) := by decide +kernel
theorem dX9_readThing_41 : decode cX9_readThing 41 = .ok (.bipush 77, 2) := by decide +kernel
theorem dX9_readThing_43 : decode cX9_readThing 43 = .ok (.if_icmp .ne 16, 3) := by decide +kernel
theorem dX9_readThing_46 : decode cX9_readThing 46 = .ok (.aload_n 0, 1) := by decide +kernel
theorem dX9_readThing_47 : decode cX9_readThing 47 = .ok (.getfield 91, 3) := by decide +kernel
theorem dX9_readThing_50 : decode cX9_readThing 50 = .ok (.iconst 5, 1) := by decide +kernel
theorem dX9_readThing_51 : decode cX9_readThing 51 = .ok (.if_icmp .ge 8, 3) := by decide +kernel
theorem dX9_readThing_54 : decode cX9_readThing 54 = .ok (.aload_n 0, 1) := by decide +kernel
theorem dX9_readThing_55 : decode cX9_readThing 55 = .ok (.invokevirtual 98, 3) := by decide +kernel
theorem dX9_readThing_58 : decode cX9_readThing 58 = .ok (.ireturn, 1) := by decide +kernel
theorem dX9_readThing_59 : decode cX9_readThing 59 = .ok (.aload_n 0, 1) := by decide +kernel
theorem dX9_readThing_60 : decode cX9_readThing 60 = .ok (.dup, 1) := by decide +kernel
theorem dX9_readThing_61 : decode cX9_readThing 61 = .ok (.getfield 81, 3) := by decide +kernel
theorem dX9_readThing_64 : decode cX9_readThing 64 = .ok (.iconst 1, 1) := by decide +kernel
theorem dX9_readThing_65 : decode cX9_readThing 65 = .ok (.isub, 1) := by decide +kernel
theorem dX9_readThing_66 : decode cX9_readThing 66 = .ok (.putfield 81, 3) := by decide +kernel
theorem dX9_readThing_69 : decode cX9_readThing 69 = .ok (.iconst 0, 1) := by decide +kernel
theorem dX9_readThing_70 : decode cX9_readThing 70 = .ok (.ireturn, 1) := by decide +kernel
theorem dX9_readArmy_0 : decode cX9_readArmy 0 = .ok (.aload_n 0, 1) := by decide +kernel
theorem dX9_readArmy_1 : decode cX9_readArmy 1 = .ok (.iconst 0, 1) := by decide +kernel
theorem dX9_readArmy_2 : decode cX9_readArmy 2 = .ok (.putfield 81, 3) := by decide +kernel
theorem dX9_readArmy_5 : decode cX9_readArmy 5 = .ok (.aload_n 0, 1) := by decide +kernel
theorem dX9_readArmy_6 : decode cX9_readArmy 6 = .ok (.iconst 0, 1) := by decide +kernel
theorem dX9_readArmy_7 : decode cX9_readArmy 7 = .ok (.putfield 88, 3) := by decide +kernel
theorem dX9_readArmy_10 : decode cX9_readArmy 10 = .ok (.aload_n 0, 1) := by decide +kernel
theorem dX9_readArmy_11 : decode cX9_readArmy 11 = .ok (.iconst 0, 1) := by decide +kernel
theorem dX9_readArmy_12 : decode cX9_readArmy 12 = .ok (.putfield 91, 3) := by decide +kernel
theorem dX9_readArmy_15 : decode cX9_readArmy 15 = .ok (.aload_n 0, 1) := by decide +kernel
theorem dX9_readArmy_16 : decode cX9_readArmy 16 = .ok (.getfield 78, 3) := by decide +kernel
theorem dX9_readArmy_19 : decode cX9_readArmy 19 = .ok (.ifCond .eq 14, 3) := by decide +kernel
theorem dX9_readArmy_22 : decode cX9_readArmy 22 = .ok (.aload_n 0, 1) := by decide +kernel
theorem dX9_readArmy_23 : decode cX9_readArmy 23 = .ok (.getfield 7, 3) := by decide +kernel
theorem dX9_readArmy_26 : decode cX9_readArmy 26 = .ok (.iconst 0, 1) := by decide +kernel
theorem dX9_readArmy_27 : decode cX9_readArmy 27 = .ok (.iaload, 1) := by decide +kernel
theorem dX9_readArmy_28 : decode cX9_readArmy 28 = .ok (.bipush 65, 2) := by decide +kernel
theorem dX9_readArmy_30 : decode cX9_readArmy 30 = .ok (.if_icmp .eq 5, 3) := by decide +kernel
theorem dX9_readArmy_33 : decode cX9_readArmy 33 = .ok (.iconst 0, 1) := by decide +kernel
theorem dX9_readArmy_34 : decode cX9_readArmy 34 = .ok (.ireturn, 1) := by decide +kernel
theorem dX9_readArmy_35 : decode cX9_readArmy 35 = .ok (.aload_n 0, 1) := by decide +kernel
theorem dX9_readArmy_36 : decode cX9_readArmy 36 = .ok (.iconst 1, 1) := by decide +kernel
theorem dX9_readArmy_37 : decode cX9_readArmy 37 = .ok (.putfield 81, 3) := by decide +kernel
theorem dX9_readArmy_40 : decode cX9_readArmy 40 = .ok (.aload_n 0, 1) := by decide +kernel
theorem dX9_readArmy_41 : decode cX9_readArmy 41 = .ok (.getfield 81, 3) := by decide +kernel
theorem dX9_readArmy_44 : decode cX9_readArmy 44 = .ok (.aload_n 0, 1) := by decide +kernel
theorem dX9_readArmy_45 : decode cX9_readArmy 45 = .ok (.getfield 78, 3) := by decide +kernel
theorem dX9_readArmy_48 : decode cX9_readArmy 48 = .ok (.if_icmp .ge 15, 3) := by decide +kernel
theorem dX9_readArmy_51 : decode cX9_readArmy 51 = .ok (.aload_n 0, 1) := by decide +kernel
theorem dX9_readArmy_52 : decode cX9_readArmy 52 = .ok (.invokevirtual 101, 3) := by decide +kernel
theorem dX9_readArmy_55 : decode cX9_readArmy 55 = .ok (.ifCond .ne (-15), 3) := by decide +kernel
theorem dX9_readArmy_58 : decode cX9_readArmy 58 = .ok (.aload_n 0, 1) := by decide +kernel
theorem dX9_readArmy_59 : decode cX9_readArmy 59 = .ok (.getfield 81, 3) := by decide +kernel
theorem dX9_readArmy_62 : decode cX9_readArmy 62 = .ok (.ireturn, 1) := by decide +kernel
theorem dX9_readArmy_63 : decode cX9_readArmy 63 = .ok (.bipush (-9), 2) := by decide +kernel
theorem dX9_readArmy_65 : decode cX9_readArmy 65 = .ok (.ireturn, 1) := by decide +kernel
theorem dX9_fault_0 : decode cX9_fault 0 = .ok (.aload_n 0, 1) := by decide +kernel
theorem dX9_fault_1 : decode cX9_fault 1 = .ok (.iconst 0, 1) := by decide +kernel
theorem dX9_fault_2 : decode cX9_fault 2 = .ok (.putfield 65, 3) := by decide +kernel
theorem dX9_fault_5 : decode cX9_fault 5 = .ok (.aload_n 0, 1) := by decide +kernel
theorem dX9_fault_6 : decode cX9_fault 6 = .ok (.invokevirtual 104, 3) := by decide +kernel
theorem dX9_fault_9 : decode cX9_fault 9 = .ok (.ireturn, 1) := by decide +kernel
theorem dX9_army_0 : decode cX9_army 0 = .ok (.aload_n 0, 1) := by decide +kernel
theorem dX9_army_1 : decode cX9_army 1 = .ok (.iconst 0, 1) := by decide +kernel
theorem dX9_army_2 : decode cX9_army 2 = .ok (.putfield 65, 3) := by decide +kernel
theorem dX9_army_5 : decode cX9_army 5 = .ok (.aload_n 0, 1) := by decide +kernel
theorem dX9_army_6 : decode cX9_army 6 = .ok (.invokevirtual 104, 3) := by decide +kernel
theorem dX9_army_9 : decode cX9_army 9 = .ok (.bipush (-9), 2) := by decide +kernel
theorem dX9_army_11 : decode cX9_army 11 = .ok (.if_icmp .eq 6, 3) := by decide +kernel
theorem dX9_army_14 : decode cX9_army 14 = .ok (.bipush (-3), 2) := by decide +kernel
theorem dX9_army_16 : decode cX9_army 16 = .ok (.ireturn, 1) := by decide +kernel
theorem dX9_army_17 : decode cX9_army 17 = .ok (.aload_n 0, 1) := by decide +kernel
theorem dX9_army_18 : decode cX9_army 18 = .ok (.aload_n 0, 1) := by decide +kernel
theorem dX9_army_19 : decode cX9_army 19 = .ok (.getfield 88, 3) := by decide +kernel
theorem dX9_army_22 : decode cX9_army 22 = .ok (.putfield 108, 3) := by decide +kernel
theorem dX9_army_25 : decode cX9_army 25 = .ok (.aload_n 0, 1) := by decide +kernel
theorem dX9_army_26 : decode cX9_army 26 = .ok (.aload_n 0, 1) := by decide +kernel
theorem dX9_army_27 : decode cX9_army 27 = .ok (.getfield 91, 3) := by decide +kernel
theorem dX9_army_30 : decode cX9_army 30 = .ok (.putfield 69, 3) := by decide +kernel
theorem dX9_army_33 : decode cX9_army 33 = .ok (.aload_n 0, 1) := by decide +kernel
theorem dX9_army_34 : decode cX9_army 34 = .ok (.iconst 0, 1) := by decide +kernel
theorem dX9_army_35 : decode cX9_army 35 = .ok (.putfield 111, 3) := by decide +kernel
theorem dX9_army_38 : decode cX9_army 38 = .ok (.iconst 0, 1) := by decide +kernel
theorem dX9_army_39 : decode cX9_army 39 = .ok (.istore_n 1, 1) := by decide +kernel
theorem dX9_army_40 : decode cX9_army 40 = .ok (.iload_n 1, 1) := by decide +kernel
theorem dX9_army_41 : decode cX9_army 41 = .ok (.bipush 7, 2) := by decide +kernel
theorem dX9_army_43 : decode cX9_army 43 = .ok (.if_icmp .ge 16, 3) := by decide +kernel
theorem dX9_army_46 : decode cX9_army 46 = .ok (.aload_n 0, 1) := by decide +kernel
theorem dX9_army_47 : decode cX9_army 47 = .ok (.getfield 31, 3) := by decide +kernel
theorem dX9_army_50 : decode cX9_army 50 = .ok (.iload_n 1, 1) := by decide +kernel
theorem dX9_army_51 : decode cX9_army 51 = .ok (.iconst 0, 1) := by decide +kernel
theorem dX9_army_52 : decode cX9_army 52 = .ok (.iastore, 1) := by decide +kernel
theorem dX9_army_53 : decode cX9_army 53 = .ok (.iinc 1 1, 3) := by decide +kernel
theorem dX9_army_56 : decode cX9_army 56 = .ok (.goto (-16), 3) := by decide +kernel
theorem dX9_army_59 : decode cX9_army 59 = .ok (.iconst 0, 1) := by decide +kernel
theorem dX9_army_60 : decode cX9_army 60 = .ok (.istore_n 1, 1) := by decide +kernel
theorem dX9_army_61 : decode cX9_army 61 = .ok (.iload_n 1, 1) := by decide +kernel
theorem dX9_army_62 : decode cX9_army 62 = .ok (.aload_n 0, 1) := by decide +kernel
theorem dX9_army_63 : decode cX9_army 63 = .ok (.getfield 108, 3) := by decide +kernel
theorem dX9_army_66 : decode cX9_army 66 = .ok (.if_icmp .ge 54, 3) := by decide +kernel
theorem dX9_army_69 : decode cX9_army 69 = .ok (.aload_n 0, 1) := by decide +kernel
theorem dX9_army_70 : decode cX9_army 70 = .ok (.getfield 13, 3) := by decide +kernel
theorem dX9_army_73 : decode cX9_army 73 = .ok (.iload_n 1, 1) := by decide +kernel
theorem dX9_army_74 : decode cX9_army 74 = .ok (.aload_n 0, 1) := by decide +kernel
theorem dX9_army_75 : decode cX9_army 75 = .ok (.getfield 25, 3) := by decide +kernel
theorem dX9_army_78 : decode cX9_army 78 = .ok (.iconst 2, 1) := by decide +kernel
theorem dX9_army_79 : decode cX9_army 79 = .ok (.iload_n 1, 1) := by decide +kernel
theorem dX9_army_80 : decode cX9_army 80 = .ok (.imul, 1) := by decide +kernel
theorem dX9_army_81 : decode cX9_army 81 = .ok (.iaload, 1) := by decide +kernel
theorem dX9_army_82 : decode cX9_army 82 = .ok (.iastore, 1) := by decide +kernel
theorem dX9_army_83 : decode cX9_army 83 = .ok (.aload_n 0, 1) := by decide +kernel
theorem dX9_army_84 : decode cX9_army 84 = .ok (.getfield 16, 3) := by decide +kernel
theorem dX9_army_87 : decode cX9_army 87 = .ok (.iload_n 1, 1) := by decide +kernel
theorem dX9_army_88 : decode cX9_army 88 = .ok (.aload_n 0, 1) := by decide +kernel
theorem dX9_army_89 : decode cX9_army 89 = .ok (.getfield 25, 3) := by decide +kernel
theorem dX9_army_92 : decode cX9_army 92 = .ok (.iconst 2, 1) := by decide +kernel
theorem dX9_army_93 : decode cX9_army 93 = .ok (.iload_n 1, 1) := by decide +kernel
theorem dX9_army_94 : decode cX9_army 94 = .ok (.imul, 1) := by decide +kernel
theorem dX9_army_95 : decode cX9_army 95 = .ok (.iconst 1, 1) := by decide +kernel
theorem dX9_army_96 : decode cX9_army 96 = .ok (.iadd, 1) := by decide +kernel
theorem dX9_army_97 : decode cX9_army 97 = .ok (.iaload, 1) := by decide +kernel
theorem dX9_army_98 : decode cX9_army 98 = .ok (.iastore, 1) := by decide +kernel
theorem dX9_army_99 : decode cX9_army 99 = .ok (.aload_n 0, 1) := by decide +kernel
theorem dX9_army_100 : decode cX9_army 100 = .ok (.dup, 1) := by decide +kernel
theorem dX9_army_101 : decode cX9_army 101 = .ok (.getfield 111, 3) := by decide +kernel
theorem dX9_army_104 : decode cX9_army 104 = .ok (.aload_n 0, 1) := by decide +kernel
theorem dX9_army_105 : decode cX9_army 105 = .ok (.getfield 13, 3) := by decide +kernel
theorem dX9_army_108 : decode cX9_army 108 = .ok (.iload_n 1, 1) := by decide +kernel
theorem dX9_army_109 : decode cX9_army 109 = .ok (.iaload, 1) := by decide +kernel
theorem dX9_army_110 : decode cX9_army 110 = .ok (.iadd, 1) := by decide +kernel
theorem dX9_army_111 : decode cX9_army 111 = .ok (.putfield 111, 3) := by decide +kernel
theorem dX9_army_114 : decode cX9_army 114 = .ok (.iinc 1 1, 3) := by decide +kernel
theorem dX9_army_117 : decode cX9_army 117 = .ok (.goto (-56), 3) := by decide +kernel
theorem dX9_army_120 : decode cX9_army 120 = .ok (.iconst 0, 1) := by decide +kernel
theorem dX9_army_121 : decode cX9_army 121 = .ok (.istore_n 1, 1) := by decide +kernel
theorem dX9_army_122 : decode cX9_army 122 = .ok (.iload_n 1, 1) := by decide +kernel
theorem dX9_army_123 : decode cX9_army 123 = .ok (.aload_n 0, 1) := by decide +kernel
theorem dX9_army_124 : decode cX9_army 124 = .ok (.getfield 69, 3) := by decide +kernel
theorem dX9_army_127 : decode cX9_army 127 = .ok (.if_icmp .ge 57, 3) := by decide +kernel
theorem dX9_army_130 : decode cX9_army 130 = .ok (.aload_n 0, 1) := by decide +kernel
theorem dX9_army_131 : decode cX9_army 131 = .ok (.getfield 19, 3) := by decide +kernel
theorem dX9_army_134 : decode cX9_army 134 = .ok (.iload_n 1, 1) := by decide +kernel
theorem dX9_army_135 : decode cX9_army 135 = .ok (.aload_n 0, 1) := by decide +kernel
theorem dX9_army_136 : decode cX9_army 136 = .ok (.getfield 28, 3) := by decide +kernel
theorem dX9_army_139 : decode cX9_army 139 = .ok (.iconst 3, 1) := by decide +kernel
theorem dX9_army_140 : decode cX9_army 140 = .ok (.iload_n 1, 1) := by decide +kernel
theorem dX9_army_141 : decode cX9_army 141 = .ok (.imul, 1) := by decide +kernel
theorem dX9_army_142 : decode cX9_army 142 = .ok (.iaload, 1) := by decide +kernel
theorem dX9_army_143 : decode cX9_army 143 = .ok (.iastore, 1) := by decide +kernel
theorem dX9_army_144 : decode cX9_army 144 = .ok (.aload_n 0, 1) := by decide +kernel
theorem dX9_army_145 : decode cX9_army 145 = .ok (.getfield 22, 3) := by decide +kernel
theorem dX9_army_148 : decode cX9_army 148 = .ok (.iload_n 1, 1) := by decide +kernel
theorem dX9_army_149 : decode cX9_army 149 = .ok (.aload_n 0, 1) := by decide +kernel
theorem dX9_army_150 : decode cX9_army 150 = .ok (.getfield 28, 3) := by decide +kernel
theorem dX9_army_153 : decode cX9_army 153 = .ok (.iconst 3, 1) := by decide +kernel
theorem dX9_army_154 : decode cX9_army 154 = .ok (.iload_n 1, 1) := by decide +kernel
theorem dX9_army_155 : decode cX9_army 155 = .ok (.imul, 1) := by decide +kernel
theorem dX9_army_156 : decode cX9_army 156 = .ok (.iconst 1, 1) := by decide +kernel
theorem dX9_army_157 : decode cX9_army 157 = .ok (.iadd, 1) := by decide +kernel
theorem dX9_army_158 : decode cX9_army 158 = .ok (.iaload, 1) := by decide +kernel
theorem dX9_army_159 : decode cX9_army 159 = .ok (.iastore, 1) := by decide +kernel
theorem dX9_army_160 : decode cX9_army 160 = .ok (.aload_n 0, 1) := by decide +kernel
theorem dX9_army_161 : decode cX9_army 161 = .ok (.getfield 31, 3) := by decide +kernel
theorem dX9_army_164 : decode cX9_army 164 = .ok (.iconst 2, 1) := by decide +kernel
theorem dX9_army_165 : decode cX9_army 165 = .ok (.iload_n 1, 1) := by decide +kernel
theorem dX9_army_166 : decode cX9_army 166 = .ok (.iadd, 1) := by decide +kernel
theorem dX9_army_167 : decode cX9_army 167 = .ok (.aload_n 0, 1) := by decide +kernel
theorem dX9_army_168 : decode cX9_army 168 = .ok (.getfield 28, 3) := by decide +kernel
theorem dX9_army_171 : decode cX9_army 171 = .ok (.iconst 3, 1) := by decide +kernel
theorem dX9_army_172 : decode cX9_army 172 = .ok (.iload_n 1, 1) := by decide +kernel
theorem dX9_army_173 : decode cX9_army 173 = .ok (.imul, 1) := by decide +kernel
theorem dX9_army_174 : decode cX9_army 174 = .ok (.iconst 2, 1) := by decide +kernel
theorem dX9_army_175 : decode cX9_army 175 = .ok (.iadd, 1) := by decide +kernel
theorem dX9_army_176 : decode cX9_army 176 = .ok (.iaload, 1) := by decide +kernel
theorem dX9_army_177 : decode cX9_army 177 = .ok (.iastore, 1) := by decide +kernel
theorem dX9_army_178 : decode cX9_army 178 = .ok (.iinc 1 1, 3) := by decide +kernel
theorem dX9_army_181 : decode cX9_army 181 = .ok (.goto (-59), 3) := by decide +kernel
theorem dX9_army_184 : decode cX9_army 184 = .ok (.aload_n 0, 1) := by decide +kernel
theorem dX9_army_185 : decode cX9_army 185 = .ok (.iconst 0, 1) := by decide +kernel
theorem dX9_army_186 : decode cX9_army 186 = .ok (.putfield 114, 3) := by decide +kernel
theorem dX9_army_189 : decode cX9_army 189 = .ok (.aload_n 0, 1) := by decide +kernel
theorem dX9_army_190 : decode cX9_army 190 = .ok (.getfield 46, 3) := by decide +kernel
theorem dX9_army_193 : decode cX9_army 193 = .ok (.iconst 0, 1) := by decide +kernel
theorem dX9_army_194 : decode cX9_army 194 = .ok (.iconst 0, 1) := by decide +kernel
theorem dX9_army_195 : decode cX9_army 195 = .ok (.bastore, 1) := by decide +kernel
theorem dX9_army_196 : decode cX9_army 196 = .ok (.aload_n 0, 1) := by decide +kernel
theorem dX9_army_197 : decode cX9_army 197 = .ok (.getfield 46, 3) := by decide +kernel
theorem dX9_army_200 : decode cX9_army 200 = .ok (.iconst 1, 1) := by decide +kernel
theorem dX9_army_201 : decode cX9_army 201 = .ok (.iconst 0, 1) := by decide +kernel
theorem dX9_army_202 : decode cX9_army 202 = .ok (.bastore, 1) := by decide +kernel
theorem dX9_army_203 : decode cX9_army 203 = .ok (.bipush 10, 2) := by decide +kernel
theorem dX9_army_205 : decode cX9_army 205 = .ok (.aload_n 0, 1) := by decide +kernel
theorem dX9_army_206 : decode cX9_army 206 = .ok (.getfield 108, 3) := by decide +kernel
theorem dX9_army_209 : decode cX9_army 209 = .ok (.imul, 1) := by decide +kernel
theorem dX9_army_210 : decode cX9_army 210 = .ok (.aload_n 0, 1) := by decide +kernel
theorem dX9_army_211 : decode cX9_army 211 = .ok (.getfield 69, 3) := by decide +kernel
theorem dX9_army_214 : decode cX9_army 214 = .ok (.iadd, 1) := by decide +kernel
theorem dX9_army_215 : decode cX9_army 215 = .ok (.ireturn, 1) := by decide +kernel
theorem dX9_speedBy_0 : decode cX9_speedBy 0 = .ok (.iload_n 0, 1) := by decide +kernel
theorem dX9_speedBy_1 : decode cX9_speedBy 1 = .ok (.iload_n 2, 1) := by decide +kernel
theorem dX9_speedBy_2 : decode cX9_speedBy 2 = .ok (.iload_n 1, 1) := by decide +kernel
theorem dX9_speedBy_3 : decode cX9_speedBy 3 = .ok (.iconst 1, 1) := by decide +kernel
theorem dX9_speedBy_4 : decode cX9_speedBy 4 = .ok (.if_icmp .ne 7, 3) := by decide +kernel
theorem dX9_speedBy_7 : decode cX9_speedBy 7 = .ok (.iconst 1, 1) := by decide +kernel
theorem dX9_speedBy_8 : decode cX9_speedBy 8 = .ok (.goto 13, 3) := by decide +kernel
theorem dX9_speedBy_11 : decode cX9_speedBy 11 = .ok (.iload_n 1, 1) := by decide +kernel
theorem dX9_speedBy_12 : decode cX9_speedBy 12 = .ok (.iconst 2, 1) := by decide +kernel
theorem dX9_speedBy_13 : decode cX9_speedBy 13 = .ok (.if_icmp .ne 7, 3) := by decide +kernel
theorem dX9_speedBy_16 : decode cX9_speedBy 16 = .ok (.iconst 3, 1) := by decide +kernel
theorem dX9_speedBy_17 : decode cX9_speedBy 17 = .ok (.goto 4, 3) := by decide +kernel
theorem dX9_speedBy_20 : decode cX9_speedBy 20 = .ok (.iconst 2, 1) := by decide +kernel
theorem dX9_speedBy_21 : decode cX9_speedBy 21 = .ok (.imul, 1) := by decide +kernel
theorem dX9_speedBy_22 : decode cX9_speedBy 22 = .ok (.isub, 1) := by decide +kernel
theorem dX9_speedBy_23 : decode cX9_speedBy 23 = .ok (.istore_n 3, 1) := by decide +kernel
theorem dX9_speedBy_24 : decode cX9_speedBy 24 = .ok (.iload_n 3, 1) := by decide +kernel
theorem dX9_speedBy_25 : decode cX9_speedBy 25 = .ok (.iconst 1, 1) := by decide +kernel
theorem dX9_speedBy_26 : decode cX9_speedBy 26 = .ok (.if_icmp .ge 7, 3) := by decide +kernel
theorem dX9_speedBy_29 : decode cX9_speedBy 29 = .ok (.iconst 1, 1) := by decide +kernel
theorem dX9_speedBy_30 : decode cX9_speedBy 30 = .ok (.goto 4, 3) := by decide +kernel
end
section
theorem dX9_speedBy_33 : decode cX9_speedBy 33 = .ok (.iload_n 3, 1) := by decide +kernel
theorem dX9_speedBy_34 : decode cX9_speedBy 34 = .ok (.ireturn, 1) := by decide +kernel
theorem dX9_speed_0 : decode cX9_speed 0 = .ok (.aload_n 0, 1) := by decide +kernel
theorem dX9_speed_1 : decode cX9_speed 1 = .ok (.getfield 19, 3) := by decide +kernel
theorem dX9_speed_4 : decode cX9_speed 4 = .ok (.iload_n 2, 1) := by decide +kernel
theorem dX9_speed_5 : decode cX9_speed 5 = .ok (.iaload, 1) := by decide +kernel
theorem dX9_speed_6 : decode cX9_speed 6 = .ok (.aload_n 0, 1) := by decide +kernel
theorem dX9_speed_7 : decode cX9_speed 7 = .ok (.getfield 22, 3) := by decide +kernel
theorem dX9_speed_10 : decode cX9_speed 10 = .ok (.iload_n 2, 1) := by decide +kernel
theorem dX9_speed_11 : decode cX9_speed 11 = .ok (.iaload, 1) := by decide +kernel
theorem dX9_speed_12 : decode cX9_speed 12 = .ok (.aload_n 1, 1) := by decide +kernel
theorem dX9_speed_13 : decode cX9_speed 13 = .ok (.iconst 2, 1) := by decide +kernel
theorem dX9_speed_14 : decode cX9_speed 14 = .ok (.iload_n 2, 1) := by decide +kernel
theorem dX9_speed_15 : decode cX9_speed 15 = .ok (.iadd, 1) := by decide +kernel
theorem dX9_speed_16 : decode cX9_speed 16 = .ok (.iaload, 1) := by decide +kernel
theorem dX9_speed_17 : decode cX9_speed 17 = .ok (.invokestatic 117, 3) := by decide +kernel
theorem dX9_speed_20 : decode cX9_speed 20 = .ok (.ireturn, 1) := by decide +kernel
theorem dX9_leader_0 : decode cX9_leader 0 = .ok (.bipush (-9), 2) := by decide +kernel
theorem dX9_leader_2 : decode cX9_leader 2 = .ok (.istore_n 3, 1) := by decide +kernel
theorem dX9_leader_3 : decode cX9_leader 3 = .ok (.aload_n 0, 1) := by decide +kernel
theorem dX9_leader_4 : decode cX9_leader 4 = .ok (.getfield 69, 3) := by decide +kernel
theorem dX9_leader_7 : decode cX9_leader 7 = .ok (.iconst 1, 1) := by decide +kernel
theorem dX9_leader_8 : decode cX9_leader 8 = .ok (.isub, 1) := by decide +kernel
theorem dX9_leader_9 : decode cX9_leader 9 = .ok (.istore 4, 2) := by decide +kernel
theorem dX9_leader_11 : decode cX9_leader 11 = .ok (.iload 4, 2) := by decide +kernel
theorem dX9_leader_13 : decode cX9_leader 13 = .ok (.ifCond .lt 47, 3) := by decide +kernel
theorem dX9_leader_16 : decode cX9_leader 16 = .ok (.iload_n 2, 1) := by decide +kernel
theorem dX9_leader_17 : decode cX9_leader 17 = .ok (.iload 4, 2) := by decide +kernel
theorem dX9_leader_19 : decode cX9_leader 19 = .ok (.invokestatic 121, 3) := by decide +kernel
theorem dX9_leader_22 : decode cX9_leader 22 = .ok (.ifCond .eq 30, 3) := by decide +kernel
theorem dX9_leader_25 : decode cX9_leader 25 = .ok (.iload_n 3, 1) := by decide +kernel
theorem dX9_leader_26 : decode cX9_leader 26 = .ok (.bipush (-9), 2) := by decide +kernel
theorem dX9_leader_28 : decode cX9_leader 28 = .ok (.if_icmp .eq 19, 3) := by decide +kernel
theorem dX9_leader_31 : decode cX9_leader 31 = .ok (.aload_n 0, 1) := by decide +kernel
theorem dX9_leader_32 : decode cX9_leader 32 = .ok (.aload_n 1, 1) := by decide +kernel
theorem dX9_leader_33 : decode cX9_leader 33 = .ok (.iload 4, 2) := by decide +kernel
theorem dX9_leader_35 : decode cX9_leader 35 = .ok (.invokevirtual 125, 3) := by decide +kernel
theorem dX9_leader_38 : decode cX9_leader 38 = .ok (.aload_n 0, 1) := by decide +kernel
theorem dX9_leader_39 : decode cX9_leader 39 = .ok (.aload_n 1, 1) := by decide +kernel
theorem dX9_leader_40 : decode cX9_leader 40 = .ok (.iload_n 3, 1) := by decide +kernel
theorem dX9_leader_41 : decode cX9_leader 41 = .ok (.invokevirtual 125, 3) := by decide +kernel
theorem dX9_leader_44 : decode cX9_leader 44 = .ok (.if_icmp .gt 8, 3) := by decide +kernel
theorem dX9_leader_47 : decode cX9_leader 47 = .ok (.iload 4, 2) := by decide +kernel
theorem dX9_leader_49 : decode cX9_leader 49 = .ok (.goto 4, 3) := by decide +kernel
theorem dX9_leader_52 : decode cX9_leader 52 = .ok (.iload_n 3, 1) := by decide +kernel
theorem dX9_leader_53 : decode cX9_leader 53 = .ok (.istore_n 3, 1) := by decide +kernel
theorem dX9_leader_54 : decode cX9_leader 54 = .ok (.iinc 4 (-1), 3) := by decide +kernel
theorem dX9_leader_57 : decode cX9_leader 57 = .ok (.goto (-46), 3) := by decide +kernel
theorem dX9_leader_60 : decode cX9_leader 60 = .ok (.iload_n 3, 1) := by decide +kernel
theorem dX9_leader_61 : decode cX9_leader 61 = .ok (.ireturn, 1) := by decide +kernel
theorem dX9_begins_0 : decode cX9_begins 0 = .ok (.iconst 0, 1) := by decide +kernel
theorem dX9_begins_1 : decode cX9_begins 1 = .ok (.istore_n 2, 1) := by decide +kernel
theorem dX9_begins_2 : decode cX9_begins 2 = .ok (.iconst 0, 1) := by decide +kernel
theorem dX9_begins_3 : decode cX9_begins 3 = .ok (.istore_n 3, 1) := by decide +kernel
theorem dX9_begins_4 : decode cX9_begins 4 = .ok (.iload_n 3, 1) := by decide +kernel
theorem dX9_begins_5 : decode cX9_begins 5 = .ok (.iload_n 1, 1) := by decide +kernel
theorem dX9_begins_6 : decode cX9_begins 6 = .ok (.if_icmp .ge 18, 3) := by decide +kernel
theorem dX9_begins_9 : decode cX9_begins 9 = .ok (.iload_n 2, 1) := by decide +kernel
theorem dX9_begins_10 : decode cX9_begins 10 = .ok (.aload_n 0, 1) := by decide +kernel
theorem dX9_begins_11 : decode cX9_begins 11 = .ok (.getfield 13, 3) := by decide +kernel
theorem dX9_begins_14 : decode cX9_begins 14 = .ok (.iload_n 3, 1) := by decide +kernel
theorem dX9_begins_15 : decode cX9_begins 15 = .ok (.iaload, 1) := by decide +kernel
theorem dX9_begins_16 : decode cX9_begins 16 = .ok (.iadd, 1) := by decide +kernel
theorem dX9_begins_17 : decode cX9_begins 17 = .ok (.istore_n 2, 1) := by decide +kernel
theorem dX9_begins_18 : decode cX9_begins 18 = .ok (.iinc 3 1, 3) := by decide +kernel
theorem dX9_begins_21 : decode cX9_begins 21 = .ok (.goto (-17), 3) := by decide +kernel
theorem dX9_begins_24 : decode cX9_begins 24 = .ok (.iload_n 2, 1) := by decide +kernel
theorem dX9_begins_25 : decode cX9_begins 25 = .ok (.ireturn, 1) := by decide +kernel
theorem dX9_stretchAt_0 : decode cX9_stretchAt 0 = .ok (.bipush (-9), 2) := by decide +kernel
theorem dX9_stretchAt_2 : decode cX9_stretchAt 2 = .ok (.istore_n 2, 1) := by decide +kernel
theorem dX9_stretchAt_3 : decode cX9_stretchAt 3 = .ok (.iconst 0, 1) := by decide +kernel
theorem dX9_stretchAt_4 : decode cX9_stretchAt 4 = .ok (.istore_n 3, 1) := by decide +kernel
theorem dX9_stretchAt_5 : decode cX9_stretchAt 5 = .ok (.iload_n 3, 1) := by decide +kernel
theorem dX9_stretchAt_6 : decode cX9_stretchAt 6 = .ok (.aload_n 0, 1) := by decide +kernel
theorem dX9_stretchAt_7 : decode cX9_stretchAt 7 = .ok (.getfield 108, 3) := by decide +kernel
theorem dX9_stretchAt_10 : decode cX9_stretchAt 10 = .ok (.if_icmp .ge 40, 3) := by decide +kernel
theorem dX9_stretchAt_13 : decode cX9_stretchAt 13 = .ok (.iload_n 1, 1) := by decide +kernel
theorem dX9_stretchAt_14 : decode cX9_stretchAt 14 = .ok (.aload_n 0, 1) := by decide +kernel
theorem dX9_stretchAt_15 : decode cX9_stretchAt 15 = .ok (.iload_n 3, 1) := by decide +kernel
theorem dX9_stretchAt_16 : decode cX9_stretchAt 16 = .ok (.invokevirtual 129, 3) := by decide +kernel
theorem dX9_stretchAt_19 : decode cX9_stretchAt 19 = .ok (.if_icmp .lt 23, 3) := by decide +kernel
theorem dX9_stretchAt_22 : decode cX9_stretchAt 22 = .ok (.iload_n 1, 1) := by decide +kernel
theorem dX9_stretchAt_23 : decode cX9_stretchAt 23 = .ok (.aload_n 0, 1) := by decide +kernel
theorem dX9_stretchAt_24 : decode cX9_stretchAt 24 = .ok (.iload_n 3, 1) := by decide +kernel
theorem dX9_stretchAt_25 : decode cX9_stretchAt 25 = .ok (.invokevirtual 129, 3) := by decide +kernel
theorem dX9_stretchAt_28 : decode cX9_stretchAt 28 = .ok (.aload_n 0, 1) := by decide +kernel
theorem dX9_stretchAt_29 : decode cX9_stretchAt 29 = .ok (.getfield 13, 3) := by decide +kernel
theorem dX9_stretchAt_32 : decode cX9_stretchAt 32 = .ok (.iload_n 3, 1) := by decide +kernel
theorem dX9_stretchAt_33 : decode cX9_stretchAt 33 = .ok (.iaload, 1) := by decide +kernel
theorem dX9_stretchAt_34 : decode cX9_stretchAt 34 = .ok (.iadd, 1) := by decide +kernel
theorem dX9_stretchAt_35 : decode cX9_stretchAt 35 = .ok (.if_icmp .ge 7, 3) := by decide +kernel
theorem dX9_stretchAt_38 : decode cX9_stretchAt 38 = .ok (.iload_n 3, 1) := by decide +kernel
theorem dX9_stretchAt_39 : decode cX9_stretchAt 39 = .ok (.goto 4, 3) := by decide +kernel
theorem dX9_stretchAt_42 : decode cX9_stretchAt 42 = .ok (.iload_n 2, 1) := by decide +kernel
theorem dX9_stretchAt_43 : decode cX9_stretchAt 43 = .ok (.istore_n 2, 1) := by decide +kernel
theorem dX9_stretchAt_44 : decode cX9_stretchAt 44 = .ok (.iinc 3 1, 3) := by decide +kernel
theorem dX9_stretchAt_47 : decode cX9_stretchAt 47 = .ok (.goto (-42), 3) := by decide +kernel
theorem dX9_stretchAt_50 : decode cX9_stretchAt 50 = .ok (.iload_n 2, 1) := by decide +kernel
theorem dX9_stretchAt_51 : decode cX9_stretchAt 51 = .ok (.ireturn, 1) := by decide +kernel
theorem dX9_heal_0 : decode cX9_heal 0 = .ok (.iconst 0, 1) := by decide +kernel
theorem dX9_heal_1 : decode cX9_heal 1 = .ok (.istore_n 2, 1) := by decide +kernel
theorem dX9_heal_2 : decode cX9_heal 2 = .ok (.iload_n 2, 1) := by decide +kernel
theorem dX9_heal_3 : decode cX9_heal 3 = .ok (.aload_n 0, 1) := by decide +kernel
theorem dX9_heal_4 : decode cX9_heal 4 = .ok (.getfield 69, 3) := by decide +kernel
theorem dX9_heal_7 : decode cX9_heal 7 = .ok (.if_icmp .ge 40, 3) := by decide +kernel
theorem dX9_heal_10 : decode cX9_heal 10 = .ok (.aload_n 1, 1) := by decide +kernel
theorem dX9_heal_11 : decode cX9_heal 11 = .ok (.iconst 2, 1) := by decide +kernel
theorem dX9_heal_12 : decode cX9_heal 12 = .ok (.iload_n 2, 1) := by decide +kernel
theorem dX9_heal_13 : decode cX9_heal 13 = .ok (.iadd, 1) := by decide +kernel
theorem dX9_heal_14 : decode cX9_heal 14 = .ok (.dup2, 1) := by decide +kernel
theorem dX9_heal_15 : decode cX9_heal 15 = .ok (.iaload, 1) := by decide +kernel
theorem dX9_heal_16 : decode cX9_heal 16 = .ok (.aload_n 0, 1) := by decide +kernel
theorem dX9_heal_17 : decode cX9_heal 17 = .ok (.getfield 22, 3) := by decide +kernel
theorem dX9_heal_20 : decode cX9_heal 20 = .ok (.iload_n 2, 1) := by decide +kernel
theorem dX9_heal_21 : decode cX9_heal 21 = .ok (.iaload, 1) := by decide +kernel
theorem dX9_heal_22 : decode cX9_heal 22 = .ok (.iconst 3, 1) := by decide +kernel
theorem dX9_heal_23 : decode cX9_heal 23 = .ok (.if_icmp .eq 15, 3) := by decide +kernel
theorem dX9_heal_26 : decode cX9_heal 26 = .ok (.aload_n 1, 1) := by decide +kernel
theorem dX9_heal_27 : decode cX9_heal 27 = .ok (.iconst 2, 1) := by decide +kernel
theorem dX9_heal_28 : decode cX9_heal 28 = .ok (.iload_n 2, 1) := by decide +kernel
theorem dX9_heal_29 : decode cX9_heal 29 = .ok (.iadd, 1) := by decide +kernel
theorem dX9_heal_30 : decode cX9_heal 30 = .ok (.iaload, 1) := by decide +kernel
theorem dX9_heal_31 : decode cX9_heal 31 = .ok (.ifCond .le 7, 3) := by decide +kernel
theorem dX9_heal_34 : decode cX9_heal 34 = .ok (.iconst 1, 1) := by decide +kernel
theorem dX9_heal_35 : decode cX9_heal 35 = .ok (.goto 4, 3) := by decide +kernel
theorem dX9_heal_38 : decode cX9_heal 38 = .ok (.iconst 0, 1) := by decide +kernel
theorem dX9_heal_39 : decode cX9_heal 39 = .ok (.isub, 1) := by decide +kernel
theorem dX9_heal_40 : decode cX9_heal 40 = .ok (.iastore, 1) := by decide +kernel
theorem dX9_heal_41 : decode cX9_heal 41 = .ok (.iinc 2 1, 3) := by decide +kernel
theorem dX9_heal_44 : decode cX9_heal 44 = .ok (.goto (-42), 3) := by decide +kernel
theorem dX9_heal_47 : decode cX9_heal 47 = .ok (.return_, 1) := by decide +kernel
theorem dX9_prick_0 : decode cX9_prick 0 = .ok (.aload_n 0, 1) := by decide +kernel
theorem dX9_prick_1 : decode cX9_prick 1 = .ok (.iconst 2, 1) := by decide +kernel
theorem dX9_prick_2 : decode cX9_prick 2 = .ok (.iload_n 1, 1) := by decide +kernel
theorem dX9_prick_3 : decode cX9_prick 3 = .ok (.iadd, 1) := by decide +kernel
theorem dX9_prick_4 : decode cX9_prick 4 = .ok (.dup2, 1) := by decide +kernel
theorem dX9_prick_5 : decode cX9_prick 5 = .ok (.iaload, 1) := by decide +kernel
theorem dX9_prick_6 : decode cX9_prick 6 = .ok (.aload_n 0, 1) := by decide +kernel
theorem dX9_prick_7 : decode cX9_prick 7 = .ok (.iconst 2, 1) := by decide +kernel
theorem dX9_prick_8 : decode cX9_prick 8 = .ok (.iload_n 1, 1) := by decide +kernel
theorem dX9_prick_9 : decode cX9_prick 9 = .ok (.iadd, 1) := by decide +kernel
theorem dX9_prick_10 : decode cX9_prick 10 = .ok (.iaload, 1) := by decide +kernel
theorem dX9_prick_11 : decode cX9_prick 11 = .ok (.bipush 9, 2) := by decide +kernel
theorem dX9_prick_13 : decode cX9_prick 13 = .ok (.if_icmp .ge 7, 3) := by decide +kernel
theorem dX9_prick_16 : decode cX9_prick 16 = .ok (.iconst 1, 1) := by decide +kernel
theorem dX9_prick_17 : decode cX9_prick 17 = .ok (.goto 4, 3) := by decide +kernel
theorem dX9_prick_20 : decode cX9_prick 20 = .ok (.iconst 0, 1) := by decide +kernel
theorem dX9_prick_21 : decode cX9_prick 21 = .ok (.iadd, 1) := by decide +kernel
theorem dX9_prick_22 : decode cX9_prick 22 = .ok (.iastore, 1) := by decide +kernel
theorem dX9_prick_23 : decode cX9_prick 23 = .ok (.return_, 1) := by decide +kernel
theorem dX9_goDay_0 : decode cX9_goDay 0 = .ok (.aload_n 0, 1) := by decide +kernel
theorem dX9_goDay_1 : decode cX9_goDay 1 = .ok (.aload_n 1, 1) := by decide +kernel
theorem dX9_goDay_2 : decode cX9_goDay 2 = .ok (.iload_n 2, 1) := by decide +kernel
theorem dX9_goDay_3 : decode cX9_goDay 3 = .ok (.invokevirtual 133, 3) := by decide +kernel
theorem dX9_goDay_6 : decode cX9_goDay 6 = .ok (.istore_n 3, 1) := by decide +kernel
theorem dX9_goDay_7 : decode cX9_goDay 7 = .ok (.aload_n 0, 1) := by decide +kernel
theorem dX9_goDay_8 : decode cX9_goDay 8 = .ok (.aload_n 1, 1) := by decide +kernel
theorem dX9_goDay_9 : decode cX9_goDay 9 = .ok (.iconst 0, 1) := by decide +kernel
theorem dX9_goDay_10 : decode cX9_goDay 10 = .ok (.iaload, 1) := by decide +kernel
theorem dX9_goDay_11 : decode cX9_goDay 11 = .ok (.invokevirtual 136, 3) := by decide +kernel
theorem dX9_goDay_14 : decode cX9_goDay 14 = .ok (.istore 4, 2) := by decide +kernel
theorem dX9_goDay_16 : decode cX9_goDay 16 = .ok (.iconst 0, 1) := by decide +kernel
theorem dX9_goDay_17 : decode cX9_goDay 17 = .ok (.istore 5, 2) := by decide +kernel
theorem dX9_goDay_19 : decode cX9_goDay 19 = .ok (.iload_n 3, 1) := by decide +kernel
theorem dX9_goDay_20 : decode cX9_goDay 20 = .ok (.bipush (-9), 2) := by decide +kernel
theorem dX9_goDay_22 : decode cX9_goDay 22 = .ok (.if_icmp .eq 107, 3) := by decide +kernel
theorem dX9_goDay_25 : decode cX9_goDay 25 = .ok (.iload 4, 2) := by decide +kernel
theorem dX9_goDay_27 : decode cX9_goDay 27 = .ok (.bipush (-9), 2) := by decide +kernel
theorem dX9_goDay_29 : decode cX9_goDay 29 = .ok (.if_icmp .eq 100, 3) := by decide +kernel
theorem dX9_goDay_32 : decode cX9_goDay 32 = .ok (.aload_n 0, 1) := by decide +kernel
theorem dX9_goDay_33 : decode cX9_goDay 33 = .ok (.aload_n 1, 1) := by decide +kernel
theorem dX9_goDay_34 : decode cX9_goDay 34 = .ok (.iload_n 3, 1) := by decide +kernel
theorem dX9_goDay_35 : decode cX9_goDay 35 = .ok (.invokevirtual 125, 3) := by decide +kernel
theorem dX9_goDay_38 : decode cX9_goDay 38 = .ok (.istore 6, 2) := by decide +kernel
theorem dX9_goDay_40 : decode cX9_goDay 40 = .ok (.aload_n 0, 1) := by decide +kernel
theorem dX9_goDay_41 : decode cX9_goDay 41 = .ok (.getfield 16, 3) := by decide +kernel
theorem dX9_goDay_44 : decode cX9_goDay 44 = .ok (.iload 4, 2) := by decide +kernel
theorem dX9_goDay_46 : decode cX9_goDay 46 = .ok (.iaload, 1) := by decide +kernel
theorem dX9_goDay_47 : decode cX9_goDay 47 = .ok (.istore 7, 2) := by decide +kernel
theorem dX9_goDay_49 : decode cX9_goDay 49 = .ok (.iload 7, 2) := by decide +kernel
theorem dX9_goDay_51 : decode cX9_goDay 51 = .ok (.iconst 2, 1) := by decide +kernel
theorem dX9_goDay_52 : decode cX9_goDay 52 = .ok (.if_icmp .ne 7, 3) := by decide +kernel
theorem dX9_goDay_55 : decode cX9_goDay 55 = .ok (.iconst 1, 1) := by decide +kernel
theorem dX9_goDay_56 : decode cX9_goDay 56 = .ok (.goto 24, 3) := by decide +kernel
theorem dX9_goDay_59 : decode cX9_goDay 59 = .ok (.iload 7, 2) := by decide +kernel
theorem dX9_goDay_61 : decode cX9_goDay 61 = .ok (.iconst 1, 1) := by decide +kernel
theorem dX9_goDay_62 : decode cX9_goDay 62 = .ok (.if_icmp .ne 16, 3) := by decide +kernel
theorem dX9_goDay_65 : decode cX9_goDay 65 = .ok (.iload 6, 2) := by decide +kernel
theorem dX9_goDay_67 : decode cX9_goDay 67 = .ok (.iconst 1, 1) := by decide +kernel
theorem dX9_goDay_68 : decode cX9_goDay 68 = .ok (.if_icmp .le 10, 3) := by decide +kernel
theorem dX9_goDay_71 : decode cX9_goDay 71 = .ok (.iload 6, 2) := by decide +kernel
theorem dX9_goDay_73 : decode cX9_goDay 73 = .ok (.iconst 2, 1) := by decide +kernel
theorem dX9_goDay_74 : decode cX9_goDay 74 = .ok (.idiv, 1) := by decide +kernel
theorem dX9_goDay_75 : decode cX9_goDay 75 = .ok (.goto 5, 3) := by decide +kernel
theorem dX9_goDay_78 : decode cX9_goDay 78 = .ok (.iload 6, 2) := by decide +kernel
theorem dX9_goDay_80 : decode cX9_goDay 80 = .ok (.istore 5, 2) := by decide +kernel
theorem dX9_goDay_82 : decode cX9_goDay 82 = .ok (.aload_n 1, 1) := by decide +kernel
theorem dX9_goDay_83 : decode cX9_goDay 83 = .ok (.iconst 0, 1) := by decide +kernel
theorem dX9_goDay_84 : decode cX9_goDay 84 = .ok (.iaload, 1) := by decide +kernel
theorem dX9_goDay_85 : decode cX9_goDay 85 = .ok (.iload 5, 2) := by decide +kernel
theorem dX9_goDay_87 : decode cX9_goDay 87 = .ok (.iadd, 1) := by decide +kernel
theorem dX9_goDay_88 : decode cX9_goDay 88 = .ok (.aload_n 0, 1) := by decide +kernel
theorem dX9_goDay_89 : decode cX9_goDay 89 = .ok (.getfield 111, 3) := by decide +kernel
theorem dX9_goDay_92 : decode cX9_goDay 92 = .ok (.if_icmp .le 14, 3) := by decide +kernel
theorem dX9_goDay_95 : decode cX9_goDay 95 = .ok (.aload_n 0, 1) := by decide +kernel
theorem dX9_goDay_96 : decode cX9_goDay 96 = .ok (.getfield 111, 3) := by decide +kernel
theorem dX9_goDay_99 : decode cX9_goDay 99 = .ok (.aload_n 1, 1) := by decide +kernel
theorem dX9_goDay_100 : decode cX9_goDay 100 = .ok (.iconst 0, 1) := by decide +kernel
theorem dX9_goDay_101 : decode cX9_goDay 101 = .ok (.iaload, 1) := by decide +kernel
theorem dX9_goDay_102 : decode cX9_goDay 102 = .ok (.isub, 1) := by decide +kernel
theorem dX9_goDay_103 : decode cX9_goDay 103 = .ok (.goto 5, 3) := by decide +kernel
theorem dX9_goDay_106 : decode cX9_goDay 106 = .ok (.iload 5, 2) := by decide +kernel
theorem dX9_goDay_108 : decode cX9_goDay 108 = .ok (.istore 5, 2) := by decide +kernel
theorem dX9_goDay_110 : decode cX9_goDay 110 = .ok (.aload_n 1, 1) := by decide +kernel
theorem dX9_goDay_111 : decode cX9_goDay 111 = .ok (.iconst 0, 1) := by decide +kernel
theorem dX9_goDay_112 : decode cX9_goDay 112 = .ok (.dup2, 1) := by decide +kernel
theorem dX9_goDay_113 : decode cX9_goDay 113 = .ok (.iaload, 1) := by decide +kernel
theorem dX9_goDay_114 : decode cX9_goDay 114 = .ok (.iload 5, 2) := by decide +kernel
theorem dX9_goDay_116 : decode cX9_goDay 116 = .ok (.iadd, 1) := by decide +kernel
theorem dX9_goDay_117 : decode cX9_goDay 117 = .ok (.iastore, 1) := by decide +kernel
theorem dX9_goDay_118 : decode cX9_goDay 118 = .ok (.iload 7, 2) := by decide +kernel
theorem dX9_goDay_120 : decode cX9_goDay 120 = .ok (.iconst 3, 1) := by decide +kernel
theorem dX9_goDay_121 : decode cX9_goDay 121 = .ok (.if_icmp .ne 8, 3) := by decide +kernel
theorem dX9_goDay_124 : decode cX9_goDay 124 = .ok (.aload_n 1, 1) := by decide +kernel
theorem dX9_goDay_125 : decode cX9_goDay 125 = .ok (.iload_n 3, 1) := by decide +kernel
theorem dX9_goDay_126 : decode cX9_goDay 126 = .ok (.invokestatic 139, 3) := by decide +kernel
theorem dX9_goDay_129 : decode cX9_goDay 129 = .ok (.aload_n 1, 1) := by decide +kernel
theorem dX9_goDay_130 : decode cX9_goDay 130 = .ok (.iconst 1, 1) := by decide +kernel
theorem dX9_goDay_131 : decode cX9_goDay 131 = .ok (.iaload, 1) := by decide +kernel
theorem dX9_goDay_132 : decode cX9_goDay 132 = .ok (.iconst 3, 1) := by decide +kernel
theorem dX9_goDay_133 : decode cX9_goDay 133 = .ok (.irem, 1) := by decide +kernel
theorem dX9_goDay_134 : decode cX9_goDay 134 = .ok (.iconst 2, 1) := by decide +kernel
theorem dX9_goDay_135 : decode cX9_goDay 135 = .ok (.if_icmp .ne 8, 3) := by decide +kernel
theorem dX9_goDay_138 : decode cX9_goDay 138 = .ok (.aload_n 0, 1) := by decide +kernel
theorem dX9_goDay_139 : decode cX9_goDay 139 = .ok (.aload_n 1, 1) := by decide +kernel
theorem dX9_goDay_140 : decode cX9_goDay 140 = .ok (.invokevirtual 143, 3) := by decide +kernel
theorem dX9_goDay_143 : decode cX9_goDay 143 = .ok (.aload_n 1, 1) := by decide +kernel
theorem dX9_goDay_144 : decode cX9_goDay 144 = .ok (.iconst 1, 1) := by decide +kernel
theorem dX9_goDay_145 : decode cX9_goDay 145 = .ok (.dup2, 1) := by decide +kernel
theorem dX9_goDay_146 : decode cX9_goDay 146 = .ok (.iaload, 1) := by decide +kernel
theorem dX9_goDay_147 : decode cX9_goDay 147 = .ok (.iconst 1, 1) := by decide +kernel
theorem dX9_goDay_148 : decode cX9_goDay 148 = .ok (.iadd, 1) := by decide +kernel
theorem dX9_goDay_149 : decode cX9_goDay 149 = .ok (.iastore, 1) := by decide +kernel
theorem dX9_goDay_150 : decode cX9_goDay 150 = .ok (.iload 5, 2) := by decide +kernel
theorem dX9_goDay_152 : decode cX9_goDay 152 = .ok (.ireturn, 1) := by decide +kernel
theorem dX9_allThorns_0 : decode cX9_allThorns 0 = .ok (.aload_n 0, 1) := by decide +kernel
theorem dX9_allThorns_1 : decode cX9_allThorns 1 = .ok (.iconst 2, 1) := by decide +kernel
theorem dX9_allThorns_2 : decode cX9_allThorns 2 = .ok (.iaload, 1) := by decide +kernel
theorem dX9_allThorns_3 : decode cX9_allThorns 3 = .ok (.aload_n 0, 1) := by decide +kernel
theorem dX9_allThorns_4 : decode cX9_allThorns 4 = .ok (.iconst 3, 1) := by decide +kernel
theorem dX9_allThorns_5 : decode cX9_allThorns 5 = .ok (.iaload, 1) := by decide +kernel
theorem dX9_allThorns_6 : decode cX9_allThorns 6 = .ok (.iadd, 1) := by decide +kernel
theorem dX9_allThorns_7 : decode cX9_allThorns 7 = .ok (.aload_n 0, 1) := by decide +kernel
theorem dX9_allThorns_8 : decode cX9_allThorns 8 = .ok (.iconst 4, 1) := by decide +kernel
theorem dX9_allThorns_9 : decode cX9_allThorns 9 = .ok (.iaload, 1) := by decide +kernel
theorem dX9_allThorns_10 : decode cX9_allThorns 10 = .ok (.iadd, 1) := by decide +kernel
theorem dX9_allThorns_11 : decode cX9_allThorns 11 = .ok (.aload_n 0, 1) := by decide +kernel
theorem dX9_allThorns_12 : decode cX9_allThorns 12 = .ok (.iconst 5, 1) := by decide +kernel
theorem dX9_allThorns_13 : decode cX9_allThorns 13 = .ok (.iaload, 1) := by decide +kernel
theorem dX9_allThorns_14 : decode cX9_allThorns 14 = .ok (.iadd, 1) := by decide +kernel
theorem dX9_allThorns_15 : decode cX9_allThorns 15 = .ok (.aload_n 0, 1) := by decide +kernel
theorem dX9_allThorns_16 : decode cX9_allThorns 16 = .ok (.bipush 6, 2) := by decide +kernel
theorem dX9_allThorns_18 : decode cX9_allThorns 18 = .ok (.iaload, 1) := by decide +kernel
theorem dX9_allThorns_19 : decode cX9_allThorns 19 = .ok (.iadd, 1) := by decide +kernel
theorem dX9_allThorns_20 : decode cX9_allThorns 20 = .ok (.ireturn, 1) := by decide +kernel
theorem dX9_goHalt_0 : decode cX9_goHalt 0 = .ok (.aload_n 0, 1) := by decide +kernel
theorem dX9_goHalt_1 : decode cX9_goHalt 1 = .ok (.aload_n 1, 1) := by decide +kernel
theorem dX9_goHalt_2 : decode cX9_goHalt 2 = .ok (.invokevirtual 143, 3) := by decide +kernel
theorem dX9_goHalt_5 : decode cX9_goHalt 5 = .ok (.aload_n 1, 1) := by decide +kernel
theorem dX9_goHalt_6 : decode cX9_goHalt 6 = .ok (.iconst 1, 1) := by decide +kernel
theorem dX9_goHalt_7 : decode cX9_goHalt 7 = .ok (.dup2, 1) := by decide +kernel
theorem dX9_goHalt_8 : decode cX9_goHalt 8 = .ok (.iaload, 1) := by decide +kernel
theorem dX9_goHalt_9 : decode cX9_goHalt 9 = .ok (.iconst 1, 1) := by decide +kernel
theorem dX9_goHalt_10 : decode cX9_goHalt 10 = .ok (.iadd, 1) := by decide +kernel
theorem dX9_goHalt_11 : decode cX9_goHalt 11 = .ok (.iastore, 1) := by decide +kernel
theorem dX9_goHalt_12 : decode cX9_goHalt 12 = .ok (.aload_n 1, 1) := by decide +kernel
theorem dX9_goHalt_13 : decode cX9_goHalt 13 = .ok (.invokestatic 147, 3) := by decide +kernel
theorem dX9_goHalt_16 : decode cX9_goHalt 16 = .ok (.ireturn, 1) := by decide +kernel
theorem dX9_about_0 : decode cX9_about 0 = .ok (.aload_n 0, 1) := by decide +kernel
theorem dX9_about_1 : decode cX9_about 1 = .ok (.iconst 0, 1) := by decide +kernel
theorem dX9_about_2 : decode cX9_about 2 = .ok (.putfield 65, 3) := by decide +kernel
theorem dX9_about_5 : decode cX9_about 5 = .ok (.aload_n 0, 1) := by decide +kernel
theorem dX9_about_6 : decode cX9_about 6 = .ok (.aload_n 0, 1) := by decide +kernel
theorem dX9_about_7 : decode cX9_about 7 = .ok (.getfield 31, 3) := by decide +kernel
theorem dX9_about_10 : decode cX9_about 10 = .ok (.bipush 31, 2) := by decide +kernel
theorem dX9_about_12 : decode cX9_about 12 = .ok (.invokevirtual 133, 3) := by decide +kernel
theorem dX9_about_15 : decode cX9_about 15 = .ok (.istore_n 2, 1) := by decide +kernel
theorem dX9_about_16 : decode cX9_about 16 = .ok (.iload_n 1, 1) := by decide +kernel
theorem dX9_about_17 : decode cX9_about 17 = .ok (.tableswitch 148 0 11 #[63, 68, 73, 78, 85, 92, 94, 114, 125, 133, 138, 143], 63) := by decide +kernel
theorem dX9_about_80 : decode cX9_about 80 = .ok (.aload_n 0, 1) := by decide +kernel
theorem dX9_about_81 : decode cX9_about 81 = .ok (.getfield 108, 3) := by decide +kernel
theorem dX9_about_84 : decode cX9_about 84 = .ok (.ireturn, 1) := by decide +kernel
theorem dX9_about_85 : decode cX9_about 85 = .ok (.aload_n 0, 1) := by decide +kernel
theorem dX9_about_86 : decode cX9_about 86 = .ok (.getfield 69, 3) := by decide +kernel
theorem dX9_about_89 : decode cX9_about 89 = .ok (.ireturn, 1) := by decide +kernel
theorem dX9_about_90 : decode cX9_about 90 = .ok (.aload_n 0, 1) := by decide +kernel
theorem dX9_about_91 : decode cX9_about 91 = .ok (.getfield 111, 3) := by decide +kernel
theorem dX9_about_94 : decode cX9_about 94 = .ok (.ireturn, 1) := by decide +kernel
theorem dX9_about_95 : decode cX9_about 95 = .ok (.aload_n 0, 1) := by decide +kernel
theorem dX9_about_96 : decode cX9_about 96 = .ok (.getfield 31, 3) := by decide +kernel
theorem dX9_about_99 : decode cX9_about 99 = .ok (.iconst 0, 1) := by decide +kernel
theorem dX9_about_100 : decode cX9_about 100 = .ok (.iaload, 1) := by decide +kernel
theorem dX9_about_101 : decode cX9_about 101 = .ok (.ireturn, 1) := by decide +kernel
theorem dX9_about_102 : decode cX9_about 102 = .ok (.aload_n 0, 1) := by decide +kernel
theorem dX9_about_103 : decode cX9_about 103 = .ok (.getfield 31, 3) := by decide +kernel
theorem dX9_about_106 : decode cX9_about 106 = .ok (.iconst 1, 1) := by decide +kernel
theorem dX9_about_107 : decode cX9_about 107 = .ok (.iaload, 1) := by decide +kernel
theorem dX9_about_108 : decode cX9_about 108 = .ok (.ireturn, 1) := by decide +kernel
theorem dX9_about_109 : decode cX9_about 109 = .ok (.iload_n 2, 1) := by decide +kernel
theorem dX9_about_110 : decode cX9_about 110 = .ok (.ireturn, 1) := by decide +kernel
theorem dX9_about_111 : decode cX9_about 111 = .ok (.iload_n 2, 1) := by decide +kernel
theorem dX9_about_112 : decode cX9_about 112 = .ok (.bipush (-9), 2) := by decide +kernel
theorem dX9_about_114 : decode cX9_about 114 = .ok (.if_icmp .ne 7, 3) := by decide +kernel
theorem dX9_about_117 : decode cX9_about 117 = .ok (.iconst 0, 1) := by decide +kernel
theorem dX9_about_118 : decode cX9_about 118 = .ok (.goto 12, 3) := by decide +kernel
theorem dX9_about_121 : decode cX9_about 121 = .ok (.aload_n 0, 1) := by decide +kernel
theorem dX9_about_122 : decode cX9_about 122 = .ok (.aload_n 0, 1) := by decide +kernel
theorem dX9_about_123 : decode cX9_about 123 = .ok (.getfield 31, 3) := by decide +kernel
theorem dX9_about_126 : decode cX9_about 126 = .ok (.iload_n 2, 1) := by decide +kernel
theorem dX9_about_127 : decode cX9_about 127 = .ok (.invokevirtual 125, 3) := by decide +kernel
theorem dX9_about_130 : decode cX9_about 130 = .ok (.ireturn, 1) := by decide +kernel
theorem dX9_about_131 : decode cX9_about 131 = .ok (.aload_n 0, 1) := by decide +kernel
theorem dX9_about_132 : decode cX9_about 132 = .ok (.aload_n 0, 1) := by decide +kernel
theorem dX9_about_133 : decode cX9_about 133 = .ok (.getfield 31, 3) := by decide +kernel
theorem dX9_about_136 : decode cX9_about 136 = .ok (.iconst 0, 1) := by decide +kernel
theorem dX9_about_137 : decode cX9_about 137 = .ok (.iaload, 1) := by decide +kernel
theorem dX9_about_138 : decode cX9_about 138 = .ok (.invokevirtual 136, 3) := by decide +kernel
theorem dX9_about_141 : decode cX9_about 141 = .ok (.ireturn, 1) := by decide +kernel
theorem dX9_about_142 : decode cX9_about 142 = .ok (.aload_n 0, 1) := by decide +kernel
theorem dX9_about_143 : decode cX9_about 143 = .ok (.getfield 31, 3) := by decide +kernel
theorem dX9_about_146 : decode cX9_about 146 = .ok (.invokestatic 147, 3) := by decide +kernel
theorem dX9_about_149 : decode cX9_about 149 = .ok (.ireturn, 1) := by decide +kernel
theorem dX9_about_150 : decode cX9_about 150 = .ok (.aload_n 0, 1) := by decide +kernel
theorem dX9_about_151 : decode cX9_about 151 = .ok (.getfield 114, 3) := by decide +kernel
theorem dX9_about_154 : decode cX9_about 154 = .ok (.ireturn, 1) := by decide +kernel
theorem dX9_about_155 : decode cX9_about 155 = .ok (.aload_n 0, 1) := by decide +kernel
theorem dX9_about_156 : decode cX9_about 156 = .ok (.getfield 151, 3) := by decide +kernel
theorem dX9_about_159 : decode cX9_about 159 = .ok (.ireturn, 1) := by decide +kernel
theorem dX9_about_160 : decode cX9_about 160 = .ok (.aload_n 0, 1) := by decide +kernel
theorem dX9_about_161 : decode cX9_about 161 = .ok (.getfield 78, 3) := by decide +kernel
theorem dX9_about_164 : decode cX9_about 164 = .ok (.ireturn, 1) := by decide +kernel
theorem dX9_about_165 : decode cX9_about 165 = .ok (.bipush (-2), 2) := by decide +kernel
theorem dX9_about_167 : decode cX9_about 167 = .ok (.ireturn, 1) := by decide +kernel
theorem dX9_man_0 : decode cX9_man 0 = .ok (.aload_n 0, 1) := by decide +kernel
theorem dX9_man_1 : decode cX9_man 1 = .ok (.iconst 0, 1) := by decide +kernel
theorem dX9_man_2 : decode cX9_man 2 = .ok (.putfield 65, 3) := by decide +kernel
theorem dX9_man_5 : decode cX9_man 5 = .ok (.aload_n 0, 1) := by decide +kernel
theorem dX9_man_6 : decode cX9_man 6 = .ok (.iload_n 1, 1) := by decide +kernel
theorem dX9_man_7 : decode cX9_man 7 = .ok (.invokevirtual 154, 3) := by decide +kernel
theorem dX9_man_10 : decode cX9_man 10 = .ok (.ifCond .eq 5, 3) := by decide +kernel
theorem dX9_man_13 : decode cX9_man 13 = .ok (.iconst (-1), 1) := by decide +kernel
theorem dX9_man_14 : decode cX9_man 14 = .ok (.ireturn, 1) := by decide +kernel
theorem dX9_man_15 : decode cX9_man 15 = .ok (.iload_n 2, 1) := by decide +kernel
theorem dX9_man_16 : decode cX9_man 16 = .ok (.tableswitch 65 0 3 #[32, 39, 46, 55], 32) := by decide +kernel
theorem dX9_man_48 : decode cX9_man 48 = .ok (.aload_n 0, 1) := by decide +kernel
theorem dX9_man_49 : decode cX9_man 49 = .ok (.getfield 19, 3) := by decide +kernel
theorem dX9_man_52 : decode cX9_man 52 = .ok (.iload_n 1, 1) := by decide +kernel
theorem dX9_man_53 : decode cX9_man 53 = .ok (.iaload, 1) := by decide +kernel
theorem dX9_man_54 : decode cX9_man 54 = .ok (.ireturn, 1) := by decide +kernel
theorem dX9_man_55 : decode cX9_man 55 = .ok (.aload_n 0, 1) := by decide +kernel
theorem dX9_man_56 : decode cX9_man 56 = .ok (.getfield 22, 3) := by decide +kernel
theorem dX9_man_59 : decode cX9_man 59 = .ok (.iload_n 1, 1) := by decide +kernel
theorem dX9_man_60 : decode cX9_man 60 = .ok (.iaload, 1) := by decide +kernel
theorem dX9_man_61 : decode cX9_man 61 = .ok (.ireturn, 1) := by decide +kernel
theorem dX9_man_62 : decode cX9_man 62 = .ok (.aload_n 0, 1) := by decide +kernel
theorem dX9_man_63 : decode cX9_man 63 = .ok (.getfield 31, 3) := by decide +kernel
theorem dX9_man_66 : decode cX9_man 66 = .ok (.iconst 2, 1) := by decide +kernel
theorem dX9_man_67 : decode cX9_man 67 = .ok (.iload_n 1, 1) := by decide +kernel
theorem dX9_man_68 : decode cX9_man 68 = .ok (.iadd, 1) := by decide +kernel
theorem dX9_man_69 : decode cX9_man 69 = .ok (.iaload, 1) := by decide +kernel
theorem dX9_man_70 : decode cX9_man 70 = .ok (.ireturn, 1) := by decide +kernel
theorem dX9_man_71 : decode cX9_man 71 = .ok (.aload_n 0, 1) := by decide +kernel
theorem dX9_man_72 : decode cX9_man 72 = .ok (.aload_n 0, 1) := by decide +kernel
theorem dX9_man_73 : decode cX9_man 73 = .ok (.getfield 31, 3) := by decide +kernel
theorem dX9_man_76 : decode cX9_man 76 = .ok (.iload_n 1, 1) := by decide +kernel
theorem dX9_man_77 : decode cX9_man 77 = .ok (.invokevirtual 125, 3) := by decide +kernel
theorem dX9_man_80 : decode cX9_man 80 = .ok (.ireturn, 1) := by decide +kernel
theorem dX9_man_81 : decode cX9_man 81 = .ok (.bipush (-2), 2) := by decide +kernel
theorem dX9_man_83 : decode cX9_man 83 = .ok (.ireturn, 1) := by decide +kernel
theorem dX9_stretch_0 : decode cX9_stretch 0 = .ok (.aload_n 0, 1) := by decide +kernel
theorem dX9_stretch_1 : decode cX9_stretch 1 = .ok (.iconst 0, 1) := by decide +kernel
theorem dX9_stretch_2 : decode cX9_stretch 2 = .ok (.putfield 65, 3) := by decide +kernel
theorem dX9_stretch_5 : decode cX9_stretch 5 = .ok (.iload_n 1, 1) := by decide +kernel
theorem dX9_stretch_6 : decode cX9_stretch 6 = .ok (.i2l, 1) := by decide +kernel
theorem dX9_stretch_7 : decode cX9_stretch 7 = .ok (.lconst 0, 1) := by decide +kernel
theorem dX9_stretch_8 : decode cX9_stretch 8 = .ok (.aload_n 0, 1) := by decide +kernel
theorem dX9_stretch_9 : decode cX9_stretch 9 = .ok (.getfield 108, 3) := by decide +kernel
theorem dX9_stretch_12 : decode cX9_stretch 12 = .ok (.iconst 1, 1) := by decide +kernel
theorem dX9_stretch_13 : decode cX9_stretch 13 = .ok (.isub, 1) := by decide +kernel
theorem dX9_stretch_14 : decode cX9_stretch 14 = .ok (.i2l, 1) := by decide +kernel
theorem dX9_stretch_15 : decode cX9_stretch 15 = .ok (.invokestatic 72, 3) := by decide +kernel
theorem dX9_stretch_18 : decode cX9_stretch 18 = .ok (.ifCond .ne 5, 3) := by decide +kernel
theorem dX9_stretch_21 : decode cX9_stretch 21 = .ok (.iconst (-1), 1) := by decide +kernel
theorem dX9_stretch_22 : decode cX9_stretch 22 = .ok (.ireturn, 1) := by decide +kernel
theorem dX9_stretch_23 : decode cX9_stretch 23 = .ok (.iload_n 2, 1) := by decide +kernel
theorem dX9_stretch_24 : decode cX9_stretch 24 = .ok (.tableswitch 48 0 2 #[28, 35, 42], 28) := by decide +kernel
theorem dX9_stretch_52 : decode cX9_stretch 52 = .ok (.aload_n 0, 1) := by decide +kernel
theorem dX9_stretch_53 : decode cX9_stretch 53 = .ok (.getfield 13, 3) := by decide +kernel
theorem dX9_stretch_56 : decode cX9_stretch 56 = .ok (.iload_n 1, 1) := by decide +kernel
theorem dX9_stretch_57 : decode cX9_stretch 57 = .ok (.iaload, 1) := by decide +kernel
theorem dX9_stretch_58 : decode cX9_stretch 58 = .ok (.ireturn, 1) := by decide +kernel
theorem dX9_stretch_59 : decode cX9_stretch 59 = .ok (.aload_n 0, 1) := by decide +kernel
theorem dX9_stretch_60 : decode cX9_stretch 60 = .ok (.getfield 16, 3) := by decide +kernel
theorem dX9_stretch_63 : decode cX9_stretch 63 = .ok (.iload_n 1, 1) := by decide +kernel
theorem dX9_stretch_64 : decode cX9_stretch 64 = .ok (.iaload, 1) := by decide +kernel
theorem dX9_stretch_65 : decode cX9_stretch 65 = .ok (.ireturn, 1) := by decide +kernel
theorem dX9_stretch_66 : decode cX9_stretch 66 = .ok (.aload_n 0, 1) := by decide +kernel
theorem dX9_stretch_67 : decode cX9_stretch 67 = .ok (.iload_n 1, 1) := by decide +kernel
theorem dX9_stretch_68 : decode cX9_stretch 68 = .ok (.invokevirtual 129, 3) := by decide +kernel
theorem dX9_stretch_71 : decode cX9_stretch 71 = .ok (.ireturn, 1) := by decide +kernel
theorem dX9_stretch_72 : decode cX9_stretch 72 = .ok (.bipush (-2), 2) := by decide +kernel
theorem dX9_stretch_74 : decode cX9_stretch 74 = .ok (.ireturn, 1) := by decide +kernel
theorem dX9_note_0 : decode cX9_note 0 = .ok (.aload_n 0, 1) := by decide +kernel
theorem dX9_note_1 : decode cX9_note 1 = .ok (.getfield 114, 3) := by decide +kernel
theorem dX9_note_4 : decode cX9_note 4 = .ok (.bipush 14, 2) := by decide +kernel
theorem dX9_note_6 : decode cX9_note 6 = .ok (.if_icmp .ne 42, 3) := by decide +kernel
theorem dX9_note_9 : decode cX9_note 9 = .ok (.iconst 0, 1) := by decide +kernel
theorem dX9_note_10 : decode cX9_note 10 = .ok (.istore_n 1, 1) := by decide +kernel
theorem dX9_note_11 : decode cX9_note 11 = .ok (.iload_n 1, 1) := by decide +kernel
theorem dX9_note_12 : decode cX9_note 12 = .ok (.bipush 91, 2) := by decide +kernel
theorem dX9_note_14 : decode cX9_note 14 = .ok (.if_icmp .ge 24, 3) := by decide +kernel
theorem dX9_note_17 : decode cX9_note 17 = .ok (.aload_n 0, 1) := by decide +kernel
theorem dX9_note_18 : decode cX9_note 18 = .ok (.getfield 40, 3) := by decide +kernel
theorem dX9_note_21 : decode cX9_note 21 = .ok (.iload_n 1, 1) := by decide +kernel
theorem dX9_note_22 : decode cX9_note 22 = .ok (.aload_n 0, 1) := by decide +kernel
theorem dX9_note_23 : decode cX9_note 23 = .ok (.getfield 40, 3) := by decide +kernel
theorem dX9_note_26 : decode cX9_note 26 = .ok (.iload_n 1, 1) := by decide +kernel
theorem dX9_note_27 : decode cX9_note 27 = .ok (.bipush 7, 2) := by decide +kernel
theorem dX9_note_29 : decode cX9_note 29 = .ok (.iadd, 1) := by decide +kernel
theorem dX9_note_30 : decode cX9_note 30 = .ok (.iaload, 1) := by decide +kernel
theorem dX9_note_31 : decode cX9_note 31 = .ok (.iastore, 1) := by decide +kernel
theorem dX9_note_32 : decode cX9_note 32 = .ok (.iinc 1 1, 3) := by decide +kernel
theorem dX9_note_35 : decode cX9_note 35 = .ok (.goto (-24), 3) := by decide +kernel
theorem dX9_note_38 : decode cX9_note 38 = .ok (.aload_n 0, 1) := by decide +kernel
theorem dX9_note_39 : decode cX9_note 39 = .ok (.dup, 1) := by decide +kernel
theorem dX9_note_40 : decode cX9_note 40 = .ok (.getfield 114, 3) := by decide +kernel
theorem dX9_note_43 : decode cX9_note 43 = .ok (.iconst 1, 1) := by decide +kernel
theorem dX9_note_44 : decode cX9_note 44 = .ok (.isub, 1) := by decide +kernel
theorem dX9_note_45 : decode cX9_note 45 = .ok (.putfield 114, 3) := by decide +kernel
theorem dX9_note_48 : decode cX9_note 48 = .ok (.iconst 0, 1) := by decide +kernel
theorem dX9_note_49 : decode cX9_note 49 = .ok (.istore_n 1, 1) := by decide +kernel
theorem dX9_note_50 : decode cX9_note 50 = .ok (.iload_n 1, 1) := by decide +kernel
theorem dX9_note_51 : decode cX9_note 51 = .ok (.bipush 7, 2) := by decide +kernel
theorem dX9_note_53 : decode cX9_note 53 = .ok (.if_icmp .ge 29, 3) := by decide +kernel
theorem dX9_note_56 : decode cX9_note 56 = .ok (.aload_n 0, 1) := by decide +kernel
theorem dX9_note_57 : decode cX9_note 57 = .ok (.getfield 40, 3) := by decide +kernel
theorem dX9_note_60 : decode cX9_note 60 = .ok (.bipush 7, 2) := by decide +kernel
theorem dX9_note_62 : decode cX9_note 62 = .ok (.aload_n 0, 1) := by decide +kernel
theorem dX9_note_63 : decode cX9_note 63 = .ok (.getfield 114, 3) := by decide +kernel
theorem dX9_note_66 : decode cX9_note 66 = .ok (.imul, 1) := by decide +kernel
theorem dX9_note_67 : decode cX9_note 67 = .ok (.iload_n 1, 1) := by decide +kernel
theorem dX9_note_68 : decode cX9_note 68 = .ok (.iadd, 1) := by decide +kernel
theorem dX9_note_69 : decode cX9_note 69 = .ok (.aload_n 0, 1) := by decide +kernel
theorem dX9_note_70 : decode cX9_note 70 = .ok (.getfield 31, 3) := by decide +kernel
theorem dX9_note_73 : decode cX9_note 73 = .ok (.iload_n 1, 1) := by decide +kernel
theorem dX9_note_74 : decode cX9_note 74 = .ok (.iaload, 1) := by decide +kernel
theorem dX9_note_75 : decode cX9_note 75 = .ok (.iastore, 1) := by decide +kernel
theorem dX9_note_76 : decode cX9_note 76 = .ok (.iinc 1 1, 3) := by decide +kernel
theorem dX9_note_79 : decode cX9_note 79 = .ok (.goto (-29), 3) := by decide +kernel
theorem dX9_note_82 : decode cX9_note 82 = .ok (.aload_n 0, 1) := by decide +kernel
theorem dX9_note_83 : decode cX9_note 83 = .ok (.dup, 1) := by decide +kernel
theorem dX9_note_84 : decode cX9_note 84 = .ok (.getfield 114, 3) := by decide +kernel
theorem dX9_note_87 : decode cX9_note 87 = .ok (.iconst 1, 1) := by decide +kernel
theorem dX9_note_88 : decode cX9_note 88 = .ok (.iadd, 1) := by decide +kernel
theorem dX9_note_89 : decode cX9_note 89 = .ok (.putfield 114, 3) := by decide +kernel
theorem dX9_note_92 : decode cX9_note 92 = .ok (.return_, 1) := by decide +kernel
theorem dX9_day_0 : decode cX9_day 0 = .ok (.aload_n 0, 1) := by decide +kernel
theorem dX9_day_1 : decode cX9_day 1 = .ok (.iconst 0, 1) := by decide +kernel
theorem dX9_day_2 : decode cX9_day 2 = .ok (.putfield 65, 3) := by decide +kernel
theorem dX9_day_5 : decode cX9_day 5 = .ok (.aload_n 0, 1) := by decide +kernel
theorem dX9_day_6 : decode cX9_day 6 = .ok (.invokevirtual 158, 3) := by decide +kernel
theorem dX9_day_9 : decode cX9_day 9 = .ok (.aload_n 0, 1) := by decide +kernel
theorem dX9_day_10 : decode cX9_day 10 = .ok (.aload_n 0, 1) := by decide +kernel
theorem dX9_day_11 : decode cX9_day 11 = .ok (.getfield 31, 3) := by decide +kernel
theorem dX9_day_14 : decode cX9_day 14 = .ok (.bipush 31, 2) := by decide +kernel
theorem dX9_day_16 : decode cX9_day 16 = .ok (.invokevirtual 161, 3) := by decide +kernel
theorem dX9_day_19 : decode cX9_day 19 = .ok (.ireturn, 1) := by decide +kernel
theorem dX9_halt_0 : decode cX9_halt 0 = .ok (.aload_n 0, 1) := by decide +kernel
theorem dX9_halt_1 : decode cX9_halt 1 = .ok (.iconst 0, 1) := by decide +kernel
theorem dX9_halt_2 : decode cX9_halt 2 = .ok (.putfield 65, 3) := by decide +kernel
theorem dX9_halt_5 : decode cX9_halt 5 = .ok (.aload_n 0, 1) := by decide +kernel
theorem dX9_halt_6 : decode cX9_halt 6 = .ok (.invokevirtual 158, 3) := by decide +kernel
theorem dX9_halt_9 : decode cX9_halt 9 = .ok (.aload_n 0, 1) := by decide +kernel
theorem dX9_halt_10 : decode cX9_halt 10 = .ok (.aload_n 0, 1) := by decide +kernel
theorem dX9_halt_11 : decode cX9_halt 11 = .ok (.getfield 31, 3) := by decide +kernel
theorem dX9_halt_14 : decode cX9_halt 14 = .ok (.invokevirtual 164, 3) := by decide +kernel
theorem dX9_halt_17 : decode cX9_halt 17 = .ok (.ireturn, 1) := by decide +kernel
theorem dX9_gravel_0 : decode cX9_gravel 0 = .ok (.aload_n 0, 1) := by decide +kernel
theorem dX9_gravel_1 : decode cX9_gravel 1 = .ok (.iconst 0, 1) := by decide +kernel
theorem dX9_gravel_2 : decode cX9_gravel 2 = .ok (.putfield 65, 3) := by decide +kernel
theorem dX9_gravel_5 : decode cX9_gravel 5 = .ok (.aload_n 0, 1) := by decide +kernel
theorem dX9_gravel_6 : decode cX9_gravel 6 = .ok (.iload_n 1, 1) := by decide +kernel
theorem dX9_gravel_7 : decode cX9_gravel 7 = .ok (.invokevirtual 154, 3) := by decide +kernel
theorem dX9_gravel_10 : decode cX9_gravel 10 = .ok (.ifCond .eq 5, 3) := by decide +kernel
theorem dX9_gravel_13 : decode cX9_gravel 13 = .ok (.iconst (-1), 1) := by decide +kernel
theorem dX9_gravel_14 : decode cX9_gravel 14 = .ok (.ireturn, 1) := by decide +kernel
theorem dX9_gravel_15 : decode cX9_gravel 15 = .ok (.aload_n 0, 1) := by decide +kernel
theorem dX9_gravel_16 : decode cX9_gravel 16 = .ok (.getfield 31, 3) := by decide +kernel
theorem dX9_gravel_19 : decode cX9_gravel 19 = .ok (.iconst 2, 1) := by decide +kernel
theorem dX9_gravel_20 : decode cX9_gravel 20 = .ok (.iload_n 1, 1) := by decide +kernel
theorem dX9_gravel_21 : decode cX9_gravel 21 = .ok (.iadd, 1) := by decide +kernel
theorem dX9_gravel_22 : decode cX9_gravel 22 = .ok (.iaload, 1) := by decide +kernel
theorem dX9_gravel_23 : decode cX9_gravel 23 = .ok (.bipush 9, 2) := by decide +kernel
theorem dX9_gravel_25 : decode cX9_gravel 25 = .ok (.if_icmp .ne 6, 3) := by decide +kernel
theorem dX9_gravel_28 : decode cX9_gravel 28 = .ok (.bipush (-4), 2) := by decide +kernel
theorem dX9_gravel_30 : decode cX9_gravel 30 = .ok (.ireturn, 1) := by decide +kernel
theorem dX9_gravel_31 : decode cX9_gravel 31 = .ok (.aload_n 0, 1) := by decide +kernel
theorem dX9_gravel_32 : decode cX9_gravel 32 = .ok (.invokevirtual 158, 3) := by decide +kernel
theorem dX9_gravel_35 : decode cX9_gravel 35 = .ok (.aload_n 0, 1) := by decide +kernel
theorem dX9_gravel_36 : decode cX9_gravel 36 = .ok (.getfield 31, 3) := by decide +kernel
theorem dX9_gravel_39 : decode cX9_gravel 39 = .ok (.iload_n 1, 1) := by decide +kernel
theorem dX9_gravel_40 : decode cX9_gravel 40 = .ok (.invokestatic 139, 3) := by decide +kernel
theorem dX9_gravel_43 : decode cX9_gravel 43 = .ok (.aload_n 0, 1) := by decide +kernel
theorem dX9_gravel_44 : decode cX9_gravel 44 = .ok (.getfield 31, 3) := by decide +kernel
theorem dX9_gravel_47 : decode cX9_gravel 47 = .ok (.iconst 2, 1) := by decide +kernel
theorem dX9_gravel_48 : decode cX9_gravel 48 = .ok (.iload_n 1, 1) := by decide +kernel
theorem dX9_gravel_49 : decode cX9_gravel 49 = .ok (.iadd, 1) := by decide +kernel
theorem dX9_gravel_50 : decode cX9_gravel 50 = .ok (.iaload, 1) := by decide +kernel
theorem dX9_gravel_51 : decode cX9_gravel 51 = .ok (.ireturn, 1) := by decide +kernel
theorem dX9_pull_0 : decode cX9_pull 0 = .ok (.aload_n 0, 1) := by decide +kernel
theorem dX9_pull_1 : decode cX9_pull 1 = .ok (.iconst 0, 1) := by decide +kernel
theorem dX9_pull_2 : decode cX9_pull 2 = .ok (.putfield 65, 3) := by decide +kernel
theorem dX9_pull_5 : decode cX9_pull 5 = .ok (.aload_n 0, 1) := by decide +kernel
theorem dX9_pull_6 : decode cX9_pull 6 = .ok (.iload_n 1, 1) := by decide +kernel
theorem dX9_pull_7 : decode cX9_pull 7 = .ok (.invokevirtual 154, 3) := by decide +kernel
theorem dX9_pull_10 : decode cX9_pull 10 = .ok (.ifCond .eq 5, 3) := by decide +kernel
theorem dX9_pull_13 : decode cX9_pull 13 = .ok (.iconst (-1), 1) := by decide +kernel
theorem dX9_pull_14 : decode cX9_pull 14 = .ok (.ireturn, 1) := by decide +kernel
theorem dX9_pull_15 : decode cX9_pull 15 = .ok (.aload_n 0, 1) := by decide +kernel
theorem dX9_pull_16 : decode cX9_pull 16 = .ok (.getfield 31, 3) := by decide +kernel
theorem dX9_pull_19 : decode cX9_pull 19 = .ok (.iconst 2, 1) := by decide +kernel
theorem dX9_pull_20 : decode cX9_pull 20 = .ok (.iload_n 1, 1) := by decide +kernel
theorem dX9_pull_21 : decode cX9_pull 21 = .ok (.iadd, 1) := by decide +kernel
theorem dX9_pull_22 : decode cX9_pull 22 = .ok (.iaload, 1) := by decide +kernel
theorem dX9_pull_23 : decode cX9_pull 23 = .ok (.ifCond .ne 6, 3) := by decide +kernel
theorem dX9_pull_26 : decode cX9_pull 26 = .ok (.bipush (-3), 2) := by decide +kernel
theorem dX9_pull_28 : decode cX9_pull 28 = .ok (.ireturn, 1) := by decide +kernel
theorem dX9_pull_29 : decode cX9_pull 29 = .ok (.aload_n 0, 1) := by decide +kernel
theorem dX9_pull_30 : decode cX9_pull 30 = .ok (.invokevirtual 158, 3) := by decide +kernel
theorem dX9_pull_33 : decode cX9_pull 33 = .ok (.aload_n 0, 1) := by decide +kernel
theorem dX9_pull_34 : decode cX9_pull 34 = .ok (.getfield 31, 3) := by decide +kernel
theorem dX9_pull_37 : decode cX9_pull 37 = .ok (.iconst 2, 1) := by decide +kernel
theorem dX9_pull_38 : decode cX9_pull 38 = .ok (.iload_n 1, 1) := by decide +kernel
theorem dX9_pull_39 : decode cX9_pull 39 = .ok (.iadd, 1) := by decide +kernel
theorem dX9_pull_40 : decode cX9_pull 40 = .ok (.dup2, 1) := by decide +kernel
theorem dX9_pull_41 : decode cX9_pull 41 = .ok (.iaload, 1) := by decide +kernel
theorem dX9_pull_42 : decode cX9_pull 42 = .ok (.iconst 1, 1) := by decide +kernel
theorem dX9_pull_43 : decode cX9_pull 43 = .ok (.isub, 1) := by decide +kernel
theorem dX9_pull_44 : decode cX9_pull 44 = .ok (.iastore, 1) := by decide +kernel
theorem dX9_pull_45 : decode cX9_pull 45 = .ok (.aload_n 0, 1) := by decide +kernel
theorem dX9_pull_46 : decode cX9_pull 46 = .ok (.getfield 31, 3) := by decide +kernel
theorem dX9_pull_49 : decode cX9_pull 49 = .ok (.iconst 2, 1) := by decide +kernel
theorem dX9_pull_50 : decode cX9_pull 50 = .ok (.iload_n 1, 1) := by decide +kernel
theorem dX9_pull_51 : decode cX9_pull 51 = .ok (.iadd, 1) := by decide +kernel
theorem dX9_pull_52 : decode cX9_pull 52 = .ok (.iaload, 1) := by decide +kernel
theorem dX9_pull_53 : decode cX9_pull 53 = .ok (.ireturn, 1) := by decide +kernel
theorem dX9_undo_0 : decode cX9_undo 0 = .ok (.aload_n 0, 1) := by decide +kernel
theorem dX9_undo_1 : decode cX9_undo 1 = .ok (.iconst 0, 1) := by decide +kernel
theorem dX9_undo_2 : decode cX9_undo 2 = .ok (.putfield 65, 3) := by decide +kernel
theorem dX9_undo_5 : decode cX9_undo 5 = .ok (.aload_n 0, 1) := by decide +kernel
theorem dX9_undo_6 : decode cX9_undo 6 = .ok (.getfield 114, 3) := by decide +kernel
theorem dX9_undo_9 : decode cX9_undo 9 = .ok (.ifCond .ne 6, 3) := by decide +kernel
theorem dX9_undo_12 : decode cX9_undo 12 = .ok (.bipush (-3), 2) := by decide +kernel
theorem dX9_undo_14 : decode cX9_undo 14 = .ok (.ireturn, 1) := by decide +kernel
theorem dX9_undo_15 : decode cX9_undo 15 = .ok (.aload_n 0, 1) := by decide +kernel
theorem dX9_undo_16 : decode cX9_undo 16 = .ok (.dup, 1) := by decide +kernel
theorem dX9_undo_17 : decode cX9_undo 17 = .ok (.getfield 114, 3) := by decide +kernel
theorem dX9_undo_20 : decode cX9_undo 20 = .ok (.iconst 1, 1) := by decide +kernel
theorem dX9_undo_21 : decode cX9_undo 21 = .ok (.isub, 1) := by decide +kernel
theorem dX9_undo_22 : decode cX9_undo 22 = .ok (.putfield 114, 3) := by decide +kernel
theorem dX9_undo_25 : decode cX9_undo 25 = .ok (.iconst 0, 1) := by decide +kernel
theorem dX9_undo_26 : decode cX9_undo 26 = .ok (.istore_n 1, 1) := by decide +kernel
theorem dX9_undo_27 : decode cX9_undo 27 = .ok (.iload_n 1, 1) := by decide +kernel
theorem dX9_undo_28 : decode cX9_undo 28 = .ok (.bipush 7, 2) := by decide +kernel
theorem dX9_undo_30 : decode cX9_undo 30 = .ok (.if_icmp .ge 29, 3) := by decide +kernel
theorem dX9_undo_33 : decode cX9_undo 33 = .ok (.aload_n 0, 1) := by decide +kernel
theorem dX9_undo_34 : decode cX9_undo 34 = .ok (.getfield 31, 3) := by decide +kernel
theorem dX9_undo_37 : decode cX9_undo 37 = .ok (.iload_n 1, 1) := by decide +kernel
theorem dX9_undo_38 : decode cX9_undo 38 = .ok (.aload_n 0, 1) := by decide +kernel
theorem dX9_undo_39 : decode cX9_undo 39 = .ok (.getfield 40, 3) := by decide +kernel
theorem dX9_undo_42 : decode cX9_undo 42 = .ok (.bipush 7, 2) := by decide +kernel
theorem dX9_undo_44 : decode cX9_undo 44 = .ok (.aload_n 0, 1) := by decide +kernel
theorem dX9_undo_45 : decode cX9_undo 45 = .ok (.getfield 114, 3) := by decide +kernel
theorem dX9_undo_48 : decode cX9_undo 48 = .ok (.imul, 1) := by decide +kernel
theorem dX9_undo_49 : decode cX9_undo 49 = .ok (.iload_n 1, 1) := by decide +kernel
theorem dX9_undo_50 : decode cX9_undo 50 = .ok (.iadd, 1) := by decide +kernel
theorem dX9_undo_51 : decode cX9_undo 51 = .ok (.iaload, 1) := by decide +kernel
theorem dX9_undo_52 : decode cX9_undo 52 = .ok (.iastore, 1) := by decide +kernel
theorem dX9_undo_53 : decode cX9_undo 53 = .ok (.iinc 1 1, 3) := by decide +kernel
theorem dX9_undo_56 : decode cX9_undo 56 = .ok (.goto (-29), 3) := by decide +kernel
theorem dX9_undo_59 : decode cX9_undo 59 = .ok (.aload_n 0, 1) := by decide +kernel
theorem dX9_undo_60 : decode cX9_undo 60 = .ok (.getfield 114, 3) := by decide +kernel
theorem dX9_undo_63 : decode cX9_undo 63 = .ok (.ireturn, 1) := by decide +kernel
theorem dX9_begin_0 : decode cX9_begin 0 = .ok (.iconst 0, 1) := by decide +kernel
theorem dX9_begin_1 : decode cX9_begin 1 = .ok (.istore_n 1, 1) := by decide +kernel
theorem dX9_begin_2 : decode cX9_begin 2 = .ok (.iload_n 1, 1) := by decide +kernel
theorem dX9_begin_3 : decode cX9_begin 3 = .ok (.bipush 7, 2) := by decide +kernel
theorem dX9_begin_5 : decode cX9_begin 5 = .ok (.if_icmp .ge 21, 3) := by decide +kernel
theorem dX9_begin_8 : decode cX9_begin 8 = .ok (.aload_n 0, 1) := by decide +kernel
theorem dX9_begin_9 : decode cX9_begin 9 = .ok (.getfield 34, 3) := by decide +kernel
theorem dX9_begin_12 : decode cX9_begin 12 = .ok (.iload_n 1, 1) := by decide +kernel
theorem dX9_begin_13 : decode cX9_begin 13 = .ok (.aload_n 0, 1) := by decide +kernel
theorem dX9_begin_14 : decode cX9_begin 14 = .ok (.getfield 31, 3) := by decide +kernel
theorem dX9_begin_17 : decode cX9_begin 17 = .ok (.iload_n 1, 1) := by decide +kernel
theorem dX9_begin_18 : decode cX9_begin 18 = .ok (.iaload, 1) := by decide +kernel
theorem dX9_begin_19 : decode cX9_begin 19 = .ok (.iastore, 1) := by decide +kernel
theorem dX9_begin_20 : decode cX9_begin 20 = .ok (.iinc 1 1, 3) := by decide +kernel
theorem dX9_begin_23 : decode cX9_begin 23 = .ok (.goto (-21), 3) := by decide +kernel
theorem dX9_begin_26 : decode cX9_begin 26 = .ok (.return_, 1) := by decide +kernel
theorem dX9_goDays_0 : decode cX9_goDays 0 = .ok (.iconst 0, 1) := by decide +kernel
theorem dX9_goDays_1 : decode cX9_goDays 1 = .ok (.istore_n 3, 1) := by decide +kernel
theorem dX9_goDays_2 : decode cX9_goDays 2 = .ok (.iload_n 3, 1) := by decide +kernel
theorem dX9_goDays_3 : decode cX9_goDays 3 = .ok (.iload_n 1, 1) := by decide +kernel
theorem dX9_goDays_4 : decode cX9_goDays 4 = .ok (.if_icmp .ge 19, 3) := by decide +kernel
theorem dX9_goDays_7 : decode cX9_goDays 7 = .ok (.aload_n 0, 1) := by decide +kernel
theorem dX9_goDays_8 : decode cX9_goDays 8 = .ok (.aload_n 0, 1) := by decide +kernel
theorem dX9_goDays_9 : decode cX9_goDays 9 = .ok (.getfield 34, 3) := by decide +kernel
theorem dX9_goDays_12 : decode cX9_goDays 12 = .ok (.iload_n 2, 1) := by decide +kernel
theorem dX9_goDays_13 : decode cX9_goDays 13 = .ok (.invokevirtual 161, 3) := by decide +kernel
theorem dX9_goDays_16 : decode cX9_goDays 16 = .ok (.pop, 1) := by decide +kernel
theorem dX9_goDays_17 : decode cX9_goDays 17 = .ok (.iinc 3 1, 3) := by decide +kernel
theorem dX9_goDays_20 : decode cX9_goDays 20 = .ok (.goto (-18), 3) := by decide +kernel
theorem dX9_goDays_23 : decode cX9_goDays 23 = .ok (.return_, 1) := by decide +kernel
theorem dX9_later_0 : decode cX9_later 0 = .ok (.aload_n 0, 1) := by decide +kernel
theorem dX9_later_1 : decode cX9_later 1 = .ok (.iconst 0, 1) := by decide +kernel
theorem dX9_later_2 : decode cX9_later 2 = .ok (.putfield 65, 3) := by decide +kernel
theorem dX9_later_5 : decode cX9_later 5 = .ok (.iload_n 1, 1) := by decide +kernel
theorem dX9_later_6 : decode cX9_later 6 = .ok (.i2l, 1) := by decide +kernel
theorem dX9_later_7 : decode cX9_later 7 = .ok (.lconst 0, 1) := by decide +kernel
theorem dX9_later_8 : decode cX9_later 8 = .ok (.ldc2_w 167, 3) := by decide +kernel
theorem dX9_later_11 : decode cX9_later 11 = .ok (.invokestatic 72, 3) := by decide +kernel
theorem dX9_later_14 : decode cX9_later 14 = .ok (.ifCond .eq 13, 3) := by decide +kernel
theorem dX9_later_17 : decode cX9_later 17 = .ok (.iload_n 2, 1) := by decide +kernel
theorem dX9_later_18 : decode cX9_later 18 = .ok (.i2l, 1) := by decide +kernel
theorem dX9_later_19 : decode cX9_later 19 = .ok (.lconst 0, 1) := by decide +kernel
theorem dX9_later_20 : decode cX9_later 20 = .ok (.lconst 1, 1) := by decide +kernel
theorem dX9_later_21 : decode cX9_later 21 = .ok (.invokestatic 72, 3) := by decide +kernel
theorem dX9_later_24 : decode cX9_later 24 = .ok (.ifCond .ne 6, 3) := by decide +kernel
theorem dX9_later_27 : decode cX9_later 27 = .ok (.bipush (-2), 2) := by decide +kernel
theorem dX9_later_29 : decode cX9_later 29 = .ok (.ireturn, 1) := by decide +kernel
theorem dX9_later_30 : decode cX9_later 30 = .ok (.aload_n 0, 1) := by decide +kernel
theorem dX9_later_31 : decode cX9_later 31 = .ok (.invokevirtual 169, 3) := by decide +kernel
theorem dX9_later_34 : decode cX9_later 34 = .ok (.aload_n 0, 1) := by decide +kernel
theorem dX9_later_35 : decode cX9_later 35 = .ok (.iload_n 1, 1) := by decide +kernel
theorem dX9_later_36 : decode cX9_later 36 = .ok (.bipush 31, 2) := by decide +kernel
theorem dX9_later_38 : decode cX9_later 38 = .ok (.invokevirtual 172, 3) := by decide +kernel
theorem dX9_later_41 : decode cX9_later 41 = .ok (.iload_n 2, 1) := by decide +kernel
theorem dX9_later_42 : decode cX9_later 42 = .ok (.ifCond .ne 12, 3) := by decide +kernel
theorem dX9_later_45 : decode cX9_later 45 = .ok (.aload_n 0, 1) := by decide +kernel
theorem dX9_later_46 : decode cX9_later 46 = .ok (.getfield 34, 3) := by decide +kernel
theorem dX9_later_49 : decode cX9_later 49 = .ok (.iconst 0, 1) := by decide +kernel
theorem dX9_later_50 : decode cX9_later 50 = .ok (.iaload, 1) := by decide +kernel
theorem dX9_later_51 : decode cX9_later 51 = .ok (.goto 13, 3) := by decide +kernel
theorem dX9_later_54 : decode cX9_later 54 = .ok (.aload_n 0, 1) := by decide +kernel
theorem dX9_later_55 : decode cX9_later 55 = .ok (.aload_n 0, 1) := by decide +kernel
theorem dX9_later_56 : decode cX9_later 56 = .ok (.getfield 34, 3) := by decide +kernel
theorem dX9_later_59 : decode cX9_later 59 = .ok (.bipush 31, 2) := by decide +kernel
theorem dX9_later_61 : decode cX9_later 61 = .ok (.invokevirtual 133, 3) := by decide +kernel
theorem dX9_later_64 : decode cX9_later 64 = .ok (.ireturn, 1) := by decide +kernel
theorem dX9_comesOf_0 : decode cX9_comesOf 0 = .ok (.iconst 0, 1) := by decide +kernel
theorem dX9_comesOf_1 : decode cX9_comesOf 1 = .ok (.istore_n 1, 1) := by decide +kernel
theorem dX9_comesOf_2 : decode cX9_comesOf 2 = .ok (.iload_n 1, 1) := by decide +kernel
theorem dX9_comesOf_3 : decode cX9_comesOf 3 = .ok (.bipush 7, 2) := by decide +kernel
theorem dX9_comesOf_5 : decode cX9_comesOf 5 = .ok (.if_icmp .ge 21, 3) := by decide +kernel
theorem dX9_comesOf_8 : decode cX9_comesOf 8 = .ok (.aload_n 0, 1) := by decide +kernel
theorem dX9_comesOf_9 : decode cX9_comesOf 9 = .ok (.getfield 37, 3) := by decide +kernel
theorem dX9_comesOf_12 : decode cX9_comesOf 12 = .ok (.iload_n 1, 1) := by decide +kernel
theorem dX9_comesOf_13 : decode cX9_comesOf 13 = .ok (.aload_n 0, 1) := by decide +kernel
theorem dX9_comesOf_14 : decode cX9_comesOf 14 = .ok (.getfield 34, 3) := by decide +kernel
theorem dX9_comesOf_17 : decode cX9_comesOf 17 = .ok (.iload_n 1, 1) := by decide +kernel
theorem dX9_comesOf_18 : decode cX9_comesOf 18 = .ok (.iaload, 1) := by decide +kernel
theorem dX9_comesOf_19 : decode cX9_comesOf 19 = .ok (.iastore, 1) := by decide +kernel
theorem dX9_comesOf_20 : decode cX9_comesOf 20 = .ok (.iinc 1 1, 3) := by decide +kernel
theorem dX9_comesOf_23 : decode cX9_comesOf 23 = .ok (.goto (-21), 3) := by decide +kernel
theorem dX9_comesOf_26 : decode cX9_comesOf 26 = .ok (.iconst 0, 1) := by decide +kernel
theorem dX9_comesOf_27 : decode cX9_comesOf 27 = .ok (.istore_n 1, 1) := by decide +kernel
theorem dX9_comesOf_28 : decode cX9_comesOf 28 = .ok (.iload_n 1, 1) := by decide +kernel
theorem dX9_comesOf_29 : decode cX9_comesOf 29 = .ok (.bipush 60, 2) := by decide +kernel
theorem dX9_comesOf_31 : decode cX9_comesOf 31 = .ok (.if_icmp .gt 35, 3) := by decide +kernel
theorem dX9_comesOf_34 : decode cX9_comesOf 34 = .ok (.aload_n 0, 1) := by decide +kernel
theorem dX9_comesOf_35 : decode cX9_comesOf 35 = .ok (.getfield 37, 3) := by decide +kernel
theorem dX9_comesOf_38 : decode cX9_comesOf 38 = .ok (.iconst 0, 1) := by decide +kernel
theorem dX9_comesOf_39 : decode cX9_comesOf 39 = .ok (.iaload, 1) := by decide +kernel
theorem dX9_comesOf_40 : decode cX9_comesOf 40 = .ok (.aload_n 0, 1) := by decide +kernel
theorem dX9_comesOf_41 : decode cX9_comesOf 41 = .ok (.getfield 111, 3) := by decide +kernel
theorem dX9_comesOf_44 : decode cX9_comesOf 44 = .ok (.if_icmp .ne 5, 3) := by decide +kernel
theorem dX9_comesOf_47 : decode cX9_comesOf 47 = .ok (.iload_n 1, 1) := by decide +kernel
theorem dX9_comesOf_48 : decode cX9_comesOf 48 = .ok (.ireturn, 1) := by decide +kernel
theorem dX9_comesOf_49 : decode cX9_comesOf 49 = .ok (.aload_n 0, 1) := by decide +kernel
theorem dX9_comesOf_50 : decode cX9_comesOf 50 = .ok (.aload_n 0, 1) := by decide +kernel
theorem dX9_comesOf_51 : decode cX9_comesOf 51 = .ok (.getfield 37, 3) := by decide +kernel
theorem dX9_comesOf_54 : decode cX9_comesOf 54 = .ok (.bipush 31, 2) := by decide +kernel
theorem dX9_comesOf_56 : decode cX9_comesOf 56 = .ok (.invokevirtual 161, 3) := by decide +kernel
theorem dX9_comesOf_59 : decode cX9_comesOf 59 = .ok (.pop, 1) := by decide +kernel
theorem dX9_comesOf_60 : decode cX9_comesOf 60 = .ok (.iinc 1 1, 3) := by decide +kernel
theorem dX9_comesOf_63 : decode cX9_comesOf 63 = .ok (.goto (-35), 3) := by decide +kernel
theorem dX9_comesOf_66 : decode cX9_comesOf 66 = .ok (.bipush (-9), 2) := by decide +kernel
theorem dX9_comesOf_68 : decode cX9_comesOf 68 = .ok (.ireturn, 1) := by decide +kernel
theorem dX9_comes_0 : decode cX9_comes 0 = .ok (.aload_n 0, 1) := by decide +kernel
theorem dX9_comes_1 : decode cX9_comes 1 = .ok (.iconst 0, 1) := by decide +kernel
end
section
theorem dX9_comes_2 : decode cX9_comes 2 = .ok (.putfield 65, 3) := by decide +kernel
theorem dX9_comes_5 : decode cX9_comes 5 = .ok (.aload_n 0, 1) := by decide +kernel
theorem dX9_comes_6 : decode cX9_comes 6 = .ok (.invokevirtual 169, 3) := by decide +kernel
theorem dX9_comes_9 : decode cX9_comes 9 = .ok (.aload_n 0, 1) := by decide +kernel
theorem dX9_comes_10 : decode cX9_comes 10 = .ok (.invokevirtual 176, 3) := by decide +kernel
theorem dX9_comes_13 : decode cX9_comes 13 = .ok (.ireturn, 1) := by decide +kernel
theorem dX9_leads_0 : decode cX9_leads 0 = .ok (.aload_n 0, 1) := by decide +kernel
theorem dX9_leads_1 : decode cX9_leads 1 = .ok (.iconst 0, 1) := by decide +kernel
theorem dX9_leads_2 : decode cX9_leads 2 = .ok (.putfield 65, 3) := by decide +kernel
theorem dX9_leads_5 : decode cX9_leads 5 = .ok (.aload_n 0, 1) := by decide +kernel
theorem dX9_leads_6 : decode cX9_leads 6 = .ok (.iload_n 1, 1) := by decide +kernel
theorem dX9_leads_7 : decode cX9_leads 7 = .ok (.invokevirtual 154, 3) := by decide +kernel
theorem dX9_leads_10 : decode cX9_leads 10 = .ok (.ifCond .eq 5, 3) := by decide +kernel
theorem dX9_leads_13 : decode cX9_leads 13 = .ok (.iconst (-1), 1) := by decide +kernel
theorem dX9_leads_14 : decode cX9_leads 14 = .ok (.ireturn, 1) := by decide +kernel
theorem dX9_leads_15 : decode cX9_leads 15 = .ok (.aload_n 0, 1) := by decide +kernel
theorem dX9_leads_16 : decode cX9_leads 16 = .ok (.invokevirtual 169, 3) := by decide +kernel
theorem dX9_leads_19 : decode cX9_leads 19 = .ok (.iconst 0, 1) := by decide +kernel
theorem dX9_leads_20 : decode cX9_leads 20 = .ok (.istore_n 2, 1) := by decide +kernel
theorem dX9_leads_21 : decode cX9_leads 21 = .ok (.iload_n 2, 1) := by decide +kernel
theorem dX9_leads_22 : decode cX9_leads 22 = .ok (.bipush 40, 2) := by decide +kernel
theorem dX9_leads_24 : decode cX9_leads 24 = .ok (.if_icmp .gt 36, 3) := by decide +kernel
theorem dX9_leads_27 : decode cX9_leads 27 = .ok (.aload_n 0, 1) := by decide +kernel
theorem dX9_leads_28 : decode cX9_leads 28 = .ok (.aload_n 0, 1) := by decide +kernel
theorem dX9_leads_29 : decode cX9_leads 29 = .ok (.getfield 34, 3) := by decide +kernel
theorem dX9_leads_32 : decode cX9_leads 32 = .ok (.bipush 31, 2) := by decide +kernel
theorem dX9_leads_34 : decode cX9_leads 34 = .ok (.invokevirtual 133, 3) := by decide +kernel
theorem dX9_leads_37 : decode cX9_leads 37 = .ok (.iload_n 1, 1) := by decide +kernel
theorem dX9_leads_38 : decode cX9_leads 38 = .ok (.if_icmp .ne 5, 3) := by decide +kernel
theorem dX9_leads_41 : decode cX9_leads 41 = .ok (.iload_n 2, 1) := by decide +kernel
theorem dX9_leads_42 : decode cX9_leads 42 = .ok (.ireturn, 1) := by decide +kernel
theorem dX9_leads_43 : decode cX9_leads 43 = .ok (.aload_n 0, 1) := by decide +kernel
theorem dX9_leads_44 : decode cX9_leads 44 = .ok (.aload_n 0, 1) := by decide +kernel
theorem dX9_leads_45 : decode cX9_leads 45 = .ok (.getfield 34, 3) := by decide +kernel
theorem dX9_leads_48 : decode cX9_leads 48 = .ok (.bipush 31, 2) := by decide +kernel
theorem dX9_leads_50 : decode cX9_leads 50 = .ok (.invokevirtual 161, 3) := by decide +kernel
theorem dX9_leads_53 : decode cX9_leads 53 = .ok (.pop, 1) := by decide +kernel
theorem dX9_leads_54 : decode cX9_leads 54 = .ok (.iinc 2 1, 3) := by decide +kernel
theorem dX9_leads_57 : decode cX9_leads 57 = .ok (.goto (-36), 3) := by decide +kernel
theorem dX9_leads_60 : decode cX9_leads 60 = .ok (.bipush (-9), 2) := by decide +kernel
theorem dX9_leads_62 : decode cX9_leads 62 = .ok (.ireturn, 1) := by decide +kernel
theorem dX9_cure_0 : decode cX9_cure 0 = .ok (.aload_n 0, 1) := by decide +kernel
theorem dX9_cure_1 : decode cX9_cure 1 = .ok (.iconst 0, 1) := by decide +kernel
theorem dX9_cure_2 : decode cX9_cure 2 = .ok (.putfield 65, 3) := by decide +kernel
theorem dX9_cure_5 : decode cX9_cure 5 = .ok (.iload_n 1, 1) := by decide +kernel
theorem dX9_cure_6 : decode cX9_cure 6 = .ok (.i2l, 1) := by decide +kernel
theorem dX9_cure_7 : decode cX9_cure 7 = .ok (.lconst 0, 1) := by decide +kernel
theorem dX9_cure_8 : decode cX9_cure 8 = .ok (.lconst 1, 1) := by decide +kernel
theorem dX9_cure_9 : decode cX9_cure 9 = .ok (.invokestatic 72, 3) := by decide +kernel
theorem dX9_cure_12 : decode cX9_cure 12 = .ok (.ifCond .ne 6, 3) := by decide +kernel
theorem dX9_cure_15 : decode cX9_cure 15 = .ok (.bipush (-2), 2) := by decide +kernel
theorem dX9_cure_17 : decode cX9_cure 17 = .ok (.ireturn, 1) := by decide +kernel
theorem dX9_cure_18 : decode cX9_cure 18 = .ok (.aload_n 0, 1) := by decide +kernel
theorem dX9_cure_19 : decode cX9_cure 19 = .ok (.bipush (-9), 2) := by decide +kernel
theorem dX9_cure_21 : decode cX9_cure 21 = .ok (.putfield 179, 3) := by decide +kernel
theorem dX9_cure_24 : decode cX9_cure 24 = .ok (.aload_n 0, 1) := by decide +kernel
theorem dX9_cure_25 : decode cX9_cure 25 = .ok (.bipush (-9), 2) := by decide +kernel
theorem dX9_cure_27 : decode cX9_cure 27 = .ok (.putfield 182, 3) := by decide +kernel
theorem dX9_cure_30 : decode cX9_cure 30 = .ok (.iconst 0, 1) := by decide +kernel
theorem dX9_cure_31 : decode cX9_cure 31 = .ok (.istore_n 2, 1) := by decide +kernel
theorem dX9_cure_32 : decode cX9_cure 32 = .ok (.iload_n 2, 1) := by decide +kernel
theorem dX9_cure_33 : decode cX9_cure 33 = .ok (.aload_n 0, 1) := by decide +kernel
theorem dX9_cure_34 : decode cX9_cure 34 = .ok (.getfield 69, 3) := by decide +kernel
theorem dX9_cure_37 : decode cX9_cure 37 = .ok (.if_icmp .ge 74, 3) := by decide +kernel
theorem dX9_cure_40 : decode cX9_cure 40 = .ok (.aload_n 0, 1) := by decide +kernel
theorem dX9_cure_41 : decode cX9_cure 41 = .ok (.getfield 31, 3) := by decide +kernel
theorem dX9_cure_44 : decode cX9_cure 44 = .ok (.iconst 2, 1) := by decide +kernel
theorem dX9_cure_45 : decode cX9_cure 45 = .ok (.iload_n 2, 1) := by decide +kernel
theorem dX9_cure_46 : decode cX9_cure 46 = .ok (.iadd, 1) := by decide +kernel
theorem dX9_cure_47 : decode cX9_cure 47 = .ok (.iaload, 1) := by decide +kernel
theorem dX9_cure_48 : decode cX9_cure 48 = .ok (.ifCond .le 57, 3) := by decide +kernel
theorem dX9_cure_51 : decode cX9_cure 51 = .ok (.aload_n 0, 1) := by decide +kernel
theorem dX9_cure_52 : decode cX9_cure 52 = .ok (.invokevirtual 169, 3) := by decide +kernel
theorem dX9_cure_55 : decode cX9_cure 55 = .ok (.aload_n 0, 1) := by decide +kernel
theorem dX9_cure_56 : decode cX9_cure 56 = .ok (.getfield 34, 3) := by decide +kernel
theorem dX9_cure_59 : decode cX9_cure 59 = .ok (.iconst 2, 1) := by decide +kernel
theorem dX9_cure_60 : decode cX9_cure 60 = .ok (.iload_n 2, 1) := by decide +kernel
theorem dX9_cure_61 : decode cX9_cure 61 = .ok (.iadd, 1) := by decide +kernel
theorem dX9_cure_62 : decode cX9_cure 62 = .ok (.dup2, 1) := by decide +kernel
theorem dX9_cure_63 : decode cX9_cure 63 = .ok (.iaload, 1) := by decide +kernel
theorem dX9_cure_64 : decode cX9_cure 64 = .ok (.iconst 1, 1) := by decide +kernel
theorem dX9_cure_65 : decode cX9_cure 65 = .ok (.isub, 1) := by decide +kernel
theorem dX9_cure_66 : decode cX9_cure 66 = .ok (.iastore, 1) := by decide +kernel
theorem dX9_cure_67 : decode cX9_cure 67 = .ok (.aload_n 0, 1) := by decide +kernel
theorem dX9_cure_68 : decode cX9_cure 68 = .ok (.invokevirtual 176, 3) := by decide +kernel
theorem dX9_cure_71 : decode cX9_cure 71 = .ok (.istore_n 3, 1) := by decide +kernel
theorem dX9_cure_72 : decode cX9_cure 72 = .ok (.iload_n 3, 1) := by decide +kernel
theorem dX9_cure_73 : decode cX9_cure 73 = .ok (.bipush (-9), 2) := by decide +kernel
theorem dX9_cure_75 : decode cX9_cure 75 = .ok (.if_icmp .eq 30, 3) := by decide +kernel
theorem dX9_cure_78 : decode cX9_cure 78 = .ok (.aload_n 0, 1) := by decide +kernel
theorem dX9_cure_79 : decode cX9_cure 79 = .ok (.getfield 179, 3) := by decide +kernel
theorem dX9_cure_82 : decode cX9_cure 82 = .ok (.bipush (-9), 2) := by decide +kernel
theorem dX9_cure_84 : decode cX9_cure 84 = .ok (.if_icmp .eq 11, 3) := by decide +kernel
theorem dX9_cure_87 : decode cX9_cure 87 = .ok (.iload_n 3, 1) := by decide +kernel
theorem dX9_cure_88 : decode cX9_cure 88 = .ok (.aload_n 0, 1) := by decide +kernel
theorem dX9_cure_89 : decode cX9_cure 89 = .ok (.getfield 179, 3) := by decide +kernel
theorem dX9_cure_92 : decode cX9_cure 92 = .ok (.if_icmp .ge 13, 3) := by decide +kernel
theorem dX9_cure_95 : decode cX9_cure 95 = .ok (.aload_n 0, 1) := by decide +kernel
theorem dX9_cure_96 : decode cX9_cure 96 = .ok (.iload_n 3, 1) := by decide +kernel
theorem dX9_cure_97 : decode cX9_cure 97 = .ok (.putfield 179, 3) := by decide +kernel
theorem dX9_cure_100 : decode cX9_cure 100 = .ok (.aload_n 0, 1) := by decide +kernel
theorem dX9_cure_101 : decode cX9_cure 101 = .ok (.iload_n 2, 1) := by decide +kernel
theorem dX9_cure_102 : decode cX9_cure 102 = .ok (.putfield 182, 3) := by decide +kernel
theorem dX9_cure_105 : decode cX9_cure 105 = .ok (.iinc 2 1, 3) := by decide +kernel
theorem dX9_cure_108 : decode cX9_cure 108 = .ok (.goto (-76), 3) := by decide +kernel
theorem dX9_cure_111 : decode cX9_cure 111 = .ok (.iload_n 1, 1) := by decide +kernel
theorem dX9_cure_112 : decode cX9_cure 112 = .ok (.ifCond .ne 10, 3) := by decide +kernel
theorem dX9_cure_115 : decode cX9_cure 115 = .ok (.aload_n 0, 1) := by decide +kernel
theorem dX9_cure_116 : decode cX9_cure 116 = .ok (.getfield 182, 3) := by decide +kernel
theorem dX9_cure_119 : decode cX9_cure 119 = .ok (.goto 7, 3) := by decide +kernel
theorem dX9_cure_122 : decode cX9_cure 122 = .ok (.aload_n 0, 1) := by decide +kernel
theorem dX9_cure_123 : decode cX9_cure 123 = .ok (.getfield 179, 3) := by decide +kernel
theorem dX9_cure_126 : decode cX9_cure 126 = .ok (.ireturn, 1) := by decide +kernel
theorem dX9_pulls_0 : decode cX9_pulls 0 = .ok (.aload_n 0, 1) := by decide +kernel
theorem dX9_pulls_1 : decode cX9_pulls 1 = .ok (.invokevirtual 169, 3) := by decide +kernel
theorem dX9_pulls_4 : decode cX9_pulls 4 = .ok (.iconst 0, 1) := by decide +kernel
theorem dX9_pulls_5 : decode cX9_pulls 5 = .ok (.istore_n 2, 1) := by decide +kernel
theorem dX9_pulls_6 : decode cX9_pulls 6 = .ok (.aload_n 0, 1) := by decide +kernel
theorem dX9_pulls_7 : decode cX9_pulls 7 = .ok (.iconst 0, 1) := by decide +kernel
theorem dX9_pulls_8 : decode cX9_pulls 8 = .ok (.putfield 182, 3) := by decide +kernel
theorem dX9_pulls_11 : decode cX9_pulls 11 = .ok (.iconst 0, 1) := by decide +kernel
theorem dX9_pulls_12 : decode cX9_pulls 12 = .ok (.istore_n 3, 1) := by decide +kernel
theorem dX9_pulls_13 : decode cX9_pulls 13 = .ok (.iload_n 3, 1) := by decide +kernel
theorem dX9_pulls_14 : decode cX9_pulls 14 = .ok (.aload_n 0, 1) := by decide +kernel
theorem dX9_pulls_15 : decode cX9_pulls 15 = .ok (.getfield 69, 3) := by decide +kernel
theorem dX9_pulls_18 : decode cX9_pulls 18 = .ok (.if_icmp .ge 75, 3) := by decide +kernel
theorem dX9_pulls_21 : decode cX9_pulls 21 = .ok (.iload_n 1, 1) := by decide +kernel
theorem dX9_pulls_22 : decode cX9_pulls 22 = .ok (.iconst 4, 1) := by decide +kernel
theorem dX9_pulls_23 : decode cX9_pulls 23 = .ok (.aload_n 0, 1) := by decide +kernel
theorem dX9_pulls_24 : decode cX9_pulls 24 = .ok (.getfield 69, 3) := by decide +kernel
theorem dX9_pulls_27 : decode cX9_pulls 27 = .ok (.iconst 1, 1) := by decide +kernel
theorem dX9_pulls_28 : decode cX9_pulls 28 = .ok (.isub, 1) := by decide +kernel
theorem dX9_pulls_29 : decode cX9_pulls 29 = .ok (.iload_n 3, 1) := by decide +kernel
theorem dX9_pulls_30 : decode cX9_pulls 30 = .ok (.isub, 1) := by decide +kernel
theorem dX9_pulls_31 : decode cX9_pulls 31 = .ok (.invokestatic 185, 3) := by decide +kernel
theorem dX9_pulls_34 : decode cX9_pulls 34 = .ok (.idiv, 1) := by decide +kernel
theorem dX9_pulls_35 : decode cX9_pulls 35 = .ok (.iconst 4, 1) := by decide +kernel
theorem dX9_pulls_36 : decode cX9_pulls 36 = .ok (.irem, 1) := by decide +kernel
theorem dX9_pulls_37 : decode cX9_pulls 37 = .ok (.istore 4, 2) := by decide +kernel
theorem dX9_pulls_39 : decode cX9_pulls 39 = .ok (.iload 4, 2) := by decide +kernel
theorem dX9_pulls_41 : decode cX9_pulls 41 = .ok (.aload_n 0, 1) := by decide +kernel
theorem dX9_pulls_42 : decode cX9_pulls 42 = .ok (.getfield 31, 3) := by decide +kernel
theorem dX9_pulls_45 : decode cX9_pulls 45 = .ok (.iconst 2, 1) := by decide +kernel
theorem dX9_pulls_46 : decode cX9_pulls 46 = .ok (.iload_n 3, 1) := by decide +kernel
theorem dX9_pulls_47 : decode cX9_pulls 47 = .ok (.iadd, 1) := by decide +kernel
theorem dX9_pulls_48 : decode cX9_pulls 48 = .ok (.iaload, 1) := by decide +kernel
theorem dX9_pulls_49 : decode cX9_pulls 49 = .ok (.if_icmp .le 6, 3) := by decide +kernel
theorem dX9_pulls_52 : decode cX9_pulls 52 = .ok (.bipush (-9), 2) := by decide +kernel
theorem dX9_pulls_54 : decode cX9_pulls 54 = .ok (.ireturn, 1) := by decide +kernel
theorem dX9_pulls_55 : decode cX9_pulls 55 = .ok (.aload_n 0, 1) := by decide +kernel
theorem dX9_pulls_56 : decode cX9_pulls 56 = .ok (.getfield 34, 3) := by decide +kernel
theorem dX9_pulls_59 : decode cX9_pulls 59 = .ok (.iconst 2, 1) := by decide +kernel
theorem dX9_pulls_60 : decode cX9_pulls 60 = .ok (.iload_n 3, 1) := by decide +kernel
theorem dX9_pulls_61 : decode cX9_pulls 61 = .ok (.iadd, 1) := by decide +kernel
theorem dX9_pulls_62 : decode cX9_pulls 62 = .ok (.dup2, 1) := by decide +kernel
theorem dX9_pulls_63 : decode cX9_pulls 63 = .ok (.iaload, 1) := by decide +kernel
theorem dX9_pulls_64 : decode cX9_pulls 64 = .ok (.iload 4, 2) := by decide +kernel
theorem dX9_pulls_66 : decode cX9_pulls 66 = .ok (.isub, 1) := by decide +kernel
theorem dX9_pulls_67 : decode cX9_pulls 67 = .ok (.iastore, 1) := by decide +kernel
theorem dX9_pulls_68 : decode cX9_pulls 68 = .ok (.iload_n 2, 1) := by decide +kernel
theorem dX9_pulls_69 : decode cX9_pulls 69 = .ok (.iload 4, 2) := by decide +kernel
theorem dX9_pulls_71 : decode cX9_pulls 71 = .ok (.iadd, 1) := by decide +kernel
theorem dX9_pulls_72 : decode cX9_pulls 72 = .ok (.istore_n 2, 1) := by decide +kernel
theorem dX9_pulls_73 : decode cX9_pulls 73 = .ok (.aload_n 0, 1) := by decide +kernel
theorem dX9_pulls_74 : decode cX9_pulls 74 = .ok (.bipush 10, 2) := by decide +kernel
theorem dX9_pulls_76 : decode cX9_pulls 76 = .ok (.aload_n 0, 1) := by decide +kernel
theorem dX9_pulls_77 : decode cX9_pulls 77 = .ok (.getfield 182, 3) := by decide +kernel
theorem dX9_pulls_80 : decode cX9_pulls 80 = .ok (.imul, 1) := by decide +kernel
theorem dX9_pulls_81 : decode cX9_pulls 81 = .ok (.iload 4, 2) := by decide +kernel
theorem dX9_pulls_83 : decode cX9_pulls 83 = .ok (.iadd, 1) := by decide +kernel
theorem dX9_pulls_84 : decode cX9_pulls 84 = .ok (.putfield 182, 3) := by decide +kernel
theorem dX9_pulls_87 : decode cX9_pulls 87 = .ok (.iinc 3 1, 3) := by decide +kernel
theorem dX9_pulls_90 : decode cX9_pulls 90 = .ok (.goto (-77), 3) := by decide +kernel
theorem dX9_pulls_93 : decode cX9_pulls 93 = .ok (.iload_n 2, 1) := by decide +kernel
theorem dX9_pulls_94 : decode cX9_pulls 94 = .ok (.ireturn, 1) := by decide +kernel
theorem dX9_findPlan_0 : decode cX9_findPlan 0 = .ok (.aload_n 0, 1) := by decide +kernel
theorem dX9_findPlan_1 : decode cX9_findPlan 1 = .ok (.bipush (-9), 2) := by decide +kernel
theorem dX9_findPlan_3 : decode cX9_findPlan 3 = .ok (.putfield 179, 3) := by decide +kernel
theorem dX9_findPlan_6 : decode cX9_findPlan 6 = .ok (.aload_n 0, 1) := by decide +kernel
theorem dX9_findPlan_7 : decode cX9_findPlan 7 = .ok (.bipush (-9), 2) := by decide +kernel
theorem dX9_findPlan_9 : decode cX9_findPlan 9 = .ok (.putfield 188, 3) := by decide +kernel
theorem dX9_findPlan_12 : decode cX9_findPlan 12 = .ok (.iconst 0, 1) := by decide +kernel
theorem dX9_findPlan_13 : decode cX9_findPlan 13 = .ok (.istore_n 2, 1) := by decide +kernel
theorem dX9_findPlan_14 : decode cX9_findPlan 14 = .ok (.iload_n 2, 1) := by decide +kernel
theorem dX9_findPlan_15 : decode cX9_findPlan 15 = .ok (.iconst 4, 1) := by decide +kernel
theorem dX9_findPlan_16 : decode cX9_findPlan 16 = .ok (.aload_n 0, 1) := by decide +kernel
theorem dX9_findPlan_17 : decode cX9_findPlan 17 = .ok (.getfield 69, 3) := by decide +kernel
theorem dX9_findPlan_20 : decode cX9_findPlan 20 = .ok (.invokestatic 185, 3) := by decide +kernel
theorem dX9_findPlan_23 : decode cX9_findPlan 23 = .ok (.if_icmp .ge 101, 3) := by decide +kernel
theorem dX9_findPlan_26 : decode cX9_findPlan 26 = .ok (.aload_n 0, 1) := by decide +kernel
theorem dX9_findPlan_27 : decode cX9_findPlan 27 = .ok (.iload_n 2, 1) := by decide +kernel
theorem dX9_findPlan_28 : decode cX9_findPlan 28 = .ok (.invokevirtual 191, 3) := by decide +kernel
theorem dX9_findPlan_31 : decode cX9_findPlan 31 = .ok (.istore_n 3, 1) := by decide +kernel
theorem dX9_findPlan_32 : decode cX9_findPlan 32 = .ok (.iload_n 3, 1) := by decide +kernel
theorem dX9_findPlan_33 : decode cX9_findPlan 33 = .ok (.bipush (-9), 2) := by decide +kernel
theorem dX9_findPlan_35 : decode cX9_findPlan 35 = .ok (.if_icmp .eq 83, 3) := by decide +kernel
theorem dX9_findPlan_38 : decode cX9_findPlan 38 = .ok (.aload_n 0, 1) := by decide +kernel
theorem dX9_findPlan_39 : decode cX9_findPlan 39 = .ok (.getfield 179, 3) := by decide +kernel
theorem dX9_findPlan_42 : decode cX9_findPlan 42 = .ok (.bipush (-9), 2) := by decide +kernel
theorem dX9_findPlan_44 : decode cX9_findPlan 44 = .ok (.if_icmp .eq 11, 3) := by decide +kernel
theorem dX9_findPlan_47 : decode cX9_findPlan 47 = .ok (.iload_n 3, 1) := by decide +kernel
theorem dX9_findPlan_48 : decode cX9_findPlan 48 = .ok (.aload_n 0, 1) := by decide +kernel
theorem dX9_findPlan_49 : decode cX9_findPlan 49 = .ok (.getfield 179, 3) := by decide +kernel
theorem dX9_findPlan_52 : decode cX9_findPlan 52 = .ok (.if_icmp .ge 66, 3) := by decide +kernel
theorem dX9_findPlan_55 : decode cX9_findPlan 55 = .ok (.aload_n 0, 1) := by decide +kernel
theorem dX9_findPlan_56 : decode cX9_findPlan 56 = .ok (.invokevirtual 176, 3) := by decide +kernel
theorem dX9_findPlan_59 : decode cX9_findPlan 59 = .ok (.istore 4, 2) := by decide +kernel
theorem dX9_findPlan_61 : decode cX9_findPlan 61 = .ok (.iload 4, 2) := by decide +kernel
theorem dX9_findPlan_63 : decode cX9_findPlan 63 = .ok (.bipush (-9), 2) := by decide +kernel
theorem dX9_findPlan_65 : decode cX9_findPlan 65 = .ok (.if_icmp .eq 13, 3) := by decide +kernel
theorem dX9_findPlan_68 : decode cX9_findPlan 68 = .ok (.iload 4, 2) := by decide +kernel
theorem dX9_findPlan_70 : decode cX9_findPlan 70 = .ok (.iload_n 1, 1) := by decide +kernel
theorem dX9_findPlan_71 : decode cX9_findPlan 71 = .ok (.if_icmp .gt 7, 3) := by decide +kernel
theorem dX9_findPlan_74 : decode cX9_findPlan 74 = .ok (.iconst 1, 1) := by decide +kernel
theorem dX9_findPlan_75 : decode cX9_findPlan 75 = .ok (.goto 4, 3) := by decide +kernel
theorem dX9_findPlan_78 : decode cX9_findPlan 78 = .ok (.iconst 0, 1) := by decide +kernel
theorem dX9_findPlan_79 : decode cX9_findPlan 79 = .ok (.istore 5, 2) := by decide +kernel
theorem dX9_findPlan_81 : decode cX9_findPlan 81 = .ok (.aload_n 0, 1) := by decide +kernel
theorem dX9_findPlan_82 : decode cX9_findPlan 82 = .ok (.iload 5, 2) := by decide +kernel
theorem dX9_findPlan_84 : decode cX9_findPlan 84 = .ok (.ifCond .eq 10, 3) := by decide +kernel
theorem dX9_findPlan_87 : decode cX9_findPlan 87 = .ok (.aload_n 0, 1) := by decide +kernel
theorem dX9_findPlan_88 : decode cX9_findPlan 88 = .ok (.getfield 182, 3) := by decide +kernel
theorem dX9_findPlan_91 : decode cX9_findPlan 91 = .ok (.goto 7, 3) := by decide +kernel
theorem dX9_findPlan_94 : decode cX9_findPlan 94 = .ok (.aload_n 0, 1) := by decide +kernel
theorem dX9_findPlan_95 : decode cX9_findPlan 95 = .ok (.getfield 188, 3) := by decide +kernel
theorem dX9_findPlan_98 : decode cX9_findPlan 98 = .ok (.putfield 188, 3) := by decide +kernel
theorem dX9_findPlan_101 : decode cX9_findPlan 101 = .ok (.aload_n 0, 1) := by decide +kernel
theorem dX9_findPlan_102 : decode cX9_findPlan 102 = .ok (.iload 5, 2) := by decide +kernel
theorem dX9_findPlan_104 : decode cX9_findPlan 104 = .ok (.ifCond .eq 7, 3) := by decide +kernel
theorem dX9_findPlan_107 : decode cX9_findPlan 107 = .ok (.iload_n 3, 1) := by decide +kernel
theorem dX9_findPlan_108 : decode cX9_findPlan 108 = .ok (.goto 7, 3) := by decide +kernel
theorem dX9_findPlan_111 : decode cX9_findPlan 111 = .ok (.aload_n 0, 1) := by decide +kernel
theorem dX9_findPlan_112 : decode cX9_findPlan 112 = .ok (.getfield 179, 3) := by decide +kernel
theorem dX9_findPlan_115 : decode cX9_findPlan 115 = .ok (.putfield 179, 3) := by decide +kernel
theorem dX9_findPlan_118 : decode cX9_findPlan 118 = .ok (.iinc 2 1, 3) := by decide +kernel
theorem dX9_findPlan_121 : decode cX9_findPlan 121 = .ok (.goto (-107), 3) := by decide +kernel
theorem dX9_findPlan_124 : decode cX9_findPlan 124 = .ok (.return_, 1) := by decide +kernel
theorem dX9_plan_0 : decode cX9_plan 0 = .ok (.aload_n 0, 1) := by decide +kernel
theorem dX9_plan_1 : decode cX9_plan 1 = .ok (.iconst 0, 1) := by decide +kernel
theorem dX9_plan_2 : decode cX9_plan 2 = .ok (.putfield 65, 3) := by decide +kernel
theorem dX9_plan_5 : decode cX9_plan 5 = .ok (.iload_n 1, 1) := by decide +kernel
theorem dX9_plan_6 : decode cX9_plan 6 = .ok (.i2l, 1) := by decide +kernel
theorem dX9_plan_7 : decode cX9_plan 7 = .ok (.lconst 0, 1) := by decide +kernel
theorem dX9_plan_8 : decode cX9_plan 8 = .ok (.ldc2_w 194, 3) := by decide +kernel
theorem dX9_plan_11 : decode cX9_plan 11 = .ok (.invokestatic 72, 3) := by decide +kernel
theorem dX9_plan_14 : decode cX9_plan 14 = .ok (.ifCond .eq 13, 3) := by decide +kernel
theorem dX9_plan_17 : decode cX9_plan 17 = .ok (.iload_n 2, 1) := by decide +kernel
theorem dX9_plan_18 : decode cX9_plan 18 = .ok (.i2l, 1) := by decide +kernel
theorem dX9_plan_19 : decode cX9_plan 19 = .ok (.lconst 0, 1) := by decide +kernel
theorem dX9_plan_20 : decode cX9_plan 20 = .ok (.lconst 1, 1) := by decide +kernel
theorem dX9_plan_21 : decode cX9_plan 21 = .ok (.invokestatic 72, 3) := by decide +kernel
theorem dX9_plan_24 : decode cX9_plan 24 = .ok (.ifCond .ne 6, 3) := by decide +kernel
theorem dX9_plan_27 : decode cX9_plan 27 = .ok (.bipush (-2), 2) := by decide +kernel
theorem dX9_plan_29 : decode cX9_plan 29 = .ok (.ireturn, 1) := by decide +kernel
theorem dX9_plan_30 : decode cX9_plan 30 = .ok (.aload_n 0, 1) := by decide +kernel
theorem dX9_plan_31 : decode cX9_plan 31 = .ok (.iload_n 1, 1) := by decide +kernel
theorem dX9_plan_32 : decode cX9_plan 32 = .ok (.invokevirtual 196, 3) := by decide +kernel
theorem dX9_plan_35 : decode cX9_plan 35 = .ok (.iload_n 2, 1) := by decide +kernel
theorem dX9_plan_36 : decode cX9_plan 36 = .ok (.ifCond .ne 10, 3) := by decide +kernel
theorem dX9_plan_39 : decode cX9_plan 39 = .ok (.aload_n 0, 1) := by decide +kernel
theorem dX9_plan_40 : decode cX9_plan 40 = .ok (.getfield 179, 3) := by decide +kernel
theorem dX9_plan_43 : decode cX9_plan 43 = .ok (.goto 7, 3) := by decide +kernel
theorem dX9_plan_46 : decode cX9_plan 46 = .ok (.aload_n 0, 1) := by decide +kernel
theorem dX9_plan_47 : decode cX9_plan 47 = .ok (.getfield 188, 3) := by decide +kernel
theorem dX9_plan_50 : decode cX9_plan 50 = .ok (.ireturn, 1) := by decide +kernel
theorem dX9_longPower_0 : decode cX9_longPower 0 = .ok (.lconst 1, 1) := by decide +kernel
theorem dX9_longPower_1 : decode cX9_longPower 1 = .ok (.lstore_n 3, 1) := by decide +kernel
theorem dX9_longPower_2 : decode cX9_longPower 2 = .ok (.iconst 0, 1) := by decide +kernel
theorem dX9_longPower_3 : decode cX9_longPower 3 = .ok (.istore 5, 2) := by decide +kernel
theorem dX9_longPower_5 : decode cX9_longPower 5 = .ok (.iload 5, 2) := by decide +kernel
theorem dX9_longPower_7 : decode cX9_longPower 7 = .ok (.iload_n 2, 1) := by decide +kernel
theorem dX9_longPower_8 : decode cX9_longPower 8 = .ok (.if_icmp .ge 13, 3) := by decide +kernel
theorem dX9_longPower_11 : decode cX9_longPower 11 = .ok (.lload_n 3, 1) := by decide +kernel
theorem dX9_longPower_12 : decode cX9_longPower 12 = .ok (.lload_n 0, 1) := by decide +kernel
theorem dX9_longPower_13 : decode cX9_longPower 13 = .ok (.lmul, 1) := by decide +kernel
theorem dX9_longPower_14 : decode cX9_longPower 14 = .ok (.lstore_n 3, 1) := by decide +kernel
theorem dX9_longPower_15 : decode cX9_longPower 15 = .ok (.iinc 5 1, 3) := by decide +kernel
theorem dX9_longPower_18 : decode cX9_longPower 18 = .ok (.goto (-13), 3) := by decide +kernel
theorem dX9_longPower_21 : decode cX9_longPower 21 = .ok (.lload_n 3, 1) := by decide +kernel
theorem dX9_longPower_22 : decode cX9_longPower 22 = .ok (.lreturn, 1) := by decide +kernel
theorem dX9_gravels_0 : decode cX9_gravels 0 = .ok (.aload_n 0, 1) := by decide +kernel
theorem dX9_gravels_1 : decode cX9_gravels 1 = .ok (.iload_n 1, 1) := by decide +kernel
theorem dX9_gravels_2 : decode cX9_gravels 2 = .ok (.invokevirtual 154, 3) := by decide +kernel
theorem dX9_gravels_5 : decode cX9_gravels 5 = .ok (.ifCond .ne 20, 3) := by decide +kernel
theorem dX9_gravels_8 : decode cX9_gravels 8 = .ok (.aload_n 0, 1) := by decide +kernel
theorem dX9_gravels_9 : decode cX9_gravels 9 = .ok (.getfield 34, 3) := by decide +kernel
theorem dX9_gravels_12 : decode cX9_gravels 12 = .ok (.iconst 2, 1) := by decide +kernel
theorem dX9_gravels_13 : decode cX9_gravels 13 = .ok (.iload_n 1, 1) := by decide +kernel
theorem dX9_gravels_14 : decode cX9_gravels 14 = .ok (.iadd, 1) := by decide +kernel
theorem dX9_gravels_15 : decode cX9_gravels 15 = .ok (.iaload, 1) := by decide +kernel
theorem dX9_gravels_16 : decode cX9_gravels 16 = .ok (.bipush 9, 2) := by decide +kernel
theorem dX9_gravels_18 : decode cX9_gravels 18 = .ok (.if_icmp .ge 7, 3) := by decide +kernel
theorem dX9_gravels_21 : decode cX9_gravels 21 = .ok (.iconst 1, 1) := by decide +kernel
theorem dX9_gravels_22 : decode cX9_gravels 22 = .ok (.goto 4, 3) := by decide +kernel
theorem dX9_gravels_25 : decode cX9_gravels 25 = .ok (.iconst 0, 1) := by decide +kernel
theorem dX9_gravels_26 : decode cX9_gravels 26 = .ok (.istore_n 2, 1) := by decide +kernel
theorem dX9_gravels_27 : decode cX9_gravels 27 = .ok (.iload_n 2, 1) := by decide +kernel
theorem dX9_gravels_28 : decode cX9_gravels 28 = .ok (.ifCond .eq 11, 3) := by decide +kernel
theorem dX9_gravels_31 : decode cX9_gravels 31 = .ok (.aload_n 0, 1) := by decide +kernel
theorem dX9_gravels_32 : decode cX9_gravels 32 = .ok (.getfield 34, 3) := by decide +kernel
theorem dX9_gravels_35 : decode cX9_gravels 35 = .ok (.iload_n 1, 1) := by decide +kernel
theorem dX9_gravels_36 : decode cX9_gravels 36 = .ok (.invokestatic 139, 3) := by decide +kernel
theorem dX9_gravels_39 : decode cX9_gravels 39 = .ok (.iload_n 2, 1) := by decide +kernel
theorem dX9_gravels_40 : decode cX9_gravels 40 = .ok (.ireturn, 1) := by decide +kernel
theorem dX9_isPulled_0 : decode cX9_isPulled 0 = .ok (.aload_n 0, 1) := by decide +kernel
theorem dX9_isPulled_1 : decode cX9_isPulled 1 = .ok (.iload_n 1, 1) := by decide +kernel
theorem dX9_isPulled_2 : decode cX9_isPulled 2 = .ok (.invokevirtual 154, 3) := by decide +kernel
theorem dX9_isPulled_5 : decode cX9_isPulled 5 = .ok (.ifCond .ne 18, 3) := by decide +kernel
theorem dX9_isPulled_8 : decode cX9_isPulled 8 = .ok (.aload_n 0, 1) := by decide +kernel
theorem dX9_isPulled_9 : decode cX9_isPulled 9 = .ok (.getfield 34, 3) := by decide +kernel
theorem dX9_isPulled_12 : decode cX9_isPulled 12 = .ok (.iconst 2, 1) := by decide +kernel
theorem dX9_isPulled_13 : decode cX9_isPulled 13 = .ok (.iload_n 1, 1) := by decide +kernel
theorem dX9_isPulled_14 : decode cX9_isPulled 14 = .ok (.iadd, 1) := by decide +kernel
theorem dX9_isPulled_15 : decode cX9_isPulled 15 = .ok (.iaload, 1) := by decide +kernel
theorem dX9_isPulled_16 : decode cX9_isPulled 16 = .ok (.ifCond .le 7, 3) := by decide +kernel
theorem dX9_isPulled_19 : decode cX9_isPulled 19 = .ok (.iconst 1, 1) := by decide +kernel
theorem dX9_isPulled_20 : decode cX9_isPulled 20 = .ok (.goto 4, 3) := by decide +kernel
theorem dX9_isPulled_23 : decode cX9_isPulled 23 = .ok (.iconst 0, 1) := by decide +kernel
theorem dX9_isPulled_24 : decode cX9_isPulled 24 = .ok (.istore_n 2, 1) := by decide +kernel
theorem dX9_isPulled_25 : decode cX9_isPulled 25 = .ok (.iload_n 2, 1) := by decide +kernel
theorem dX9_isPulled_26 : decode cX9_isPulled 26 = .ok (.ifCond .eq 15, 3) := by decide +kernel
theorem dX9_isPulled_29 : decode cX9_isPulled 29 = .ok (.aload_n 0, 1) := by decide +kernel
theorem dX9_isPulled_30 : decode cX9_isPulled 30 = .ok (.getfield 34, 3) := by decide +kernel
theorem dX9_isPulled_33 : decode cX9_isPulled 33 = .ok (.iconst 2, 1) := by decide +kernel
theorem dX9_isPulled_34 : decode cX9_isPulled 34 = .ok (.iload_n 1, 1) := by decide +kernel
theorem dX9_isPulled_35 : decode cX9_isPulled 35 = .ok (.iadd, 1) := by decide +kernel
theorem dX9_isPulled_36 : decode cX9_isPulled 36 = .ok (.dup2, 1) := by decide +kernel
theorem dX9_isPulled_37 : decode cX9_isPulled 37 = .ok (.iaload, 1) := by decide +kernel
theorem dX9_isPulled_38 : decode cX9_isPulled 38 = .ok (.iconst 1, 1) := by decide +kernel
theorem dX9_isPulled_39 : decode cX9_isPulled 39 = .ok (.isub, 1) := by decide +kernel
theorem dX9_isPulled_40 : decode cX9_isPulled 40 = .ok (.iastore, 1) := by decide +kernel
theorem dX9_isPulled_41 : decode cX9_isPulled 41 = .ok (.iload_n 2, 1) := by decide +kernel
theorem dX9_isPulled_42 : decode cX9_isPulled 42 = .ok (.ireturn, 1) := by decide +kernel
theorem dX9_does_0 : decode cX9_does 0 = .ok (.iload_n 1, 1) := by decide +kernel
theorem dX9_does_1 : decode cX9_does 1 = .ok (.bipush 100, 2) := by decide +kernel
theorem dX9_does_3 : decode cX9_does 3 = .ok (.idiv, 1) := by decide +kernel
theorem dX9_does_4 : decode cX9_does 4 = .ok (.istore_n 2, 1) := by decide +kernel
theorem dX9_does_5 : decode cX9_does 5 = .ok (.iload_n 1, 1) := by decide +kernel
theorem dX9_does_6 : decode cX9_does 6 = .ok (.bipush 10, 2) := by decide +kernel
theorem dX9_does_8 : decode cX9_does 8 = .ok (.idiv, 1) := by decide +kernel
theorem dX9_does_9 : decode cX9_does 9 = .ok (.bipush 10, 2) := by decide +kernel
theorem dX9_does_11 : decode cX9_does 11 = .ok (.irem, 1) := by decide +kernel
theorem dX9_does_12 : decode cX9_does 12 = .ok (.istore_n 3, 1) := by decide +kernel
theorem dX9_does_13 : decode cX9_does 13 = .ok (.iload_n 1, 1) := by decide +kernel
theorem dX9_does_14 : decode cX9_does 14 = .ok (.bipush 10, 2) := by decide +kernel
theorem dX9_does_16 : decode cX9_does 16 = .ok (.irem, 1) := by decide +kernel
theorem dX9_does_17 : decode cX9_does 17 = .ok (.istore 4, 2) := by decide +kernel
theorem dX9_does_19 : decode cX9_does 19 = .ok (.iload_n 1, 1) := by decide +kernel
theorem dX9_does_20 : decode cX9_does 20 = .ok (.ifCond .ne 16, 3) := by decide +kernel
theorem dX9_does_23 : decode cX9_does 23 = .ok (.aload_n 0, 1) := by decide +kernel
theorem dX9_does_24 : decode cX9_does 24 = .ok (.aload_n 0, 1) := by decide +kernel
theorem dX9_does_25 : decode cX9_does 25 = .ok (.getfield 34, 3) := by decide +kernel
theorem dX9_does_28 : decode cX9_does 28 = .ok (.bipush 31, 2) := by decide +kernel
theorem dX9_does_30 : decode cX9_does 30 = .ok (.invokevirtual 161, 3) := by decide +kernel
theorem dX9_does_33 : decode cX9_does 33 = .ok (.pop, 1) := by decide +kernel
theorem dX9_does_34 : decode cX9_does 34 = .ok (.iconst 1, 1) := by decide +kernel
theorem dX9_does_35 : decode cX9_does 35 = .ok (.ireturn, 1) := by decide +kernel
theorem dX9_does_36 : decode cX9_does 36 = .ok (.iload_n 1, 1) := by decide +kernel
theorem dX9_does_37 : decode cX9_does 37 = .ok (.bipush 100, 2) := by decide +kernel
theorem dX9_does_39 : decode cX9_does 39 = .ok (.if_icmp .ne 14, 3) := by decide +kernel
theorem dX9_does_42 : decode cX9_does 42 = .ok (.aload_n 0, 1) := by decide +kernel
theorem dX9_does_43 : decode cX9_does 43 = .ok (.aload_n 0, 1) := by decide +kernel
theorem dX9_does_44 : decode cX9_does 44 = .ok (.getfield 34, 3) := by decide +kernel
theorem dX9_does_47 : decode cX9_does 47 = .ok (.invokevirtual 164, 3) := by decide +kernel
theorem dX9_does_50 : decode cX9_does 50 = .ok (.pop, 1) := by decide +kernel
theorem dX9_does_51 : decode cX9_does 51 = .ok (.iconst 1, 1) := by decide +kernel
theorem dX9_does_52 : decode cX9_does 52 = .ok (.ireturn, 1) := by decide +kernel
theorem dX9_does_53 : decode cX9_does 53 = .ok (.iload_n 2, 1) := by decide +kernel
theorem dX9_does_54 : decode cX9_does 54 = .ok (.iconst 5, 1) := by decide +kernel
theorem dX9_does_55 : decode cX9_does 55 = .ok (.if_icmp .ne 30, 3) := by decide +kernel
theorem dX9_does_58 : decode cX9_does 58 = .ok (.aload_n 0, 1) := by decide +kernel
theorem dX9_does_59 : decode cX9_does 59 = .ok (.iload_n 3, 1) := by decide +kernel
theorem dX9_does_60 : decode cX9_does 60 = .ok (.invokevirtual 154, 3) := by decide +kernel
theorem dX9_does_63 : decode cX9_does 63 = .ok (.ifCond .ne 20, 3) := by decide +kernel
theorem dX9_does_66 : decode cX9_does 66 = .ok (.aload_n 0, 1) := by decide +kernel
theorem dX9_does_67 : decode cX9_does 67 = .ok (.getfield 34, 3) := by decide +kernel
theorem dX9_does_70 : decode cX9_does 70 = .ok (.iconst 2, 1) := by decide +kernel
theorem dX9_does_71 : decode cX9_does 71 = .ok (.iload_n 3, 1) := by decide +kernel
theorem dX9_does_72 : decode cX9_does 72 = .ok (.iadd, 1) := by decide +kernel
theorem dX9_does_73 : decode cX9_does 73 = .ok (.iaload, 1) := by decide +kernel
theorem dX9_does_74 : decode cX9_does 74 = .ok (.iload 4, 2) := by decide +kernel
theorem dX9_does_76 : decode cX9_does 76 = .ok (.if_icmp .lt 7, 3) := by decide +kernel
theorem dX9_does_79 : decode cX9_does 79 = .ok (.iconst 1, 1) := by decide +kernel
theorem dX9_does_80 : decode cX9_does 80 = .ok (.goto 4, 3) := by decide +kernel
theorem dX9_does_83 : decode cX9_does 83 = .ok (.iconst 0, 1) := by decide +kernel
theorem dX9_does_84 : decode cX9_does 84 = .ok (.ireturn, 1) := by decide +kernel
theorem dX9_does_85 : decode cX9_does 85 = .ok (.iload_n 2, 1) := by decide +kernel
theorem dX9_does_86 : decode cX9_does 86 = .ok (.bipush 6, 2) := by decide +kernel
theorem dX9_does_88 : decode cX9_does 88 = .ok (.if_icmp .ne 25, 3) := by decide +kernel
theorem dX9_does_91 : decode cX9_does 91 = .ok (.aload_n 0, 1) := by decide +kernel
theorem dX9_does_92 : decode cX9_does 92 = .ok (.getfield 34, 3) := by decide +kernel
theorem dX9_does_95 : decode cX9_does 95 = .ok (.iconst 0, 1) := by decide +kernel
theorem dX9_does_96 : decode cX9_does 96 = .ok (.iaload, 1) := by decide +kernel
theorem dX9_does_97 : decode cX9_does 97 = .ok (.bipush 10, 2) := by decide +kernel
theorem dX9_does_99 : decode cX9_does 99 = .ok (.iload_n 3, 1) := by decide +kernel
theorem dX9_does_100 : decode cX9_does 100 = .ok (.imul, 1) := by decide +kernel
theorem dX9_does_101 : decode cX9_does 101 = .ok (.iload 4, 2) := by decide +kernel
theorem dX9_does_103 : decode cX9_does 103 = .ok (.iadd, 1) := by decide +kernel
theorem dX9_does_104 : decode cX9_does 104 = .ok (.if_icmp .lt 7, 3) := by decide +kernel
theorem dX9_does_107 : decode cX9_does 107 = .ok (.iconst 1, 1) := by decide +kernel
theorem dX9_does_108 : decode cX9_does 108 = .ok (.goto 4, 3) := by decide +kernel
theorem dX9_does_111 : decode cX9_does 111 = .ok (.iconst 0, 1) := by decide +kernel
theorem dX9_does_112 : decode cX9_does 112 = .ok (.ireturn, 1) := by decide +kernel
theorem dX9_does_113 : decode cX9_does 113 = .ok (.iload_n 3, 1) := by decide +kernel
theorem dX9_does_114 : decode cX9_does 114 = .ok (.ifCond .eq 5, 3) := by decide +kernel
theorem dX9_does_117 : decode cX9_does 117 = .ok (.iconst 0, 1) := by decide +kernel
theorem dX9_does_118 : decode cX9_does 118 = .ok (.ireturn, 1) := by decide +kernel
theorem dX9_does_119 : decode cX9_does 119 = .ok (.iload_n 2, 1) := by decide +kernel
theorem dX9_does_120 : decode cX9_does 120 = .ok (.iconst 2, 1) := by decide +kernel
theorem dX9_does_121 : decode cX9_does 121 = .ok (.if_icmp .ne 12, 3) := by decide +kernel
theorem dX9_does_124 : decode cX9_does 124 = .ok (.aload_n 0, 1) := by decide +kernel
theorem dX9_does_125 : decode cX9_does 125 = .ok (.iload 4, 2) := by decide +kernel
theorem dX9_does_127 : decode cX9_does 127 = .ok (.invokevirtual 200, 3) := by decide +kernel
theorem dX9_does_130 : decode cX9_does 130 = .ok (.ifCond .ne 37, 3) := by decide +kernel
theorem dX9_does_133 : decode cX9_does 133 = .ok (.iload_n 2, 1) := by decide +kernel
theorem dX9_does_134 : decode cX9_does 134 = .ok (.iconst 3, 1) := by decide +kernel
theorem dX9_does_135 : decode cX9_does 135 = .ok (.if_icmp .ne 12, 3) := by decide +kernel
theorem dX9_does_138 : decode cX9_does 138 = .ok (.aload_n 0, 1) := by decide +kernel
theorem dX9_does_139 : decode cX9_does 139 = .ok (.iload 4, 2) := by decide +kernel
theorem dX9_does_141 : decode cX9_does 141 = .ok (.invokevirtual 203, 3) := by decide +kernel
theorem dX9_does_144 : decode cX9_does 144 = .ok (.ifCond .ne 23, 3) := by decide +kernel
theorem dX9_does_147 : decode cX9_does 147 = .ok (.iload_n 2, 1) := by decide +kernel
theorem dX9_does_148 : decode cX9_does 148 = .ok (.iconst 4, 1) := by decide +kernel
theorem dX9_does_149 : decode cX9_does 149 = .ok (.if_icmp .ne 22, 3) := by decide +kernel
theorem dX9_does_152 : decode cX9_does 152 = .ok (.aload_n 0, 1) := by decide +kernel
theorem dX9_does_153 : decode cX9_does 153 = .ok (.aload_n 0, 1) := by decide +kernel
theorem dX9_does_154 : decode cX9_does 154 = .ok (.getfield 34, 3) := by decide +kernel
theorem dX9_does_157 : decode cX9_does 157 = .ok (.bipush 31, 2) := by decide +kernel
theorem dX9_does_159 : decode cX9_does 159 = .ok (.invokevirtual 133, 3) := by decide +kernel
theorem dX9_does_162 : decode cX9_does 162 = .ok (.iload 4, 2) := by decide +kernel
theorem dX9_does_164 : decode cX9_does 164 = .ok (.if_icmp .ne 7, 3) := by decide +kernel
theorem dX9_does_167 : decode cX9_does 167 = .ok (.iconst 1, 1) := by decide +kernel
theorem dX9_does_168 : decode cX9_does 168 = .ok (.goto 4, 3) := by decide +kernel
theorem dX9_does_171 : decode cX9_does 171 = .ok (.iconst 0, 1) := by decide +kernel
theorem dX9_does_172 : decode cX9_does 172 = .ok (.ireturn, 1) := by decide +kernel
theorem dX9_judge_0 : decode cX9_judge 0 = .ok (.aload_n 0, 1) := by decide +kernel
theorem dX9_judge_1 : decode cX9_judge 1 = .ok (.iconst 0, 1) := by decide +kernel
theorem dX9_judge_2 : decode cX9_judge 2 = .ok (.putfield 65, 3) := by decide +kernel
theorem dX9_judge_5 : decode cX9_judge 5 = .ok (.iload_n 1, 1) := by decide +kernel
theorem dX9_judge_6 : decode cX9_judge 6 = .ok (.i2l, 1) := by decide +kernel
theorem dX9_judge_7 : decode cX9_judge 7 = .ok (.lconst 1, 1) := by decide +kernel
theorem dX9_judge_8 : decode cX9_judge 8 = .ok (.ldc2_w 206, 3) := by decide +kernel
theorem dX9_judge_11 : decode cX9_judge 11 = .ok (.invokestatic 72, 3) := by decide +kernel
theorem dX9_judge_14 : decode cX9_judge 14 = .ok (.ifCond .eq 20, 3) := by decide +kernel
theorem dX9_judge_17 : decode cX9_judge 17 = .ok (.lload_n 2, 1) := by decide +kernel
theorem dX9_judge_18 : decode cX9_judge 18 = .ok (.lconst 0, 1) := by decide +kernel
theorem dX9_judge_19 : decode cX9_judge 19 = .ok (.ldc2_w 208, 3) := by decide +kernel
theorem dX9_judge_22 : decode cX9_judge 22 = .ok (.iload_n 1, 1) := by decide +kernel
theorem dX9_judge_23 : decode cX9_judge 23 = .ok (.invokestatic 210, 3) := by decide +kernel
theorem dX9_judge_26 : decode cX9_judge 26 = .ok (.lconst 1, 1) := by decide +kernel
theorem dX9_judge_27 : decode cX9_judge 27 = .ok (.lsub, 1) := by decide +kernel
theorem dX9_judge_28 : decode cX9_judge 28 = .ok (.invokestatic 72, 3) := by decide +kernel
theorem dX9_judge_31 : decode cX9_judge 31 = .ok (.ifCond .ne 6, 3) := by decide +kernel
theorem dX9_judge_34 : decode cX9_judge 34 = .ok (.bipush (-2), 2) := by decide +kernel
theorem dX9_judge_36 : decode cX9_judge 36 = .ok (.ireturn, 1) := by decide +kernel
theorem dX9_judge_37 : decode cX9_judge 37 = .ok (.aload_n 0, 1) := by decide +kernel
theorem dX9_judge_38 : decode cX9_judge 38 = .ok (.invokevirtual 169, 3) := by decide +kernel
theorem dX9_judge_41 : decode cX9_judge 41 = .ok (.iconst 0, 1) := by decide +kernel
theorem dX9_judge_42 : decode cX9_judge 42 = .ok (.istore 4, 2) := by decide +kernel
theorem dX9_judge_44 : decode cX9_judge 44 = .ok (.iload 4, 2) := by decide +kernel
theorem dX9_judge_46 : decode cX9_judge 46 = .ok (.iload_n 1, 1) := by decide +kernel
theorem dX9_judge_47 : decode cX9_judge 47 = .ok (.if_icmp .ge 38, 3) := by decide +kernel
theorem dX9_judge_50 : decode cX9_judge 50 = .ok (.aload_n 0, 1) := by decide +kernel
theorem dX9_judge_51 : decode cX9_judge 51 = .ok (.lload_n 2, 1) := by decide +kernel
theorem dX9_judge_52 : decode cX9_judge 52 = .ok (.ldc2_w 208, 3) := by decide +kernel
theorem dX9_judge_55 : decode cX9_judge 55 = .ok (.iload_n 1, 1) := by decide +kernel
theorem dX9_judge_56 : decode cX9_judge 56 = .ok (.iconst 1, 1) := by decide +kernel
theorem dX9_judge_57 : decode cX9_judge 57 = .ok (.isub, 1) := by decide +kernel
theorem dX9_judge_58 : decode cX9_judge 58 = .ok (.iload 4, 2) := by decide +kernel
theorem dX9_judge_60 : decode cX9_judge 60 = .ok (.isub, 1) := by decide +kernel
theorem dX9_judge_61 : decode cX9_judge 61 = .ok (.invokestatic 210, 3) := by decide +kernel
theorem dX9_judge_64 : decode cX9_judge 64 = .ok (.ldiv, 1) := by decide +kernel
theorem dX9_judge_65 : decode cX9_judge 65 = .ok (.ldc2_w 208, 3) := by decide +kernel
theorem dX9_judge_68 : decode cX9_judge 68 = .ok (.lrem, 1) := by decide +kernel
theorem dX9_judge_69 : decode cX9_judge 69 = .ok (.l2i, 1) := by decide +kernel
theorem dX9_judge_70 : decode cX9_judge 70 = .ok (.invokevirtual 214, 3) := by decide +kernel
theorem dX9_judge_73 : decode cX9_judge 73 = .ok (.ifCond .ne 6, 3) := by decide +kernel
theorem dX9_judge_76 : decode cX9_judge 76 = .ok (.iload 4, 2) := by decide +kernel
theorem dX9_judge_78 : decode cX9_judge 78 = .ok (.ireturn, 1) := by decide +kernel
theorem dX9_judge_79 : decode cX9_judge 79 = .ok (.iinc 4 1, 3) := by decide +kernel
theorem dX9_judge_82 : decode cX9_judge 82 = .ok (.goto (-38), 3) := by decide +kernel
theorem dX9_judge_85 : decode cX9_judge 85 = .ok (.bipush (-9), 2) := by decide +kernel
theorem dX9_judge_87 : decode cX9_judge 87 = .ok (.ireturn, 1) := by decide +kernel
theorem dX9_ways_0 : decode cX9_ways 0 = .ok (.iconst 1, 1) := by decide +kernel
theorem dX9_ways_1 : decode cX9_ways 1 = .ok (.istore_n 1, 1) := by decide +kernel
theorem dX9_ways_2 : decode cX9_ways 2 = .ok (.iconst 2, 1) := by decide +kernel
theorem dX9_ways_3 : decode cX9_ways 3 = .ok (.istore_n 2, 1) := by decide +kernel
theorem dX9_ways_4 : decode cX9_ways 4 = .ok (.iload_n 2, 1) := by decide +kernel
theorem dX9_ways_5 : decode cX9_ways 5 = .ok (.iload_n 0, 1) := by decide +kernel
theorem dX9_ways_6 : decode cX9_ways 6 = .ok (.if_icmp .gt 13, 3) := by decide +kernel
theorem dX9_ways_9 : decode cX9_ways 9 = .ok (.iload_n 1, 1) := by decide +kernel
theorem dX9_ways_10 : decode cX9_ways 10 = .ok (.iload_n 2, 1) := by decide +kernel
theorem dX9_ways_11 : decode cX9_ways 11 = .ok (.imul, 1) := by decide +kernel
theorem dX9_ways_12 : decode cX9_ways 12 = .ok (.istore_n 1, 1) := by decide +kernel
theorem dX9_ways_13 : decode cX9_ways 13 = .ok (.iinc 2 1, 3) := by decide +kernel
theorem dX9_ways_16 : decode cX9_ways 16 = .ok (.goto (-12), 3) := by decide +kernel
theorem dX9_ways_19 : decode cX9_ways 19 = .ok (.iload_n 1, 1) := by decide +kernel
theorem dX9_ways_20 : decode cX9_ways 20 = .ok (.ireturn, 1) := by decide +kernel
theorem dX9_divisor_0 : decode cX9_divisor 0 = .ok (.iload_n 0, 1) := by decide +kernel
theorem dX9_divisor_1 : decode cX9_divisor 1 = .ok (.ifCond .ge 8, 3) := by decide +kernel
theorem dX9_divisor_4 : decode cX9_divisor 4 = .ok (.iload_n 0, 1) := by decide +kernel
theorem dX9_divisor_5 : decode cX9_divisor 5 = .ok (.ineg, 1) := by decide +kernel
theorem dX9_divisor_6 : decode cX9_divisor 6 = .ok (.goto 4, 3) := by decide +kernel
theorem dX9_divisor_9 : decode cX9_divisor 9 = .ok (.iload_n 0, 1) := by decide +kernel
theorem dX9_divisor_10 : decode cX9_divisor 10 = .ok (.istore_n 2, 1) := by decide +kernel
theorem dX9_divisor_11 : decode cX9_divisor 11 = .ok (.iload_n 1, 1) := by decide +kernel
theorem dX9_divisor_12 : decode cX9_divisor 12 = .ok (.istore_n 3, 1) := by decide +kernel
theorem dX9_divisor_13 : decode cX9_divisor 13 = .ok (.iload_n 3, 1) := by decide +kernel
theorem dX9_divisor_14 : decode cX9_divisor 14 = .ok (.ifCond .eq 16, 3) := by decide +kernel
theorem dX9_divisor_17 : decode cX9_divisor 17 = .ok (.iload_n 2, 1) := by decide +kernel
theorem dX9_divisor_18 : decode cX9_divisor 18 = .ok (.iload_n 3, 1) := by decide +kernel
theorem dX9_divisor_19 : decode cX9_divisor 19 = .ok (.irem, 1) := by decide +kernel
theorem dX9_divisor_20 : decode cX9_divisor 20 = .ok (.istore 4, 2) := by decide +kernel
theorem dX9_divisor_22 : decode cX9_divisor 22 = .ok (.iload_n 3, 1) := by decide +kernel
theorem dX9_divisor_23 : decode cX9_divisor 23 = .ok (.istore_n 2, 1) := by decide +kernel
theorem dX9_divisor_24 : decode cX9_divisor 24 = .ok (.iload 4, 2) := by decide +kernel
theorem dX9_divisor_26 : decode cX9_divisor 26 = .ok (.istore_n 3, 1) := by decide +kernel
theorem dX9_divisor_27 : decode cX9_divisor 27 = .ok (.goto (-14), 3) := by decide +kernel
theorem dX9_divisor_30 : decode cX9_divisor 30 = .ok (.iload_n 2, 1) := by decide +kernel
theorem dX9_divisor_31 : decode cX9_divisor 31 = .ok (.ireturn, 1) := by decide +kernel
theorem dX9_fraction_0 : decode cX9_fraction 0 = .ok (.iload_n 0, 1) := by decide +kernel
theorem dX9_fraction_1 : decode cX9_fraction 1 = .ok (.iload_n 1, 1) := by decide +kernel
theorem dX9_fraction_2 : decode cX9_fraction 2 = .ok (.invokestatic 217, 3) := by decide +kernel
theorem dX9_fraction_5 : decode cX9_fraction 5 = .ok (.istore_n 3, 1) := by decide +kernel
theorem dX9_fraction_6 : decode cX9_fraction 6 = .ok (.iload_n 2, 1) := by decide +kernel
theorem dX9_fraction_7 : decode cX9_fraction 7 = .ok (.ifCond .eq 9, 3) := by decide +kernel
theorem dX9_fraction_10 : decode cX9_fraction 10 = .ok (.iload_n 0, 1) := by decide +kernel
theorem dX9_fraction_11 : decode cX9_fraction 11 = .ok (.iload_n 3, 1) := by decide +kernel
theorem dX9_fraction_12 : decode cX9_fraction 12 = .ok (.idiv, 1) := by decide +kernel
theorem dX9_fraction_13 : decode cX9_fraction 13 = .ok (.goto 6, 3) := by decide +kernel
theorem dX9_fraction_16 : decode cX9_fraction 16 = .ok (.iload_n 1, 1) := by decide +kernel
theorem dX9_fraction_17 : decode cX9_fraction 17 = .ok (.iload_n 3, 1) := by decide +kernel
theorem dX9_fraction_18 : decode cX9_fraction 18 = .ok (.idiv, 1) := by decide +kernel
theorem dX9_fraction_19 : decode cX9_fraction 19 = .ok (.ireturn, 1) := by decide +kernel
theorem dX9_share_0 : decode cX9_share 0 = .ok (.aload_n 0, 1) := by decide +kernel
theorem dX9_share_1 : decode cX9_share 1 = .ok (.iconst 0, 1) := by decide +kernel
theorem dX9_share_2 : decode cX9_share 2 = .ok (.putfield 65, 3) := by decide +kernel
theorem dX9_share_5 : decode cX9_share 5 = .ok (.aload_n 0, 1) := by decide +kernel
theorem dX9_share_6 : decode cX9_share 6 = .ok (.iload_n 1, 1) := by decide +kernel
theorem dX9_share_7 : decode cX9_share 7 = .ok (.invokevirtual 154, 3) := by decide +kernel
theorem dX9_share_10 : decode cX9_share 10 = .ok (.ifCond .eq 5, 3) := by decide +kernel
theorem dX9_share_13 : decode cX9_share 13 = .ok (.iconst (-1), 1) := by decide +kernel
theorem dX9_share_14 : decode cX9_share 14 = .ok (.ireturn, 1) := by decide +kernel
theorem dX9_share_15 : decode cX9_share 15 = .ok (.iconst 0, 1) := by decide +kernel
theorem dX9_share_16 : decode cX9_share 16 = .ok (.istore_n 3, 1) := by decide +kernel
theorem dX9_share_17 : decode cX9_share 17 = .ok (.iload_n 3, 1) := by decide +kernel
theorem dX9_share_18 : decode cX9_share 18 = .ok (.iconst 1, 1) := by decide +kernel
theorem dX9_share_19 : decode cX9_share 19 = .ok (.aload_n 0, 1) := by decide +kernel
theorem dX9_share_20 : decode cX9_share 20 = .ok (.getfield 69, 3) := by decide +kernel
theorem dX9_share_23 : decode cX9_share 23 = .ok (.ishl, 1) := by decide +kernel
theorem dX9_share_24 : decode cX9_share 24 = .ok (.if_icmp .ge 42, 3) := by decide +kernel
theorem dX9_share_27 : decode cX9_share 27 = .ok (.aload_n 0, 1) := by decide +kernel
theorem dX9_share_28 : decode cX9_share 28 = .ok (.invokevirtual 169, 3) := by decide +kernel
theorem dX9_share_31 : decode cX9_share 31 = .ok (.aload_n 0, 1) := by decide +kernel
theorem dX9_share_32 : decode cX9_share 32 = .ok (.iconst 5, 1) := by decide +kernel
theorem dX9_share_33 : decode cX9_share 33 = .ok (.iload_n 3, 1) := by decide +kernel
theorem dX9_share_34 : decode cX9_share 34 = .ok (.invokevirtual 172, 3) := by decide +kernel
theorem dX9_share_37 : decode cX9_share 37 = .ok (.aload_n 0, 1) := by decide +kernel
theorem dX9_share_38 : decode cX9_share 38 = .ok (.getfield 62, 3) := by decide +kernel
theorem dX9_share_41 : decode cX9_share 41 = .ok (.iload_n 3, 1) := by decide +kernel
theorem dX9_share_42 : decode cX9_share 42 = .ok (.iload_n 3, 1) := by decide +kernel
theorem dX9_share_43 : decode cX9_share 43 = .ok (.ifCond .ne 10, 3) := by decide +kernel
theorem dX9_share_46 : decode cX9_share 46 = .ok (.aload_n 0, 1) := by decide +kernel
theorem dX9_share_47 : decode cX9_share 47 = .ok (.getfield 111, 3) := by decide +kernel
theorem dX9_share_50 : decode cX9_share 50 = .ok (.goto 9, 3) := by decide +kernel
theorem dX9_share_53 : decode cX9_share 53 = .ok (.aload_n 0, 1) := by decide +kernel
theorem dX9_share_54 : decode cX9_share 54 = .ok (.getfield 34, 3) := by decide +kernel
theorem dX9_share_57 : decode cX9_share 57 = .ok (.iconst 0, 1) := by decide +kernel
theorem dX9_share_58 : decode cX9_share 58 = .ok (.iaload, 1) := by decide +kernel
theorem dX9_share_59 : decode cX9_share 59 = .ok (.iastore, 1) := by decide +kernel
theorem dX9_share_60 : decode cX9_share 60 = .ok (.iinc 3 1, 3) := by decide +kernel
theorem dX9_share_63 : decode cX9_share 63 = .ok (.goto (-46), 3) := by decide +kernel
theorem dX9_share_66 : decode cX9_share 66 = .ok (.iconst 0, 1) := by decide +kernel
theorem dX9_share_67 : decode cX9_share 67 = .ok (.istore_n 3, 1) := by decide +kernel
theorem dX9_share_68 : decode cX9_share 68 = .ok (.iconst 0, 1) := by decide +kernel
theorem dX9_share_69 : decode cX9_share 69 = .ok (.istore 4, 2) := by decide +kernel
theorem dX9_share_71 : decode cX9_share 71 = .ok (.iload 4, 2) := by decide +kernel
theorem dX9_share_73 : decode cX9_share 73 = .ok (.iconst 1, 1) := by decide +kernel
theorem dX9_share_74 : decode cX9_share 74 = .ok (.aload_n 0, 1) := by decide +kernel
theorem dX9_share_75 : decode cX9_share 75 = .ok (.getfield 69, 3) := by decide +kernel
theorem dX9_share_78 : decode cX9_share 78 = .ok (.ishl, 1) := by decide +kernel
theorem dX9_share_79 : decode cX9_share 79 = .ok (.if_icmp .ge 66, 3) := by decide +kernel
theorem dX9_share_82 : decode cX9_share 82 = .ok (.iload 4, 2) := by decide +kernel
theorem dX9_share_84 : decode cX9_share 84 = .ok (.iload_n 1, 1) := by decide +kernel
theorem dX9_share_85 : decode cX9_share 85 = .ok (.invokestatic 121, 3) := by decide +kernel
theorem dX9_share_88 : decode cX9_share 88 = .ok (.ifCond .ne 51, 3) := by decide +kernel
theorem dX9_share_91 : decode cX9_share 91 = .ok (.iload 4, 2) := by decide +kernel
theorem dX9_share_93 : decode cX9_share 93 = .ok (.invokestatic 220, 3) := by decide +kernel
theorem dX9_share_96 : decode cX9_share 96 = .ok (.istore 5, 2) := by decide +kernel
theorem dX9_share_98 : decode cX9_share 98 = .ok (.iload_n 3, 1) := by decide +kernel
theorem dX9_share_99 : decode cX9_share 99 = .ok (.iload 5, 2) := by decide +kernel
theorem dX9_share_101 : decode cX9_share 101 = .ok (.invokestatic 223, 3) := by decide +kernel
theorem dX9_share_104 : decode cX9_share 104 = .ok (.aload_n 0, 1) := by decide +kernel
theorem dX9_share_105 : decode cX9_share 105 = .ok (.getfield 69, 3) := by decide +kernel
theorem dX9_share_108 : decode cX9_share 108 = .ok (.iconst 1, 1) := by decide +kernel
theorem dX9_share_109 : decode cX9_share 109 = .ok (.isub, 1) := by decide +kernel
theorem dX9_share_110 : decode cX9_share 110 = .ok (.iload 5, 2) := by decide +kernel
theorem dX9_share_112 : decode cX9_share 112 = .ok (.isub, 1) := by decide +kernel
theorem dX9_share_113 : decode cX9_share 113 = .ok (.invokestatic 223, 3) := by decide +kernel
theorem dX9_share_116 : decode cX9_share 116 = .ok (.imul, 1) := by decide +kernel
theorem dX9_share_117 : decode cX9_share 117 = .ok (.aload_n 0, 1) := by decide +kernel
theorem dX9_share_118 : decode cX9_share 118 = .ok (.getfield 62, 3) := by decide +kernel
theorem dX9_share_121 : decode cX9_share 121 = .ok (.iload 4, 2) := by decide +kernel
theorem dX9_share_123 : decode cX9_share 123 = .ok (.iaload, 1) := by decide +kernel
theorem dX9_share_124 : decode cX9_share 124 = .ok (.aload_n 0, 1) := by decide +kernel
theorem dX9_share_125 : decode cX9_share 125 = .ok (.getfield 62, 3) := by decide +kernel
theorem dX9_share_128 : decode cX9_share 128 = .ok (.iload 4, 2) := by decide +kernel
theorem dX9_share_130 : decode cX9_share 130 = .ok (.iconst 1, 1) := by decide +kernel
theorem dX9_share_131 : decode cX9_share 131 = .ok (.iload_n 1, 1) := by decide +kernel
theorem dX9_share_132 : decode cX9_share 132 = .ok (.ishl, 1) := by decide +kernel
theorem dX9_share_133 : decode cX9_share 133 = .ok (.ior, 1) := by decide +kernel
theorem dX9_share_134 : decode cX9_share 134 = .ok (.iaload, 1) := by decide +kernel
theorem dX9_share_135 : decode cX9_share 135 = .ok (.isub, 1) := by decide +kernel
theorem dX9_share_136 : decode cX9_share 136 = .ok (.imul, 1) := by decide +kernel
theorem dX9_share_137 : decode cX9_share 137 = .ok (.iadd, 1) := by decide +kernel
theorem dX9_share_138 : decode cX9_share 138 = .ok (.istore_n 3, 1) := by decide +kernel
theorem dX9_share_139 : decode cX9_share 139 = .ok (.iinc 4 1, 3) := by decide +kernel
theorem dX9_share_142 : decode cX9_share 142 = .ok (.goto (-71), 3) := by decide +kernel
theorem dX9_share_145 : decode cX9_share 145 = .ok (.iload_n 3, 1) := by decide +kernel
theorem dX9_share_146 : decode cX9_share 146 = .ok (.aload_n 0, 1) := by decide +kernel
theorem dX9_share_147 : decode cX9_share 147 = .ok (.getfield 69, 3) := by decide +kernel
theorem dX9_share_150 : decode cX9_share 150 = .ok (.invokestatic 223, 3) := by decide +kernel
theorem dX9_share_153 : decode cX9_share 153 = .ok (.iload_n 2, 1) := by decide +kernel
theorem dX9_share_154 : decode cX9_share 154 = .ok (.invokestatic 226, 3) := by decide +kernel
theorem dX9_share_157 : decode cX9_share 157 = .ok (.ireturn, 1) := by decide +kernel
theorem dX9_attempt_0 : decode cX9_attempt 0 = .ok (.aload_n 0, 1) := by decide +kernel
theorem dX9_attempt_1 : decode cX9_attempt 1 = .ok (.iconst 0, 1) := by decide +kernel
theorem dX9_attempt_2 : decode cX9_attempt 2 = .ok (.putfield 65, 3) := by decide +kernel
theorem dX9_attempt_5 : decode cX9_attempt 5 = .ok (.iload_n 1, 1) := by decide +kernel
theorem dX9_attempt_6 : decode cX9_attempt 6 = .ok (.i2l, 1) := by decide +kernel
theorem dX9_attempt_7 : decode cX9_attempt 7 = .ok (.lconst 0, 1) := by decide +kernel
theorem dX9_attempt_8 : decode cX9_attempt 8 = .ok (.ldc2_w 230, 3) := by decide +kernel
theorem dX9_attempt_11 : decode cX9_attempt 11 = .ok (.invokestatic 72, 3) := by decide +kernel
theorem dX9_attempt_14 : decode cX9_attempt 14 = .ok (.ifCond .eq 25, 3) := by decide +kernel
theorem dX9_attempt_17 : decode cX9_attempt 17 = .ok (.iload_n 2, 1) := by decide +kernel
theorem dX9_attempt_18 : decode cX9_attempt 18 = .ok (.i2l, 1) := by decide +kernel
theorem dX9_attempt_19 : decode cX9_attempt 19 = .ok (.lconst 1, 1) := by decide +kernel
theorem dX9_attempt_20 : decode cX9_attempt 20 = .ok (.ldc2_w 232, 3) := by decide +kernel
theorem dX9_attempt_23 : decode cX9_attempt 23 = .ok (.invokestatic 72, 3) := by decide +kernel
theorem dX9_attempt_26 : decode cX9_attempt 26 = .ok (.ifCond .eq 13, 3) := by decide +kernel
theorem dX9_attempt_29 : decode cX9_attempt 29 = .ok (.iload_n 3, 1) := by decide +kernel
theorem dX9_attempt_30 : decode cX9_attempt 30 = .ok (.i2l, 1) := by decide +kernel
theorem dX9_attempt_31 : decode cX9_attempt 31 = .ok (.lconst 0, 1) := by decide +kernel
theorem dX9_attempt_32 : decode cX9_attempt 32 = .ok (.lconst 1, 1) := by decide +kernel
theorem dX9_attempt_33 : decode cX9_attempt 33 = .ok (.invokestatic 72, 3) := by decide +kernel
theorem dX9_attempt_36 : decode cX9_attempt 36 = .ok (.ifCond .ne 6, 3) := by decide +kernel
theorem dX9_attempt_39 : decode cX9_attempt 39 = .ok (.bipush (-2), 2) := by decide +kernel
theorem dX9_attempt_41 : decode cX9_attempt 41 = .ok (.ireturn, 1) := by decide +kernel
theorem dX9_attempt_42 : decode cX9_attempt 42 = .ok (.aload_n 0, 1) := by decide +kernel
theorem dX9_attempt_43 : decode cX9_attempt 43 = .ok (.getfield 151, 3) := by decide +kernel
theorem dX9_attempt_46 : decode cX9_attempt 46 = .ok (.bipush 6, 2) := by decide +kernel
theorem dX9_attempt_48 : decode cX9_attempt 48 = .ok (.if_icmp .ne 6, 3) := by decide +kernel
theorem dX9_attempt_51 : decode cX9_attempt 51 = .ok (.bipush (-4), 2) := by decide +kernel
theorem dX9_attempt_53 : decode cX9_attempt 53 = .ok (.ireturn, 1) := by decide +kernel
theorem dX9_attempt_54 : decode cX9_attempt 54 = .ok (.aload_n 0, 1) := by decide +kernel
theorem dX9_attempt_55 : decode cX9_attempt 55 = .ok (.getfield 50, 3) := by decide +kernel
theorem dX9_attempt_58 : decode cX9_attempt 58 = .ok (.aload_n 0, 1) := by decide +kernel
theorem dX9_attempt_59 : decode cX9_attempt 59 = .ok (.getfield 151, 3) := by decide +kernel
theorem dX9_attempt_62 : decode cX9_attempt 62 = .ok (.iload_n 1, 1) := by decide +kernel
theorem dX9_attempt_63 : decode cX9_attempt 63 = .ok (.iastore, 1) := by decide +kernel
theorem dX9_attempt_64 : decode cX9_attempt 64 = .ok (.aload_n 0, 1) := by decide +kernel
theorem dX9_attempt_65 : decode cX9_attempt 65 = .ok (.getfield 53, 3) := by decide +kernel
theorem dX9_attempt_68 : decode cX9_attempt 68 = .ok (.aload_n 0, 1) := by decide +kernel
theorem dX9_attempt_69 : decode cX9_attempt 69 = .ok (.getfield 151, 3) := by decide +kernel
theorem dX9_attempt_72 : decode cX9_attempt 72 = .ok (.iload_n 2, 1) := by decide +kernel
theorem dX9_attempt_73 : decode cX9_attempt 73 = .ok (.iastore, 1) := by decide +kernel
theorem dX9_attempt_74 : decode cX9_attempt 74 = .ok (.aload_n 0, 1) := by decide +kernel
theorem dX9_attempt_75 : decode cX9_attempt 75 = .ok (.getfield 56, 3) := by decide +kernel
theorem dX9_attempt_78 : decode cX9_attempt 78 = .ok (.aload_n 0, 1) := by decide +kernel
theorem dX9_attempt_79 : decode cX9_attempt 79 = .ok (.getfield 151, 3) := by decide +kernel
theorem dX9_attempt_82 : decode cX9_attempt 82 = .ok (.iload_n 3, 1) := by decide +kernel
theorem dX9_attempt_83 : decode cX9_attempt 83 = .ok (.iastore, 1) := by decide +kernel
theorem dX9_attempt_84 : decode cX9_attempt 84 = .ok (.aload_n 0, 1) := by decide +kernel
theorem dX9_attempt_85 : decode cX9_attempt 85 = .ok (.dup, 1) := by decide +kernel
theorem dX9_attempt_86 : decode cX9_attempt 86 = .ok (.getfield 151, 3) := by decide +kernel
theorem dX9_attempt_89 : decode cX9_attempt 89 = .ok (.iconst 1, 1) := by decide +kernel
theorem dX9_attempt_90 : decode cX9_attempt 90 = .ok (.iadd, 1) := by decide +kernel
theorem dX9_attempt_91 : decode cX9_attempt 91 = .ok (.putfield 151, 3) := by decide +kernel
theorem dX9_attempt_94 : decode cX9_attempt 94 = .ok (.aload_n 0, 1) := by decide +kernel
theorem dX9_attempt_95 : decode cX9_attempt 95 = .ok (.getfield 151, 3) := by decide +kernel
theorem dX9_attempt_98 : decode cX9_attempt 98 = .ok (.ireturn, 1) := by decide +kernel
theorem dX9_unattempt_0 : decode cX9_unattempt 0 = .ok (.aload_n 0, 1) := by decide +kernel
theorem dX9_unattempt_1 : decode cX9_unattempt 1 = .ok (.iconst 0, 1) := by decide +kernel
theorem dX9_unattempt_2 : decode cX9_unattempt 2 = .ok (.putfield 65, 3) := by decide +kernel
theorem dX9_unattempt_5 : decode cX9_unattempt 5 = .ok (.aload_n 0, 1) := by decide +kernel
theorem dX9_unattempt_6 : decode cX9_unattempt 6 = .ok (.getfield 151, 3) := by decide +kernel
theorem dX9_unattempt_9 : decode cX9_unattempt 9 = .ok (.istore_n 1, 1) := by decide +kernel
theorem dX9_unattempt_10 : decode cX9_unattempt 10 = .ok (.aload_n 0, 1) := by decide +kernel
theorem dX9_unattempt_11 : decode cX9_unattempt 11 = .ok (.iconst 0, 1) := by decide +kernel
theorem dX9_unattempt_12 : decode cX9_unattempt 12 = .ok (.putfield 151, 3) := by decide +kernel
theorem dX9_unattempt_15 : decode cX9_unattempt 15 = .ok (.iload_n 1, 1) := by decide +kernel
theorem dX9_unattempt_16 : decode cX9_unattempt 16 = .ok (.ireturn, 1) := by decide +kernel
theorem dX9_paces_0 : decode cX9_paces 0 = .ok (.aload_n 0, 1) := by decide +kernel
theorem dX9_paces_1 : decode cX9_paces 1 = .ok (.iconst 0, 1) := by decide +kernel
theorem dX9_paces_2 : decode cX9_paces 2 = .ok (.putfield 65, 3) := by decide +kernel
theorem dX9_paces_5 : decode cX9_paces 5 = .ok (.iload_n 1, 1) := by decide +kernel
theorem dX9_paces_6 : decode cX9_paces 6 = .ok (.i2l, 1) := by decide +kernel
theorem dX9_paces_7 : decode cX9_paces 7 = .ok (.lconst 0, 1) := by decide +kernel
theorem dX9_paces_8 : decode cX9_paces 8 = .ok (.lconst 1, 1) := by decide +kernel
theorem dX9_paces_9 : decode cX9_paces 9 = .ok (.invokestatic 72, 3) := by decide +kernel
end
section
theorem dX9_paces_12 : decode cX9_paces 12 = .ok (.ifCond .ne 6, 3) := by decide +kernel
theorem dX9_paces_15 : decode cX9_paces 15 = .ok (.bipush (-2), 2) := by decide +kernel
theorem dX9_paces_17 : decode cX9_paces 17 = .ok (.ireturn, 1) := by decide +kernel
theorem dX9_paces_18 : decode cX9_paces 18 = .ok (.aload_n 0, 1) := by decide +kernel
theorem dX9_paces_19 : decode cX9_paces 19 = .ok (.iconst 0, 1) := by decide +kernel
theorem dX9_paces_20 : decode cX9_paces 20 = .ok (.putfield 234, 3) := by decide +kernel
theorem dX9_paces_23 : decode cX9_paces 23 = .ok (.aload_n 0, 1) := by decide +kernel
theorem dX9_paces_24 : decode cX9_paces 24 = .ok (.bipush (-9), 2) := by decide +kernel
theorem dX9_paces_26 : decode cX9_paces 26 = .ok (.putfield 237, 3) := by decide +kernel
theorem dX9_paces_29 : decode cX9_paces 29 = .ok (.iconst 0, 1) := by decide +kernel
theorem dX9_paces_30 : decode cX9_paces 30 = .ok (.istore_n 2, 1) := by decide +kernel
theorem dX9_paces_31 : decode cX9_paces 31 = .ok (.iload_n 2, 1) := by decide +kernel
theorem dX9_paces_32 : decode cX9_paces 32 = .ok (.bipush 27, 2) := by decide +kernel
theorem dX9_paces_34 : decode cX9_paces 34 = .ok (.if_icmp .ge 147, 3) := by decide +kernel
theorem dX9_paces_37 : decode cX9_paces 37 = .ok (.iconst 1, 1) := by decide +kernel
theorem dX9_paces_38 : decode cX9_paces 38 = .ok (.istore_n 3, 1) := by decide +kernel
theorem dX9_paces_39 : decode cX9_paces 39 = .ok (.iconst 0, 1) := by decide +kernel
theorem dX9_paces_40 : decode cX9_paces 40 = .ok (.istore 4, 2) := by decide +kernel
theorem dX9_paces_42 : decode cX9_paces 42 = .ok (.iload 4, 2) := by decide +kernel
theorem dX9_paces_44 : decode cX9_paces 44 = .ok (.aload_n 0, 1) := by decide +kernel
theorem dX9_paces_45 : decode cX9_paces 45 = .ok (.getfield 151, 3) := by decide +kernel
theorem dX9_paces_48 : decode cX9_paces 48 = .ok (.if_icmp .ge 73, 3) := by decide +kernel
theorem dX9_paces_51 : decode cX9_paces 51 = .ok (.iload_n 3, 1) := by decide +kernel
theorem dX9_paces_52 : decode cX9_paces 52 = .ok (.ifCond .eq 61, 3) := by decide +kernel
theorem dX9_paces_55 : decode cX9_paces 55 = .ok (.iload_n 2, 1) := by decide +kernel
theorem dX9_paces_56 : decode cX9_paces 56 = .ok (.bipush 9, 2) := by decide +kernel
theorem dX9_paces_58 : decode cX9_paces 58 = .ok (.irem, 1) := by decide +kernel
theorem dX9_paces_59 : decode cX9_paces 59 = .ok (.iconst 1, 1) := by decide +kernel
theorem dX9_paces_60 : decode cX9_paces 60 = .ok (.iadd, 1) := by decide +kernel
theorem dX9_paces_61 : decode cX9_paces 61 = .ok (.iload_n 2, 1) := by decide +kernel
theorem dX9_paces_62 : decode cX9_paces 62 = .ok (.bipush 9, 2) := by decide +kernel
theorem dX9_paces_64 : decode cX9_paces 64 = .ok (.idiv, 1) := by decide +kernel
theorem dX9_paces_65 : decode cX9_paces 65 = .ok (.aload_n 0, 1) := by decide +kernel
theorem dX9_paces_66 : decode cX9_paces 66 = .ok (.getfield 50, 3) := by decide +kernel
theorem dX9_paces_69 : decode cX9_paces 69 = .ok (.iload 4, 2) := by decide +kernel
theorem dX9_paces_71 : decode cX9_paces 71 = .ok (.iaload, 1) := by decide +kernel
theorem dX9_paces_72 : decode cX9_paces 72 = .ok (.invokestatic 117, 3) := by decide +kernel
theorem dX9_paces_75 : decode cX9_paces 75 = .ok (.aload_n 0, 1) := by decide +kernel
theorem dX9_paces_76 : decode cX9_paces 76 = .ok (.getfield 53, 3) := by decide +kernel
theorem dX9_paces_79 : decode cX9_paces 79 = .ok (.iload 4, 2) := by decide +kernel
theorem dX9_paces_81 : decode cX9_paces 81 = .ok (.iaload, 1) := by decide +kernel
theorem dX9_paces_82 : decode cX9_paces 82 = .ok (.if_icmp .gt 7, 3) := by decide +kernel
theorem dX9_paces_85 : decode cX9_paces 85 = .ok (.iconst 1, 1) := by decide +kernel
theorem dX9_paces_86 : decode cX9_paces 86 = .ok (.goto 4, 3) := by decide +kernel
theorem dX9_paces_89 : decode cX9_paces 89 = .ok (.iconst 0, 1) := by decide +kernel
theorem dX9_paces_90 : decode cX9_paces 90 = .ok (.aload_n 0, 1) := by decide +kernel
theorem dX9_paces_91 : decode cX9_paces 91 = .ok (.getfield 56, 3) := by decide +kernel
theorem dX9_paces_94 : decode cX9_paces 94 = .ok (.iload 4, 2) := by decide +kernel
theorem dX9_paces_96 : decode cX9_paces 96 = .ok (.iaload, 1) := by decide +kernel
theorem dX9_paces_97 : decode cX9_paces 97 = .ok (.iconst 1, 1) := by decide +kernel
theorem dX9_paces_98 : decode cX9_paces 98 = .ok (.if_icmp .ne 7, 3) := by decide +kernel
theorem dX9_paces_101 : decode cX9_paces 101 = .ok (.iconst 1, 1) := by decide +kernel
theorem dX9_paces_102 : decode cX9_paces 102 = .ok (.goto 4, 3) := by decide +kernel
theorem dX9_paces_105 : decode cX9_paces 105 = .ok (.iconst 0, 1) := by decide +kernel
theorem dX9_paces_106 : decode cX9_paces 106 = .ok (.if_icmp .ne 7, 3) := by decide +kernel
theorem dX9_paces_109 : decode cX9_paces 109 = .ok (.iconst 1, 1) := by decide +kernel
theorem dX9_paces_110 : decode cX9_paces 110 = .ok (.goto 4, 3) := by decide +kernel
theorem dX9_paces_113 : decode cX9_paces 113 = .ok (.iconst 0, 1) := by decide +kernel
theorem dX9_paces_114 : decode cX9_paces 114 = .ok (.istore_n 3, 1) := by decide +kernel
theorem dX9_paces_115 : decode cX9_paces 115 = .ok (.iinc 4 1, 3) := by decide +kernel
theorem dX9_paces_118 : decode cX9_paces 118 = .ok (.goto (-76), 3) := by decide +kernel
theorem dX9_paces_121 : decode cX9_paces 121 = .ok (.aload_n 0, 1) := by decide +kernel
theorem dX9_paces_122 : decode cX9_paces 122 = .ok (.iload_n 3, 1) := by decide +kernel
theorem dX9_paces_123 : decode cX9_paces 123 = .ok (.ifCond .eq 27, 3) := by decide +kernel
theorem dX9_paces_126 : decode cX9_paces 126 = .ok (.aload_n 0, 1) := by decide +kernel
theorem dX9_paces_127 : decode cX9_paces 127 = .ok (.getfield 234, 3) := by decide +kernel
theorem dX9_paces_130 : decode cX9_paces 130 = .ok (.ifCond .ne 20, 3) := by decide +kernel
theorem dX9_paces_133 : decode cX9_paces 133 = .ok (.bipush 10, 2) := by decide +kernel
theorem dX9_paces_135 : decode cX9_paces 135 = .ok (.iload_n 2, 1) := by decide +kernel
theorem dX9_paces_136 : decode cX9_paces 136 = .ok (.bipush 9, 2) := by decide +kernel
theorem dX9_paces_138 : decode cX9_paces 138 = .ok (.idiv, 1) := by decide +kernel
theorem dX9_paces_139 : decode cX9_paces 139 = .ok (.imul, 1) := by decide +kernel
theorem dX9_paces_140 : decode cX9_paces 140 = .ok (.iload_n 2, 1) := by decide +kernel
theorem dX9_paces_141 : decode cX9_paces 141 = .ok (.bipush 9, 2) := by decide +kernel
theorem dX9_paces_143 : decode cX9_paces 143 = .ok (.irem, 1) := by decide +kernel
theorem dX9_paces_144 : decode cX9_paces 144 = .ok (.iadd, 1) := by decide +kernel
theorem dX9_paces_145 : decode cX9_paces 145 = .ok (.iconst 1, 1) := by decide +kernel
theorem dX9_paces_146 : decode cX9_paces 146 = .ok (.iadd, 1) := by decide +kernel
theorem dX9_paces_147 : decode cX9_paces 147 = .ok (.goto 7, 3) := by decide +kernel
theorem dX9_paces_150 : decode cX9_paces 150 = .ok (.aload_n 0, 1) := by decide +kernel
theorem dX9_paces_151 : decode cX9_paces 151 = .ok (.getfield 237, 3) := by decide +kernel
theorem dX9_paces_154 : decode cX9_paces 154 = .ok (.putfield 237, 3) := by decide +kernel
theorem dX9_paces_157 : decode cX9_paces 157 = .ok (.aload_n 0, 1) := by decide +kernel
theorem dX9_paces_158 : decode cX9_paces 158 = .ok (.dup, 1) := by decide +kernel
theorem dX9_paces_159 : decode cX9_paces 159 = .ok (.getfield 234, 3) := by decide +kernel
theorem dX9_paces_162 : decode cX9_paces 162 = .ok (.iload_n 3, 1) := by decide +kernel
theorem dX9_paces_163 : decode cX9_paces 163 = .ok (.ifCond .eq 7, 3) := by decide +kernel
theorem dX9_paces_166 : decode cX9_paces 166 = .ok (.iconst 1, 1) := by decide +kernel
theorem dX9_paces_167 : decode cX9_paces 167 = .ok (.goto 4, 3) := by decide +kernel
theorem dX9_paces_170 : decode cX9_paces 170 = .ok (.iconst 0, 1) := by decide +kernel
theorem dX9_paces_171 : decode cX9_paces 171 = .ok (.iadd, 1) := by decide +kernel
theorem dX9_paces_172 : decode cX9_paces 172 = .ok (.putfield 234, 3) := by decide +kernel
theorem dX9_paces_175 : decode cX9_paces 175 = .ok (.iinc 2 1, 3) := by decide +kernel
theorem dX9_paces_178 : decode cX9_paces 178 = .ok (.goto (-147), 3) := by decide +kernel
theorem dX9_paces_181 : decode cX9_paces 181 = .ok (.iload_n 1, 1) := by decide +kernel
theorem dX9_paces_182 : decode cX9_paces 182 = .ok (.ifCond .ne 10, 3) := by decide +kernel
theorem dX9_paces_185 : decode cX9_paces 185 = .ok (.aload_n 0, 1) := by decide +kernel
theorem dX9_paces_186 : decode cX9_paces 186 = .ok (.getfield 234, 3) := by decide +kernel
theorem dX9_paces_189 : decode cX9_paces 189 = .ok (.goto 7, 3) := by decide +kernel
theorem dX9_paces_192 : decode cX9_paces 192 = .ok (.aload_n 0, 1) := by decide +kernel
theorem dX9_paces_193 : decode cX9_paces 193 = .ok (.getfield 237, 3) := by decide +kernel
theorem dX9_paces_196 : decode cX9_paces 196 = .ok (.ireturn, 1) := by decide +kernel
theorem dX9_rests_0 : decode cX9_rests 0 = .ok (.aload_n 0, 1) := by decide +kernel
theorem dX9_rests_1 : decode cX9_rests 1 = .ok (.iconst 0, 1) := by decide +kernel
theorem dX9_rests_2 : decode cX9_rests 2 = .ok (.putfield 65, 3) := by decide +kernel
theorem dX9_rests_5 : decode cX9_rests 5 = .ok (.aload_n 0, 1) := by decide +kernel
theorem dX9_rests_6 : decode cX9_rests 6 = .ok (.iload_n 1, 1) := by decide +kernel
theorem dX9_rests_7 : decode cX9_rests 7 = .ok (.invokevirtual 154, 3) := by decide +kernel
theorem dX9_rests_10 : decode cX9_rests 10 = .ok (.ifCond .ne 11, 3) := by decide +kernel
theorem dX9_rests_13 : decode cX9_rests 13 = .ok (.aload_n 0, 1) := by decide +kernel
theorem dX9_rests_14 : decode cX9_rests 14 = .ok (.iload_n 2, 1) := by decide +kernel
theorem dX9_rests_15 : decode cX9_rests 15 = .ok (.invokevirtual 154, 3) := by decide +kernel
theorem dX9_rests_18 : decode cX9_rests 18 = .ok (.ifCond .eq 5, 3) := by decide +kernel
theorem dX9_rests_21 : decode cX9_rests 21 = .ok (.iconst (-1), 1) := by decide +kernel
theorem dX9_rests_22 : decode cX9_rests 22 = .ok (.ireturn, 1) := by decide +kernel
theorem dX9_rests_23 : decode cX9_rests 23 = .ok (.iload_n 1, 1) := by decide +kernel
theorem dX9_rests_24 : decode cX9_rests 24 = .ok (.iload_n 2, 1) := by decide +kernel
theorem dX9_rests_25 : decode cX9_rests 25 = .ok (.if_icmp .eq 13, 3) := by decide +kernel
theorem dX9_rests_28 : decode cX9_rests 28 = .ok (.iload_n 3, 1) := by decide +kernel
theorem dX9_rests_29 : decode cX9_rests 29 = .ok (.i2l, 1) := by decide +kernel
theorem dX9_rests_30 : decode cX9_rests 30 = .ok (.lconst 0, 1) := by decide +kernel
theorem dX9_rests_31 : decode cX9_rests 31 = .ok (.lconst 1, 1) := by decide +kernel
theorem dX9_rests_32 : decode cX9_rests 32 = .ok (.invokestatic 72, 3) := by decide +kernel
theorem dX9_rests_35 : decode cX9_rests 35 = .ok (.ifCond .ne 6, 3) := by decide +kernel
theorem dX9_rests_38 : decode cX9_rests 38 = .ok (.bipush (-2), 2) := by decide +kernel
theorem dX9_rests_40 : decode cX9_rests 40 = .ok (.ireturn, 1) := by decide +kernel
theorem dX9_rests_41 : decode cX9_rests 41 = .ok (.iconst 0, 1) := by decide +kernel
theorem dX9_rests_42 : decode cX9_rests 42 = .ok (.istore 4, 2) := by decide +kernel
theorem dX9_rests_44 : decode cX9_rests 44 = .ok (.iload 4, 2) := by decide +kernel
theorem dX9_rests_46 : decode cX9_rests 46 = .ok (.iconst 4, 1) := by decide +kernel
theorem dX9_rests_47 : decode cX9_rests 47 = .ok (.if_icmp .ge 135, 3) := by decide +kernel
theorem dX9_rests_50 : decode cX9_rests 50 = .ok (.aload_n 0, 1) := by decide +kernel
theorem dX9_rests_51 : decode cX9_rests 51 = .ok (.invokevirtual 169, 3) := by decide +kernel
theorem dX9_rests_54 : decode cX9_rests 54 = .ok (.iload 4, 2) := by decide +kernel
theorem dX9_rests_56 : decode cX9_rests 56 = .ok (.iconst 1, 1) := by decide +kernel
theorem dX9_rests_57 : decode cX9_rests 57 = .ok (.if_icmp .le 11, 3) := by decide +kernel
theorem dX9_rests_60 : decode cX9_rests 60 = .ok (.aload_n 0, 1) := by decide +kernel
theorem dX9_rests_61 : decode cX9_rests 61 = .ok (.getfield 34, 3) := by decide +kernel
theorem dX9_rests_64 : decode cX9_rests 64 = .ok (.iload_n 1, 1) := by decide +kernel
theorem dX9_rests_65 : decode cX9_rests 65 = .ok (.invokestatic 139, 3) := by decide +kernel
theorem dX9_rests_68 : decode cX9_rests 68 = .ok (.iload 4, 2) := by decide +kernel
theorem dX9_rests_70 : decode cX9_rests 70 = .ok (.iconst 2, 1) := by decide +kernel
theorem dX9_rests_71 : decode cX9_rests 71 = .ok (.irem, 1) := by decide +kernel
theorem dX9_rests_72 : decode cX9_rests 72 = .ok (.iconst 1, 1) := by decide +kernel
theorem dX9_rests_73 : decode cX9_rests 73 = .ok (.if_icmp .ne 11, 3) := by decide +kernel
theorem dX9_rests_76 : decode cX9_rests 76 = .ok (.aload_n 0, 1) := by decide +kernel
theorem dX9_rests_77 : decode cX9_rests 77 = .ok (.getfield 34, 3) := by decide +kernel
theorem dX9_rests_80 : decode cX9_rests 80 = .ok (.iload_n 2, 1) := by decide +kernel
theorem dX9_rests_81 : decode cX9_rests 81 = .ok (.invokestatic 139, 3) := by decide +kernel
theorem dX9_rests_84 : decode cX9_rests 84 = .ok (.aload_n 0, 1) := by decide +kernel
theorem dX9_rests_85 : decode cX9_rests 85 = .ok (.iconst 3, 1) := by decide +kernel
theorem dX9_rests_86 : decode cX9_rests 86 = .ok (.bipush 31, 2) := by decide +kernel
theorem dX9_rests_88 : decode cX9_rests 88 = .ok (.invokevirtual 172, 3) := by decide +kernel
theorem dX9_rests_91 : decode cX9_rests 91 = .ok (.aload_n 0, 1) := by decide +kernel
theorem dX9_rests_92 : decode cX9_rests 92 = .ok (.getfield 34, 3) := by decide +kernel
theorem dX9_rests_95 : decode cX9_rests 95 = .ok (.iconst 0, 1) := by decide +kernel
theorem dX9_rests_96 : decode cX9_rests 96 = .ok (.iaload, 1) := by decide +kernel
theorem dX9_rests_97 : decode cX9_rests 97 = .ok (.aload_n 0, 1) := by decide +kernel
theorem dX9_rests_98 : decode cX9_rests 98 = .ok (.getfield 31, 3) := by decide +kernel
theorem dX9_rests_101 : decode cX9_rests 101 = .ok (.iconst 0, 1) := by decide +kernel
theorem dX9_rests_102 : decode cX9_rests 102 = .ok (.iaload, 1) := by decide +kernel
theorem dX9_rests_103 : decode cX9_rests 103 = .ok (.isub, 1) := by decide +kernel
theorem dX9_rests_104 : decode cX9_rests 104 = .ok (.istore 5, 2) := by decide +kernel
theorem dX9_rests_106 : decode cX9_rests 106 = .ok (.aload_n 0, 1) := by decide +kernel
theorem dX9_rests_107 : decode cX9_rests 107 = .ok (.aload_n 0, 1) := by decide +kernel
theorem dX9_rests_108 : decode cX9_rests 108 = .ok (.getfield 34, 3) := by decide +kernel
theorem dX9_rests_111 : decode cX9_rests 111 = .ok (.bipush 31, 2) := by decide +kernel
theorem dX9_rests_113 : decode cX9_rests 113 = .ok (.invokevirtual 133, 3) := by decide +kernel
theorem dX9_rests_116 : decode cX9_rests 116 = .ok (.istore 6, 2) := by decide +kernel
theorem dX9_rests_118 : decode cX9_rests 118 = .ok (.aload_n 0, 1) := by decide +kernel
theorem dX9_rests_119 : decode cX9_rests 119 = .ok (.getfield 59, 3) := by decide +kernel
theorem dX9_rests_122 : decode cX9_rests 122 = .ok (.iconst 2, 1) := by decide +kernel
theorem dX9_rests_123 : decode cX9_rests 123 = .ok (.iload 4, 2) := by decide +kernel
theorem dX9_rests_125 : decode cX9_rests 125 = .ok (.imul, 1) := by decide +kernel
theorem dX9_rests_126 : decode cX9_rests 126 = .ok (.iload 5, 2) := by decide +kernel
theorem dX9_rests_128 : decode cX9_rests 128 = .ok (.iload 6, 2) := by decide +kernel
theorem dX9_rests_130 : decode cX9_rests 130 = .ok (.iload_n 1, 1) := by decide +kernel
theorem dX9_rests_131 : decode cX9_rests 131 = .ok (.if_icmp .ne 7, 3) := by decide +kernel
theorem dX9_rests_134 : decode cX9_rests 134 = .ok (.iconst 4, 1) := by decide +kernel
theorem dX9_rests_135 : decode cX9_rests 135 = .ok (.goto 4, 3) := by decide +kernel
theorem dX9_rests_138 : decode cX9_rests 138 = .ok (.iconst 0, 1) := by decide +kernel
theorem dX9_rests_139 : decode cX9_rests 139 = .ok (.iadd, 1) := by decide +kernel
theorem dX9_rests_140 : decode cX9_rests 140 = .ok (.iload 4, 2) := by decide +kernel
theorem dX9_rests_142 : decode cX9_rests 142 = .ok (.iconst 2, 1) := by decide +kernel
theorem dX9_rests_143 : decode cX9_rests 143 = .ok (.idiv, 1) := by decide +kernel
theorem dX9_rests_144 : decode cX9_rests 144 = .ok (.isub, 1) := by decide +kernel
theorem dX9_rests_145 : decode cX9_rests 145 = .ok (.iastore, 1) := by decide +kernel
theorem dX9_rests_146 : decode cX9_rests 146 = .ok (.aload_n 0, 1) := by decide +kernel
theorem dX9_rests_147 : decode cX9_rests 147 = .ok (.getfield 59, 3) := by decide +kernel
theorem dX9_rests_150 : decode cX9_rests 150 = .ok (.iconst 2, 1) := by decide +kernel
theorem dX9_rests_151 : decode cX9_rests 151 = .ok (.iload 4, 2) := by decide +kernel
theorem dX9_rests_153 : decode cX9_rests 153 = .ok (.imul, 1) := by decide +kernel
theorem dX9_rests_154 : decode cX9_rests 154 = .ok (.iconst 1, 1) := by decide +kernel
theorem dX9_rests_155 : decode cX9_rests 155 = .ok (.iadd, 1) := by decide +kernel
theorem dX9_rests_156 : decode cX9_rests 156 = .ok (.iload 5, 2) := by decide +kernel
theorem dX9_rests_158 : decode cX9_rests 158 = .ok (.iload 6, 2) := by decide +kernel
theorem dX9_rests_160 : decode cX9_rests 160 = .ok (.iload_n 2, 1) := by decide +kernel
theorem dX9_rests_161 : decode cX9_rests 161 = .ok (.if_icmp .ne 7, 3) := by decide +kernel
theorem dX9_rests_164 : decode cX9_rests 164 = .ok (.iconst 4, 1) := by decide +kernel
theorem dX9_rests_165 : decode cX9_rests 165 = .ok (.goto 4, 3) := by decide +kernel
theorem dX9_rests_168 : decode cX9_rests 168 = .ok (.iconst 0, 1) := by decide +kernel
theorem dX9_rests_169 : decode cX9_rests 169 = .ok (.iadd, 1) := by decide +kernel
theorem dX9_rests_170 : decode cX9_rests 170 = .ok (.iload 4, 2) := by decide +kernel
theorem dX9_rests_172 : decode cX9_rests 172 = .ok (.iconst 2, 1) := by decide +kernel
theorem dX9_rests_173 : decode cX9_rests 173 = .ok (.irem, 1) := by decide +kernel
theorem dX9_rests_174 : decode cX9_rests 174 = .ok (.isub, 1) := by decide +kernel
theorem dX9_rests_175 : decode cX9_rests 175 = .ok (.iastore, 1) := by decide +kernel
theorem dX9_rests_176 : decode cX9_rests 176 = .ok (.iinc 4 1, 3) := by decide +kernel
theorem dX9_rests_179 : decode cX9_rests 179 = .ok (.goto (-135), 3) := by decide +kernel
theorem dX9_rests_182 : decode cX9_rests 182 = .ok (.aload_n 0, 1) := by decide +kernel
theorem dX9_rests_183 : decode cX9_rests 183 = .ok (.iconst 0, 1) := by decide +kernel
theorem dX9_rests_184 : decode cX9_rests 184 = .ok (.putfield 240, 3) := by decide +kernel
theorem dX9_rests_187 : decode cX9_rests 187 = .ok (.aload_n 0, 1) := by decide +kernel
theorem dX9_rests_188 : decode cX9_rests 188 = .ok (.bipush (-9), 2) := by decide +kernel
theorem dX9_rests_190 : decode cX9_rests 190 = .ok (.putfield 243, 3) := by decide +kernel
theorem dX9_rests_193 : decode cX9_rests 193 = .ok (.iconst 0, 1) := by decide +kernel
theorem dX9_rests_194 : decode cX9_rests 194 = .ok (.istore 4, 2) := by decide +kernel
theorem dX9_rests_196 : decode cX9_rests 196 = .ok (.iload 4, 2) := by decide +kernel
theorem dX9_rests_198 : decode cX9_rests 198 = .ok (.iconst 4, 1) := by decide +kernel
theorem dX9_rests_199 : decode cX9_rests 199 = .ok (.if_icmp .ge 120, 3) := by decide +kernel
theorem dX9_rests_202 : decode cX9_rests 202 = .ok (.aload_n 0, 1) := by decide +kernel
theorem dX9_rests_203 : decode cX9_rests 203 = .ok (.getfield 59, 3) := by decide +kernel
theorem dX9_rests_206 : decode cX9_rests 206 = .ok (.iconst 2, 1) := by decide +kernel
theorem dX9_rests_207 : decode cX9_rests 207 = .ok (.iload 4, 2) := by decide +kernel
theorem dX9_rests_209 : decode cX9_rests 209 = .ok (.iconst 2, 1) := by decide +kernel
theorem dX9_rests_210 : decode cX9_rests 210 = .ok (.ixor, 1) := by decide +kernel
theorem dX9_rests_211 : decode cX9_rests 211 = .ok (.imul, 1) := by decide +kernel
theorem dX9_rests_212 : decode cX9_rests 212 = .ok (.iaload, 1) := by decide +kernel
theorem dX9_rests_213 : decode cX9_rests 213 = .ok (.aload_n 0, 1) := by decide +kernel
theorem dX9_rests_214 : decode cX9_rests 214 = .ok (.getfield 59, 3) := by decide +kernel
theorem dX9_rests_217 : decode cX9_rests 217 = .ok (.iconst 2, 1) := by decide +kernel
theorem dX9_rests_218 : decode cX9_rests 218 = .ok (.iload 4, 2) := by decide +kernel
theorem dX9_rests_220 : decode cX9_rests 220 = .ok (.imul, 1) := by decide +kernel
theorem dX9_rests_221 : decode cX9_rests 221 = .ok (.iaload, 1) := by decide +kernel
theorem dX9_rests_222 : decode cX9_rests 222 = .ok (.if_icmp .gt 34, 3) := by decide +kernel
theorem dX9_rests_225 : decode cX9_rests 225 = .ok (.aload_n 0, 1) := by decide +kernel
theorem dX9_rests_226 : decode cX9_rests 226 = .ok (.getfield 59, 3) := by decide +kernel
theorem dX9_rests_229 : decode cX9_rests 229 = .ok (.iconst 2, 1) := by decide +kernel
theorem dX9_rests_230 : decode cX9_rests 230 = .ok (.iload 4, 2) := by decide +kernel
theorem dX9_rests_232 : decode cX9_rests 232 = .ok (.iconst 1, 1) := by decide +kernel
theorem dX9_rests_233 : decode cX9_rests 233 = .ok (.ixor, 1) := by decide +kernel
theorem dX9_rests_234 : decode cX9_rests 234 = .ok (.imul, 1) := by decide +kernel
theorem dX9_rests_235 : decode cX9_rests 235 = .ok (.iconst 1, 1) := by decide +kernel
theorem dX9_rests_236 : decode cX9_rests 236 = .ok (.iadd, 1) := by decide +kernel
theorem dX9_rests_237 : decode cX9_rests 237 = .ok (.iaload, 1) := by decide +kernel
theorem dX9_rests_238 : decode cX9_rests 238 = .ok (.aload_n 0, 1) := by decide +kernel
theorem dX9_rests_239 : decode cX9_rests 239 = .ok (.getfield 59, 3) := by decide +kernel
theorem dX9_rests_242 : decode cX9_rests 242 = .ok (.iconst 2, 1) := by decide +kernel
theorem dX9_rests_243 : decode cX9_rests 243 = .ok (.iload 4, 2) := by decide +kernel
theorem dX9_rests_245 : decode cX9_rests 245 = .ok (.imul, 1) := by decide +kernel
theorem dX9_rests_246 : decode cX9_rests 246 = .ok (.iconst 1, 1) := by decide +kernel
theorem dX9_rests_247 : decode cX9_rests 247 = .ok (.iadd, 1) := by decide +kernel
theorem dX9_rests_248 : decode cX9_rests 248 = .ok (.iaload, 1) := by decide +kernel
theorem dX9_rests_249 : decode cX9_rests 249 = .ok (.if_icmp .gt 7, 3) := by decide +kernel
theorem dX9_rests_252 : decode cX9_rests 252 = .ok (.iconst 1, 1) := by decide +kernel
theorem dX9_rests_253 : decode cX9_rests 253 = .ok (.goto 4, 3) := by decide +kernel
theorem dX9_rests_256 : decode cX9_rests 256 = .ok (.iconst 0, 1) := by decide +kernel
theorem dX9_rests_257 : decode cX9_rests 257 = .ok (.istore 5, 2) := by decide +kernel
theorem dX9_rests_259 : decode cX9_rests 259 = .ok (.aload_n 0, 1) := by decide +kernel
theorem dX9_rests_260 : decode cX9_rests 260 = .ok (.iload 5, 2) := by decide +kernel
theorem dX9_rests_262 : decode cX9_rests 262 = .ok (.ifCond .eq 25, 3) := by decide +kernel
theorem dX9_rests_265 : decode cX9_rests 265 = .ok (.aload_n 0, 1) := by decide +kernel
theorem dX9_rests_266 : decode cX9_rests 266 = .ok (.getfield 240, 3) := by decide +kernel
theorem dX9_rests_269 : decode cX9_rests 269 = .ok (.ifCond .ne 18, 3) := by decide +kernel
theorem dX9_rests_272 : decode cX9_rests 272 = .ok (.bipush 10, 2) := by decide +kernel
theorem dX9_rests_274 : decode cX9_rests 274 = .ok (.iload 4, 2) := by decide +kernel
theorem dX9_rests_276 : decode cX9_rests 276 = .ok (.iconst 2, 1) := by decide +kernel
theorem dX9_rests_277 : decode cX9_rests 277 = .ok (.idiv, 1) := by decide +kernel
theorem dX9_rests_278 : decode cX9_rests 278 = .ok (.imul, 1) := by decide +kernel
theorem dX9_rests_279 : decode cX9_rests 279 = .ok (.iload 4, 2) := by decide +kernel
theorem dX9_rests_281 : decode cX9_rests 281 = .ok (.iconst 2, 1) := by decide +kernel
theorem dX9_rests_282 : decode cX9_rests 282 = .ok (.irem, 1) := by decide +kernel
theorem dX9_rests_283 : decode cX9_rests 283 = .ok (.iadd, 1) := by decide +kernel
theorem dX9_rests_284 : decode cX9_rests 284 = .ok (.goto 7, 3) := by decide +kernel
theorem dX9_rests_287 : decode cX9_rests 287 = .ok (.aload_n 0, 1) := by decide +kernel
theorem dX9_rests_288 : decode cX9_rests 288 = .ok (.getfield 243, 3) := by decide +kernel
theorem dX9_rests_291 : decode cX9_rests 291 = .ok (.putfield 243, 3) := by decide +kernel
theorem dX9_rests_294 : decode cX9_rests 294 = .ok (.aload_n 0, 1) := by decide +kernel
theorem dX9_rests_295 : decode cX9_rests 295 = .ok (.dup, 1) := by decide +kernel
theorem dX9_rests_296 : decode cX9_rests 296 = .ok (.getfield 240, 3) := by decide +kernel
theorem dX9_rests_299 : decode cX9_rests 299 = .ok (.iload 5, 2) := by decide +kernel
theorem dX9_rests_301 : decode cX9_rests 301 = .ok (.ifCond .eq 7, 3) := by decide +kernel
theorem dX9_rests_304 : decode cX9_rests 304 = .ok (.iconst 1, 1) := by decide +kernel
theorem dX9_rests_305 : decode cX9_rests 305 = .ok (.goto 4, 3) := by decide +kernel
theorem dX9_rests_308 : decode cX9_rests 308 = .ok (.iconst 0, 1) := by decide +kernel
theorem dX9_rests_309 : decode cX9_rests 309 = .ok (.iadd, 1) := by decide +kernel
theorem dX9_rests_310 : decode cX9_rests 310 = .ok (.putfield 240, 3) := by decide +kernel
theorem dX9_rests_313 : decode cX9_rests 313 = .ok (.iinc 4 1, 3) := by decide +kernel
theorem dX9_rests_316 : decode cX9_rests 316 = .ok (.goto (-120), 3) := by decide +kernel
theorem dX9_rests_319 : decode cX9_rests 319 = .ok (.iload_n 3, 1) := by decide +kernel
theorem dX9_rests_320 : decode cX9_rests 320 = .ok (.ifCond .ne 10, 3) := by decide +kernel
theorem dX9_rests_323 : decode cX9_rests 323 = .ok (.aload_n 0, 1) := by decide +kernel
theorem dX9_rests_324 : decode cX9_rests 324 = .ok (.getfield 240, 3) := by decide +kernel
theorem dX9_rests_327 : decode cX9_rests 327 = .ok (.goto 7, 3) := by decide +kernel
theorem dX9_rests_330 : decode cX9_rests 330 = .ok (.aload_n 0, 1) := by decide +kernel
theorem dX9_rests_331 : decode cX9_rests 331 = .ok (.getfield 243, 3) := by decide +kernel
theorem dX9_rests_334 : decode cX9_rests 334 = .ok (.ireturn, 1) := by decide +kernel
theorem dX9_thorny_0 : decode cX9_thorny 0 = .ok (.aload_n 0, 1) := by decide +kernel
theorem dX9_thorny_1 : decode cX9_thorny 1 = .ok (.iconst 0, 1) := by decide +kernel
theorem dX9_thorny_2 : decode cX9_thorny 2 = .ok (.putfield 65, 3) := by decide +kernel
theorem dX9_thorny_5 : decode cX9_thorny 5 = .ok (.iload_n 1, 1) := by decide +kernel
theorem dX9_thorny_6 : decode cX9_thorny 6 = .ok (.i2l, 1) := by decide +kernel
theorem dX9_thorny_7 : decode cX9_thorny 7 = .ok (.lconst 0, 1) := by decide +kernel
theorem dX9_thorny_8 : decode cX9_thorny 8 = .ok (.ldc2_w 194, 3) := by decide +kernel
theorem dX9_thorny_11 : decode cX9_thorny 11 = .ok (.invokestatic 72, 3) := by decide +kernel
theorem dX9_thorny_14 : decode cX9_thorny 14 = .ok (.ifCond .eq 15, 3) := by decide +kernel
theorem dX9_thorny_17 : decode cX9_thorny 17 = .ok (.iload_n 2, 1) := by decide +kernel
theorem dX9_thorny_18 : decode cX9_thorny 18 = .ok (.i2l, 1) := by decide +kernel
theorem dX9_thorny_19 : decode cX9_thorny 19 = .ok (.lconst 0, 1) := by decide +kernel
theorem dX9_thorny_20 : decode cX9_thorny 20 = .ok (.ldc2_w 246, 3) := by decide +kernel
theorem dX9_thorny_23 : decode cX9_thorny 23 = .ok (.invokestatic 72, 3) := by decide +kernel
theorem dX9_thorny_26 : decode cX9_thorny 26 = .ok (.ifCond .ne 6, 3) := by decide +kernel
theorem dX9_thorny_29 : decode cX9_thorny 29 = .ok (.bipush (-2), 2) := by decide +kernel
theorem dX9_thorny_31 : decode cX9_thorny 31 = .ok (.ireturn, 1) := by decide +kernel
theorem dX9_thorny_32 : decode cX9_thorny 32 = .ok (.iconst 0, 1) := by decide +kernel
theorem dX9_thorny_33 : decode cX9_thorny 33 = .ok (.istore 4, 2) := by decide +kernel
theorem dX9_thorny_35 : decode cX9_thorny 35 = .ok (.iconst 0, 1) := by decide +kernel
theorem dX9_thorny_36 : decode cX9_thorny 36 = .ok (.istore 5, 2) := by decide +kernel
theorem dX9_thorny_38 : decode cX9_thorny 38 = .ok (.iload 5, 2) := by decide +kernel
theorem dX9_thorny_40 : decode cX9_thorny 40 = .ok (.iconst 1, 1) := by decide +kernel
theorem dX9_thorny_41 : decode cX9_thorny 41 = .ok (.aload_n 0, 1) := by decide +kernel
theorem dX9_thorny_42 : decode cX9_thorny 42 = .ok (.getfield 69, 3) := by decide +kernel
theorem dX9_thorny_45 : decode cX9_thorny 45 = .ok (.ishl, 1) := by decide +kernel
theorem dX9_thorny_46 : decode cX9_thorny 46 = .ok (.if_icmp .ge 106, 3) := by decide +kernel
theorem dX9_thorny_49 : decode cX9_thorny 49 = .ok (.aload_n 0, 1) := by decide +kernel
theorem dX9_thorny_50 : decode cX9_thorny 50 = .ok (.invokevirtual 169, 3) := by decide +kernel
theorem dX9_thorny_53 : decode cX9_thorny 53 = .ok (.iconst 0, 1) := by decide +kernel
theorem dX9_thorny_54 : decode cX9_thorny 54 = .ok (.istore 6, 2) := by decide +kernel
theorem dX9_thorny_56 : decode cX9_thorny 56 = .ok (.iload 6, 2) := by decide +kernel
theorem dX9_thorny_58 : decode cX9_thorny 58 = .ok (.aload_n 0, 1) := by decide +kernel
theorem dX9_thorny_59 : decode cX9_thorny 59 = .ok (.getfield 69, 3) := by decide +kernel
theorem dX9_thorny_62 : decode cX9_thorny 62 = .ok (.if_icmp .ge 28, 3) := by decide +kernel
theorem dX9_thorny_65 : decode cX9_thorny 65 = .ok (.iload 5, 2) := by decide +kernel
theorem dX9_thorny_67 : decode cX9_thorny 67 = .ok (.iload 6, 2) := by decide +kernel
theorem dX9_thorny_69 : decode cX9_thorny 69 = .ok (.invokestatic 121, 3) := by decide +kernel
theorem dX9_thorny_72 : decode cX9_thorny 72 = .ok (.ifCond .eq 12, 3) := by decide +kernel
theorem dX9_thorny_75 : decode cX9_thorny 75 = .ok (.aload_n 0, 1) := by decide +kernel
theorem dX9_thorny_76 : decode cX9_thorny 76 = .ok (.getfield 34, 3) := by decide +kernel
theorem dX9_thorny_79 : decode cX9_thorny 79 = .ok (.iload 6, 2) := by decide +kernel
theorem dX9_thorny_81 : decode cX9_thorny 81 = .ok (.invokestatic 139, 3) := by decide +kernel
theorem dX9_thorny_84 : decode cX9_thorny 84 = .ok (.iinc 6 1, 3) := by decide +kernel
theorem dX9_thorny_87 : decode cX9_thorny 87 = .ok (.goto (-31), 3) := by decide +kernel
theorem dX9_thorny_90 : decode cX9_thorny 90 = .ok (.aload_n 0, 1) := by decide +kernel
theorem dX9_thorny_91 : decode cX9_thorny 91 = .ok (.invokevirtual 176, 3) := by decide +kernel
theorem dX9_thorny_94 : decode cX9_thorny 94 = .ok (.istore 6, 2) := by decide +kernel
theorem dX9_thorny_96 : decode cX9_thorny 96 = .ok (.iload 5, 2) := by decide +kernel
theorem dX9_thorny_98 : decode cX9_thorny 98 = .ok (.invokestatic 220, 3) := by decide +kernel
theorem dX9_thorny_101 : decode cX9_thorny 101 = .ok (.istore 7, 2) := by decide +kernel
theorem dX9_thorny_103 : decode cX9_thorny 103 = .ok (.iload 4, 2) := by decide +kernel
theorem dX9_thorny_105 : decode cX9_thorny 105 = .ok (.iload 6, 2) := by decide +kernel
theorem dX9_thorny_107 : decode cX9_thorny 107 = .ok (.bipush (-9), 2) := by decide +kernel
theorem dX9_thorny_109 : decode cX9_thorny 109 = .ok (.if_icmp .eq 33, 3) := by decide +kernel
theorem dX9_thorny_112 : decode cX9_thorny 112 = .ok (.iload 6, 2) := by decide +kernel
theorem dX9_thorny_114 : decode cX9_thorny 114 = .ok (.iload_n 1, 1) := by decide +kernel
theorem dX9_thorny_115 : decode cX9_thorny 115 = .ok (.if_icmp .gt 27, 3) := by decide +kernel
theorem dX9_thorny_118 : decode cX9_thorny 118 = .ok (.iload_n 2, 1) := by decide +kernel
theorem dX9_thorny_119 : decode cX9_thorny 119 = .ok (.iload 7, 2) := by decide +kernel
theorem dX9_thorny_121 : decode cX9_thorny 121 = .ok (.invokestatic 185, 3) := by decide +kernel
theorem dX9_thorny_124 : decode cX9_thorny 124 = .ok (.bipush 10, 2) := by decide +kernel
theorem dX9_thorny_126 : decode cX9_thorny 126 = .ok (.iload_n 2, 1) := by decide +kernel
theorem dX9_thorny_127 : decode cX9_thorny 127 = .ok (.isub, 1) := by decide +kernel
theorem dX9_thorny_128 : decode cX9_thorny 128 = .ok (.aload_n 0, 1) := by decide +kernel
theorem dX9_thorny_129 : decode cX9_thorny 129 = .ok (.getfield 69, 3) := by decide +kernel
theorem dX9_thorny_132 : decode cX9_thorny 132 = .ok (.iload 7, 2) := by decide +kernel
theorem dX9_thorny_134 : decode cX9_thorny 134 = .ok (.isub, 1) := by decide +kernel
theorem dX9_thorny_135 : decode cX9_thorny 135 = .ok (.invokestatic 185, 3) := by decide +kernel
theorem dX9_thorny_138 : decode cX9_thorny 138 = .ok (.imul, 1) := by decide +kernel
theorem dX9_thorny_139 : decode cX9_thorny 139 = .ok (.goto 4, 3) := by decide +kernel
theorem dX9_thorny_142 : decode cX9_thorny 142 = .ok (.iconst 0, 1) := by decide +kernel
theorem dX9_thorny_143 : decode cX9_thorny 143 = .ok (.iadd, 1) := by decide +kernel
theorem dX9_thorny_144 : decode cX9_thorny 144 = .ok (.istore 4, 2) := by decide +kernel
theorem dX9_thorny_146 : decode cX9_thorny 146 = .ok (.iinc 5 1, 3) := by decide +kernel
theorem dX9_thorny_149 : decode cX9_thorny 149 = .ok (.goto (-111), 3) := by decide +kernel
theorem dX9_thorny_152 : decode cX9_thorny 152 = .ok (.iload 4, 2) := by decide +kernel
theorem dX9_thorny_154 : decode cX9_thorny 154 = .ok (.bipush 10, 2) := by decide +kernel
theorem dX9_thorny_156 : decode cX9_thorny 156 = .ok (.aload_n 0, 1) := by decide +kernel
theorem dX9_thorny_157 : decode cX9_thorny 157 = .ok (.getfield 69, 3) := by decide +kernel
theorem dX9_thorny_160 : decode cX9_thorny 160 = .ok (.invokestatic 185, 3) := by decide +kernel
theorem dX9_thorny_163 : decode cX9_thorny 163 = .ok (.iload_n 3, 1) := by decide +kernel
theorem dX9_thorny_164 : decode cX9_thorny 164 = .ok (.invokestatic 226, 3) := by decide +kernel
theorem dX9_thorny_167 : decode cX9_thorny 167 = .ok (.ireturn, 1) := by decide +kernel
theorem dX9_seed_0 : decode cX9_seed 0 = .ok (.aload_n 0, 1) := by decide +kernel
theorem dX9_seed_1 : decode cX9_seed 1 = .ok (.iconst 0, 1) := by decide +kernel
theorem dX9_seed_2 : decode cX9_seed 2 = .ok (.putfield 65, 3) := by decide +kernel
theorem dX9_seed_5 : decode cX9_seed 5 = .ok (.aload_n 0, 1) := by decide +kernel
theorem dX9_seed_6 : decode cX9_seed 6 = .ok (.getfield 248, 3) := by decide +kernel
theorem dX9_seed_9 : decode cX9_seed 9 = .ok (.lstore_n 3, 1) := by decide +kernel
theorem dX9_seed_10 : decode cX9_seed 10 = .ok (.aload_n 0, 1) := by decide +kernel
theorem dX9_seed_11 : decode cX9_seed 11 = .ok (.lload_n 1, 1) := by decide +kernel
theorem dX9_seed_12 : decode cX9_seed 12 = .ok (.putfield 248, 3) := by decide +kernel
theorem dX9_seed_15 : decode cX9_seed 15 = .ok (.lload_n 3, 1) := by decide +kernel
theorem dX9_seed_16 : decode cX9_seed 16 = .ok (.lreturn, 1) := by decide +kernel
theorem dX9_campaigns_0 : decode cX9_campaigns 0 = .ok (.aload_n 0, 1) := by decide +kernel
theorem dX9_campaigns_1 : decode cX9_campaigns 1 = .ok (.iconst 0, 1) := by decide +kernel
theorem dX9_campaigns_2 : decode cX9_campaigns 2 = .ok (.putfield 65, 3) := by decide +kernel
theorem dX9_campaigns_5 : decode cX9_campaigns 5 = .ok (.iload_n 1, 1) := by decide +kernel
theorem dX9_campaigns_6 : decode cX9_campaigns 6 = .ok (.i2l, 1) := by decide +kernel
theorem dX9_campaigns_7 : decode cX9_campaigns 7 = .ok (.lconst 1, 1) := by decide +kernel
theorem dX9_campaigns_8 : decode cX9_campaigns 8 = .ok (.ldc2_w 252, 3) := by decide +kernel
theorem dX9_campaigns_11 : decode cX9_campaigns 11 = .ok (.invokestatic 72, 3) := by decide +kernel
theorem dX9_campaigns_14 : decode cX9_campaigns 14 = .ok (.ifCond .ne 6, 3) := by decide +kernel
theorem dX9_campaigns_17 : decode cX9_campaigns 17 = .ok (.bipush (-2), 2) := by decide +kernel
theorem dX9_campaigns_19 : decode cX9_campaigns 19 = .ok (.ireturn, 1) := by decide +kernel
theorem dX9_campaigns_20 : decode cX9_campaigns 20 = .ok (.aload_n 0, 1) := by decide +kernel
theorem dX9_campaigns_21 : decode cX9_campaigns 21 = .ok (.invokevirtual 169, 3) := by decide +kernel
theorem dX9_campaigns_24 : decode cX9_campaigns 24 = .ok (.iconst 0, 1) := by decide +kernel
theorem dX9_campaigns_25 : decode cX9_campaigns 25 = .ok (.istore_n 2, 1) := by decide +kernel
theorem dX9_campaigns_26 : decode cX9_campaigns 26 = .ok (.iconst 0, 1) := by decide +kernel
theorem dX9_campaigns_27 : decode cX9_campaigns 27 = .ok (.istore_n 3, 1) := by decide +kernel
theorem dX9_campaigns_28 : decode cX9_campaigns 28 = .ok (.iload_n 3, 1) := by decide +kernel
theorem dX9_campaigns_29 : decode cX9_campaigns 29 = .ok (.iload_n 1, 1) := by decide +kernel
theorem dX9_campaigns_30 : decode cX9_campaigns 30 = .ok (.if_icmp .ge 97, 3) := by decide +kernel
theorem dX9_campaigns_33 : decode cX9_campaigns 33 = .ok (.aload_n 0, 1) := by decide +kernel
theorem dX9_campaigns_34 : decode cX9_campaigns 34 = .ok (.aload_n 0, 1) := by decide +kernel
theorem dX9_campaigns_35 : decode cX9_campaigns 35 = .ok (.getfield 248, 3) := by decide +kernel
theorem dX9_campaigns_38 : decode cX9_campaigns 38 = .ok (.ldc2_w 254, 3) := by decide +kernel
theorem dX9_campaigns_41 : decode cX9_campaigns 41 = .ok (.lmul, 1) := by decide +kernel
theorem dX9_campaigns_42 : decode cX9_campaigns 42 = .ok (.ldc2_w 256, 3) := by decide +kernel
theorem dX9_campaigns_45 : decode cX9_campaigns 45 = .ok (.ladd, 1) := by decide +kernel
theorem dX9_campaigns_46 : decode cX9_campaigns 46 = .ok (.putfield 248, 3) := by decide +kernel
theorem dX9_campaigns_49 : decode cX9_campaigns 49 = .ok (.aload_n 0, 1) := by decide +kernel
theorem dX9_campaigns_50 : decode cX9_campaigns 50 = .ok (.getfield 248, 3) := by decide +kernel
theorem dX9_campaigns_53 : decode cX9_campaigns 53 = .ok (.bipush 33, 2) := by decide +kernel
theorem dX9_campaigns_55 : decode cX9_campaigns 55 = .ok (.lushr, 1) := by decide +kernel
theorem dX9_campaigns_56 : decode cX9_campaigns 56 = .ok (.ldc2_w 194, 3) := by decide +kernel
theorem dX9_campaigns_59 : decode cX9_campaigns 59 = .ok (.lrem, 1) := by decide +kernel
theorem dX9_campaigns_60 : decode cX9_campaigns 60 = .ok (.l2i, 1) := by decide +kernel
theorem dX9_campaigns_61 : decode cX9_campaigns 61 = .ok (.istore 4, 2) := by decide +kernel
theorem dX9_campaigns_63 : decode cX9_campaigns 63 = .ok (.aload_n 0, 1) := by decide +kernel
theorem dX9_campaigns_64 : decode cX9_campaigns 64 = .ok (.iload 4, 2) := by decide +kernel
theorem dX9_campaigns_66 : decode cX9_campaigns 66 = .ok (.iconst 5, 1) := by decide +kernel
theorem dX9_campaigns_67 : decode cX9_campaigns 67 = .ok (.if_icmp .ge 12, 3) := by decide +kernel
theorem dX9_campaigns_70 : decode cX9_campaigns 70 = .ok (.sipush 200, 3) := by decide +kernel
theorem dX9_campaigns_73 : decode cX9_campaigns 73 = .ok (.iload 4, 2) := by decide +kernel
theorem dX9_campaigns_75 : decode cX9_campaigns 75 = .ok (.iadd, 1) := by decide +kernel
theorem dX9_campaigns_76 : decode cX9_campaigns 76 = .ok (.goto 32, 3) := by decide +kernel
theorem dX9_campaigns_79 : decode cX9_campaigns 79 = .ok (.iload 4, 2) := by decide +kernel
theorem dX9_campaigns_81 : decode cX9_campaigns 81 = .ok (.bipush 10, 2) := by decide +kernel
theorem dX9_campaigns_83 : decode cX9_campaigns 83 = .ok (.if_icmp .ge 12, 3) := by decide +kernel
theorem dX9_campaigns_86 : decode cX9_campaigns 86 = .ok (.sipush 295, 3) := by decide +kernel
theorem dX9_campaigns_89 : decode cX9_campaigns 89 = .ok (.iload 4, 2) := by decide +kernel
theorem dX9_campaigns_91 : decode cX9_campaigns 91 = .ok (.iadd, 1) := by decide +kernel
theorem dX9_campaigns_92 : decode cX9_campaigns 92 = .ok (.goto 16, 3) := by decide +kernel
theorem dX9_campaigns_95 : decode cX9_campaigns 95 = .ok (.iload 4, 2) := by decide +kernel
theorem dX9_campaigns_97 : decode cX9_campaigns 97 = .ok (.bipush 10, 2) := by decide +kernel
theorem dX9_campaigns_99 : decode cX9_campaigns 99 = .ok (.if_icmp .ne 8, 3) := by decide +kernel
theorem dX9_campaigns_102 : decode cX9_campaigns 102 = .ok (.bipush 100, 2) := by decide +kernel
theorem dX9_campaigns_104 : decode cX9_campaigns 104 = .ok (.goto 4, 3) := by decide +kernel
theorem dX9_campaigns_107 : decode cX9_campaigns 107 = .ok (.iconst 0, 1) := by decide +kernel
theorem dX9_campaigns_108 : decode cX9_campaigns 108 = .ok (.invokevirtual 214, 3) := by decide +kernel
theorem dX9_campaigns_111 : decode cX9_campaigns 111 = .ok (.pop, 1) := by decide +kernel
theorem dX9_campaigns_112 : decode cX9_campaigns 112 = .ok (.iload_n 2, 1) := by decide +kernel
theorem dX9_campaigns_113 : decode cX9_campaigns 113 = .ok (.aload_n 0, 1) := by decide +kernel
theorem dX9_campaigns_114 : decode cX9_campaigns 114 = .ok (.getfield 34, 3) := by decide +kernel
theorem dX9_campaigns_117 : decode cX9_campaigns 117 = .ok (.iconst 0, 1) := by decide +kernel
theorem dX9_campaigns_118 : decode cX9_campaigns 118 = .ok (.iaload, 1) := by decide +kernel
theorem dX9_campaigns_119 : decode cX9_campaigns 119 = .ok (.iadd, 1) := by decide +kernel
theorem dX9_campaigns_120 : decode cX9_campaigns 120 = .ok (.istore_n 2, 1) := by decide +kernel
theorem dX9_campaigns_121 : decode cX9_campaigns 121 = .ok (.iinc 3 1, 3) := by decide +kernel
theorem dX9_campaigns_124 : decode cX9_campaigns 124 = .ok (.goto (-96), 3) := by decide +kernel
theorem dX9_campaigns_127 : decode cX9_campaigns 127 = .ok (.iload_n 2, 1) := by decide +kernel
theorem dX9_campaigns_128 : decode cX9_campaigns 128 = .ok (.ireturn, 1) := by decide +kernel
theorem dX9_keep_0 : decode cX9_keep 0 = .ok (.aload_n 0, 1) := by decide +kernel
theorem dX9_keep_1 : decode cX9_keep 1 = .ok (.iconst 0, 1) := by decide +kernel
theorem dX9_keep_2 : decode cX9_keep 2 = .ok (.putfield 65, 3) := by decide +kernel
theorem dX9_keep_5 : decode cX9_keep 5 = .ok (.iload_n 1, 1) := by decide +kernel
theorem dX9_keep_6 : decode cX9_keep 6 = .ok (.i2l, 1) := by decide +kernel
theorem dX9_keep_7 : decode cX9_keep 7 = .ok (.lconst 0, 1) := by decide +kernel
theorem dX9_keep_8 : decode cX9_keep 8 = .ok (.lconst 1, 1) := by decide +kernel
theorem dX9_keep_9 : decode cX9_keep 9 = .ok (.invokestatic 72, 3) := by decide +kernel
theorem dX9_keep_12 : decode cX9_keep 12 = .ok (.ifCond .ne 5, 3) := by decide +kernel
theorem dX9_keep_15 : decode cX9_keep 15 = .ok (.iconst (-1), 1) := by decide +kernel
theorem dX9_keep_16 : decode cX9_keep 16 = .ok (.ireturn, 1) := by decide +kernel
theorem dX9_keep_17 : decode cX9_keep 17 = .ok (.aload_n 0, 1) := by decide +kernel
theorem dX9_keep_18 : decode cX9_keep 18 = .ok (.getfield 46, 3) := by decide +kernel
theorem dX9_keep_21 : decode cX9_keep 21 = .ok (.iload_n 1, 1) := by decide +kernel
theorem dX9_keep_22 : decode cX9_keep 22 = .ok (.iconst 1, 1) := by decide +kernel
theorem dX9_keep_23 : decode cX9_keep 23 = .ok (.bastore, 1) := by decide +kernel
theorem dX9_keep_24 : decode cX9_keep 24 = .ok (.iconst 0, 1) := by decide +kernel
theorem dX9_keep_25 : decode cX9_keep 25 = .ok (.istore_n 2, 1) := by decide +kernel
theorem dX9_keep_26 : decode cX9_keep 26 = .ok (.iload_n 2, 1) := by decide +kernel
theorem dX9_keep_27 : decode cX9_keep 27 = .ok (.bipush 7, 2) := by decide +kernel
theorem dX9_keep_29 : decode cX9_keep 29 = .ok (.if_icmp .ge 26, 3) := by decide +kernel
theorem dX9_keep_32 : decode cX9_keep 32 = .ok (.aload_n 0, 1) := by decide +kernel
theorem dX9_keep_33 : decode cX9_keep 33 = .ok (.getfield 43, 3) := by decide +kernel
theorem dX9_keep_36 : decode cX9_keep 36 = .ok (.bipush 7, 2) := by decide +kernel
theorem dX9_keep_38 : decode cX9_keep 38 = .ok (.iload_n 1, 1) := by decide +kernel
theorem dX9_keep_39 : decode cX9_keep 39 = .ok (.imul, 1) := by decide +kernel
theorem dX9_keep_40 : decode cX9_keep 40 = .ok (.iload_n 2, 1) := by decide +kernel
theorem dX9_keep_41 : decode cX9_keep 41 = .ok (.iadd, 1) := by decide +kernel
theorem dX9_keep_42 : decode cX9_keep 42 = .ok (.aload_n 0, 1) := by decide +kernel
theorem dX9_keep_43 : decode cX9_keep 43 = .ok (.getfield 31, 3) := by decide +kernel
theorem dX9_keep_46 : decode cX9_keep 46 = .ok (.iload_n 2, 1) := by decide +kernel
theorem dX9_keep_47 : decode cX9_keep 47 = .ok (.iaload, 1) := by decide +kernel
theorem dX9_keep_48 : decode cX9_keep 48 = .ok (.iastore, 1) := by decide +kernel
theorem dX9_keep_49 : decode cX9_keep 49 = .ok (.iinc 2 1, 3) := by decide +kernel
theorem dX9_keep_52 : decode cX9_keep 52 = .ok (.goto (-26), 3) := by decide +kernel
theorem dX9_keep_55 : decode cX9_keep 55 = .ok (.aload_n 0, 1) := by decide +kernel
theorem dX9_keep_56 : decode cX9_keep 56 = .ok (.getfield 31, 3) := by decide +kernel
theorem dX9_keep_59 : decode cX9_keep 59 = .ok (.iconst 1, 1) := by decide +kernel
theorem dX9_keep_60 : decode cX9_keep 60 = .ok (.iaload, 1) := by decide +kernel
theorem dX9_keep_61 : decode cX9_keep 61 = .ok (.ireturn, 1) := by decide +kernel
theorem dX9_again_0 : decode cX9_again 0 = .ok (.aload_n 0, 1) := by decide +kernel
theorem dX9_again_1 : decode cX9_again 1 = .ok (.iconst 0, 1) := by decide +kernel
theorem dX9_again_2 : decode cX9_again 2 = .ok (.putfield 65, 3) := by decide +kernel
theorem dX9_again_5 : decode cX9_again 5 = .ok (.iload_n 1, 1) := by decide +kernel
theorem dX9_again_6 : decode cX9_again 6 = .ok (.i2l, 1) := by decide +kernel
theorem dX9_again_7 : decode cX9_again 7 = .ok (.lconst 0, 1) := by decide +kernel
theorem dX9_again_8 : decode cX9_again 8 = .ok (.lconst 1, 1) := by decide +kernel
theorem dX9_again_9 : decode cX9_again 9 = .ok (.invokestatic 72, 3) := by decide +kernel
theorem dX9_again_12 : decode cX9_again 12 = .ok (.ifCond .ne 5, 3) := by decide +kernel
theorem dX9_again_15 : decode cX9_again 15 = .ok (.iconst (-1), 1) := by decide +kernel
theorem dX9_again_16 : decode cX9_again 16 = .ok (.ireturn, 1) := by decide +kernel
theorem dX9_again_17 : decode cX9_again 17 = .ok (.aload_n 0, 1) := by decide +kernel
theorem dX9_again_18 : decode cX9_again 18 = .ok (.getfield 46, 3) := by decide +kernel
theorem dX9_again_21 : decode cX9_again 21 = .ok (.iload_n 1, 1) := by decide +kernel
theorem dX9_again_22 : decode cX9_again 22 = .ok (.baload, 1) := by decide +kernel
theorem dX9_again_23 : decode cX9_again 23 = .ok (.ifCond .ne 6, 3) := by decide +kernel
theorem dX9_again_26 : decode cX9_again 26 = .ok (.bipush (-3), 2) := by decide +kernel
theorem dX9_again_28 : decode cX9_again 28 = .ok (.ireturn, 1) := by decide +kernel
theorem dX9_again_29 : decode cX9_again 29 = .ok (.iconst 0, 1) := by decide +kernel
theorem dX9_again_30 : decode cX9_again 30 = .ok (.istore_n 2, 1) := by decide +kernel
theorem dX9_again_31 : decode cX9_again 31 = .ok (.iload_n 2, 1) := by decide +kernel
theorem dX9_again_32 : decode cX9_again 32 = .ok (.bipush 7, 2) := by decide +kernel
theorem dX9_again_34 : decode cX9_again 34 = .ok (.if_icmp .ge 26, 3) := by decide +kernel
theorem dX9_again_37 : decode cX9_again 37 = .ok (.aload_n 0, 1) := by decide +kernel
theorem dX9_again_38 : decode cX9_again 38 = .ok (.getfield 31, 3) := by decide +kernel
theorem dX9_again_41 : decode cX9_again 41 = .ok (.iload_n 2, 1) := by decide +kernel
theorem dX9_again_42 : decode cX9_again 42 = .ok (.aload_n 0, 1) := by decide +kernel
theorem dX9_again_43 : decode cX9_again 43 = .ok (.getfield 43, 3) := by decide +kernel
theorem dX9_again_46 : decode cX9_again 46 = .ok (.bipush 7, 2) := by decide +kernel
theorem dX9_again_48 : decode cX9_again 48 = .ok (.iload_n 1, 1) := by decide +kernel
theorem dX9_again_49 : decode cX9_again 49 = .ok (.imul, 1) := by decide +kernel
theorem dX9_again_50 : decode cX9_again 50 = .ok (.iload_n 2, 1) := by decide +kernel
theorem dX9_again_51 : decode cX9_again 51 = .ok (.iadd, 1) := by decide +kernel
theorem dX9_again_52 : decode cX9_again 52 = .ok (.iaload, 1) := by decide +kernel
theorem dX9_again_53 : decode cX9_again 53 = .ok (.iastore, 1) := by decide +kernel
theorem dX9_again_54 : decode cX9_again 54 = .ok (.iinc 2 1, 3) := by decide +kernel
theorem dX9_again_57 : decode cX9_again 57 = .ok (.goto (-26), 3) := by decide +kernel
theorem dX9_again_60 : decode cX9_again 60 = .ok (.aload_n 0, 1) := by decide +kernel
theorem dX9_again_61 : decode cX9_again 61 = .ok (.iconst 0, 1) := by decide +kernel
theorem dX9_again_62 : decode cX9_again 62 = .ok (.putfield 114, 3) := by decide +kernel
theorem dX9_again_65 : decode cX9_again 65 = .ok (.aload_n 0, 1) := by decide +kernel
theorem dX9_again_66 : decode cX9_again 66 = .ok (.getfield 31, 3) := by decide +kernel
theorem dX9_again_69 : decode cX9_again 69 = .ok (.iconst 1, 1) := by decide +kernel
theorem dX9_again_70 : decode cX9_again 70 = .ok (.iaload, 1) := by decide +kernel
theorem dX9_again_71 : decode cX9_again 71 = .ok (.ireturn, 1) := by decide +kernel
theorem dJ6_bitCount_0f7a4_0 : decode cJ6_bitCount_0f7a4 0 = .ok (.iload_n 0, 1) := by decide +kernel
theorem dJ6_bitCount_0f7a4_1 : decode cJ6_bitCount_0f7a4 1 = .ok (.iload_n 0, 1) := by decide +kernel
theorem dJ6_bitCount_0f7a4_2 : decode cJ6_bitCount_0f7a4 2 = .ok (.iconst 1, 1) := by decide +kernel
theorem dJ6_bitCount_0f7a4_3 : decode cJ6_bitCount_0f7a4 3 = .ok (.iushr, 1) := by decide +kernel
theorem dJ6_bitCount_0f7a4_4 : decode cJ6_bitCount_0f7a4 4 = .ok (.ldc_w 265, 3) := by decide +kernel
theorem dJ6_bitCount_0f7a4_7 : decode cJ6_bitCount_0f7a4 7 = .ok (.iand, 1) := by decide +kernel
theorem dJ6_bitCount_0f7a4_8 : decode cJ6_bitCount_0f7a4 8 = .ok (.isub, 1) := by decide +kernel
theorem dJ6_bitCount_0f7a4_9 : decode cJ6_bitCount_0f7a4 9 = .ok (.istore_n 0, 1) := by decide +kernel
theorem dJ6_bitCount_0f7a4_10 : decode cJ6_bitCount_0f7a4 10 = .ok (.iload_n 0, 1) := by decide +kernel
theorem dJ6_bitCount_0f7a4_11 : decode cJ6_bitCount_0f7a4 11 = .ok (.ldc_w 266, 3) := by decide +kernel
theorem dJ6_bitCount_0f7a4_14 : decode cJ6_bitCount_0f7a4 14 = .ok (.iand, 1) := by decide +kernel
theorem dJ6_bitCount_0f7a4_15 : decode cJ6_bitCount_0f7a4 15 = .ok (.iload_n 0, 1) := by decide +kernel
theorem dJ6_bitCount_0f7a4_16 : decode cJ6_bitCount_0f7a4 16 = .ok (.iconst 2, 1) := by decide +kernel
theorem dJ6_bitCount_0f7a4_17 : decode cJ6_bitCount_0f7a4 17 = .ok (.iushr, 1) := by decide +kernel
theorem dJ6_bitCount_0f7a4_18 : decode cJ6_bitCount_0f7a4 18 = .ok (.ldc_w 266, 3) := by decide +kernel
theorem dJ6_bitCount_0f7a4_21 : decode cJ6_bitCount_0f7a4 21 = .ok (.iand, 1) := by decide +kernel
theorem dJ6_bitCount_0f7a4_22 : decode cJ6_bitCount_0f7a4 22 = .ok (.iadd, 1) := by decide +kernel
theorem dJ6_bitCount_0f7a4_23 : decode cJ6_bitCount_0f7a4 23 = .ok (.istore_n 0, 1) := by decide +kernel
theorem dJ6_bitCount_0f7a4_24 : decode cJ6_bitCount_0f7a4 24 = .ok (.iload_n 0, 1) := by decide +kernel
theorem dJ6_bitCount_0f7a4_25 : decode cJ6_bitCount_0f7a4 25 = .ok (.iload_n 0, 1) := by decide +kernel
theorem dJ6_bitCount_0f7a4_26 : decode cJ6_bitCount_0f7a4 26 = .ok (.iconst 4, 1) := by decide +kernel
theorem dJ6_bitCount_0f7a4_27 : decode cJ6_bitCount_0f7a4 27 = .ok (.iushr, 1) := by decide +kernel
theorem dJ6_bitCount_0f7a4_28 : decode cJ6_bitCount_0f7a4 28 = .ok (.iadd, 1) := by decide +kernel
theorem dJ6_bitCount_0f7a4_29 : decode cJ6_bitCount_0f7a4 29 = .ok (.ldc_w 267, 3) := by decide +kernel
theorem dJ6_bitCount_0f7a4_32 : decode cJ6_bitCount_0f7a4 32 = .ok (.iand, 1) := by decide +kernel
theorem dJ6_bitCount_0f7a4_33 : decode cJ6_bitCount_0f7a4 33 = .ok (.istore_n 0, 1) := by decide +kernel
theorem dJ6_bitCount_0f7a4_34 : decode cJ6_bitCount_0f7a4 34 = .ok (.iload_n 0, 1) := by decide +kernel
theorem dJ6_bitCount_0f7a4_35 : decode cJ6_bitCount_0f7a4 35 = .ok (.iload_n 0, 1) := by decide +kernel
theorem dJ6_bitCount_0f7a4_36 : decode cJ6_bitCount_0f7a4 36 = .ok (.bipush 8, 2) := by decide +kernel
theorem dJ6_bitCount_0f7a4_38 : decode cJ6_bitCount_0f7a4 38 = .ok (.iushr, 1) := by decide +kernel
theorem dJ6_bitCount_0f7a4_39 : decode cJ6_bitCount_0f7a4 39 = .ok (.iadd, 1) := by decide +kernel
theorem dJ6_bitCount_0f7a4_40 : decode cJ6_bitCount_0f7a4 40 = .ok (.istore_n 0, 1) := by decide +kernel
theorem dJ6_bitCount_0f7a4_41 : decode cJ6_bitCount_0f7a4 41 = .ok (.iload_n 0, 1) := by decide +kernel
theorem dJ6_bitCount_0f7a4_42 : decode cJ6_bitCount_0f7a4 42 = .ok (.iload_n 0, 1) := by decide +kernel
theorem dJ6_bitCount_0f7a4_43 : decode cJ6_bitCount_0f7a4 43 = .ok (.bipush 16, 2) := by decide +kernel
theorem dJ6_bitCount_0f7a4_45 : decode cJ6_bitCount_0f7a4 45 = .ok (.iushr, 1) := by decide +kernel
theorem dJ6_bitCount_0f7a4_46 : decode cJ6_bitCount_0f7a4 46 = .ok (.iadd, 1) := by decide +kernel
theorem dJ6_bitCount_0f7a4_47 : decode cJ6_bitCount_0f7a4 47 = .ok (.istore_n 0, 1) := by decide +kernel
theorem dJ6_bitCount_0f7a4_48 : decode cJ6_bitCount_0f7a4 48 = .ok (.iload_n 0, 1) := by decide +kernel
theorem dJ6_bitCount_0f7a4_49 : decode cJ6_bitCount_0f7a4 49 = .ok (.bipush 63, 2) := by decide +kernel
theorem dJ6_bitCount_0f7a4_51 : decode cJ6_bitCount_0f7a4 51 = .ok (.iand, 1) := by decide +kernel
theorem dJ6_bitCount_0f7a4_52 : decode cJ6_bitCount_0f7a4 52 = .ok (.ireturn, 1) := by decide +kernel
theorem dJ9_abs_0f7a4_0 : decode cJ9_abs_0f7a4 0 = .ok (.iload_n 0, 1) := by decide +kernel
theorem dJ9_abs_0f7a4_1 : decode cJ9_abs_0f7a4 1 = .ok (.ifCond .ge 8, 3) := by decide +kernel
theorem dJ9_abs_0f7a4_4 : decode cJ9_abs_0f7a4 4 = .ok (.iload_n 0, 1) := by decide +kernel
theorem dJ9_abs_0f7a4_5 : decode cJ9_abs_0f7a4 5 = .ok (.ineg, 1) := by decide +kernel
theorem dJ9_abs_0f7a4_6 : decode cJ9_abs_0f7a4 6 = .ok (.goto 4, 3) := by decide +kernel
theorem dJ9_abs_0f7a4_9 : decode cJ9_abs_0f7a4 9 = .ok (.iload_n 0, 1) := by decide +kernel
theorem dJ9_abs_0f7a4_10 : decode cJ9_abs_0f7a4 10 = .ok (.ireturn, 1) := by decide +kernel
theorem dJ9_max_7cf53_0 : decode cJ9_max_7cf53 0 = .ok (.iload_n 0, 1) := by decide +kernel
theorem dJ9_max_7cf53_1 : decode cJ9_max_7cf53 1 = .ok (.iload_n 1, 1) := by decide +kernel
theorem dJ9_max_7cf53_2 : decode cJ9_max_7cf53 2 = .ok (.if_icmp .lt 7, 3) := by decide +kernel
theorem dJ9_max_7cf53_5 : decode cJ9_max_7cf53 5 = .ok (.iload_n 0, 1) := by decide +kernel
theorem dJ9_max_7cf53_6 : decode cJ9_max_7cf53 6 = .ok (.goto 4, 3) := by decide +kernel
theorem dJ9_max_7cf53_9 : decode cJ9_max_7cf53 9 = .ok (.iload_n 1, 1) := by decide +kernel
theorem dJ9_max_7cf53_10 : decode cJ9_max_7cf53 10 = .ok (.ireturn, 1) := by decide +kernel
theorem dJ9_min_7cf53_0 : decode cJ9_min_7cf53 0 = .ok (.iload_n 0, 1) := by decide +kernel
theorem dJ9_min_7cf53_1 : decode cJ9_min_7cf53 1 = .ok (.iload_n 1, 1) := by decide +kernel
theorem dJ9_min_7cf53_2 : decode cJ9_min_7cf53 2 = .ok (.if_icmp .gt 7, 3) := by decide +kernel
theorem dJ9_min_7cf53_5 : decode cJ9_min_7cf53 5 = .ok (.iload_n 0, 1) := by decide +kernel
theorem dJ9_min_7cf53_6 : decode cJ9_min_7cf53 6 = .ok (.goto 4, 3) := by decide +kernel
theorem dJ9_min_7cf53_9 : decode cJ9_min_7cf53 9 = .ok (.iload_n 1, 1) := by decide +kernel
theorem dJ9_min_7cf53_10 : decode cJ9_min_7cf53 10 = .ok (.ireturn, 1) := by decide +kernel
theorem dL_law_0 : decode cL_law 0 = .ok (.new 7, 3) := by decide +kernel
theorem dL_law_3 : decode cL_law 3 = .ok (.dup, 1) := by decide +kernel
theorem dL_law_4 : decode cL_law 4 = .ok (.invokespecial 9, 3) := by decide +kernel
theorem dL_law_7 : decode cL_law 7 = .ok (.astore_n 1, 1) := by decide +kernel
theorem dL_law_8 : decode cL_law 8 = .ok (.new 10, 3) := by decide +kernel
theorem dL_law_11 : decode cL_law 11 = .ok (.dup, 1) := by decide +kernel
theorem dL_law_12 : decode cL_law 12 = .ok (.invokespecial 12, 3) := by decide +kernel
theorem dL_law_15 : decode cL_law 15 = .ok (.astore_n 2, 1) := by decide +kernel
theorem dL_law_16 : decode cL_law 16 = .ok (.iconst 0, 1) := by decide +kernel
theorem dL_law_17 : decode cL_law 17 = .ok (.istore_n 3, 1) := by decide +kernel
theorem dL_law_18 : decode cL_law 18 = .ok (.iload_n 3, 1) := by decide +kernel
theorem dL_law_19 : decode cL_law 19 = .ok (.aload_n 0, 1) := by decide +kernel
theorem dL_law_20 : decode cL_law 20 = .ok (.arraylength, 1) := by decide +kernel
theorem dL_law_21 : decode cL_law 21 = .ok (.iconst 4, 1) := by decide +kernel
theorem dL_law_22 : decode cL_law 22 = .ok (.isub, 1) := by decide +kernel
theorem dL_law_23 : decode cL_law 23 = .ok (.if_icmp .gt 920, 3) := by decide +kernel
theorem dL_law_26 : decode cL_law 26 = .ok (.aload_n 0, 1) := by decide +kernel
theorem dL_law_27 : decode cL_law 27 = .ok (.iload_n 3, 1) := by decide +kernel
theorem dL_law_28 : decode cL_law 28 = .ok (.iaload, 1) := by decide +kernel
theorem dL_law_29 : decode cL_law 29 = .ok (.bipush 31, 2) := by decide +kernel
theorem dL_law_31 : decode cL_law 31 = .ok (.iand, 1) := by decide +kernel
theorem dL_law_32 : decode cL_law 32 = .ok (.tableswitch 905 0 27 #[128, 151, 164, 177, 190, 213, 246, 279, 292, 305, 328, 351, 364, 397, 410, 433, 456, 489, 552, 601, 644, 657, 680, 723, 782, 836, 859, 882], 128) := by decide +kernel
theorem dL_law_160 : decode cL_law 160 = .ok (.aload_n 1, 1) := by decide +kernel
theorem dL_law_161 : decode cL_law 161 = .ok (.aload_n 0, 1) := by decide +kernel
theorem dL_law_162 : decode cL_law 162 = .ok (.iload_n 3, 1) := by decide +kernel
theorem dL_law_163 : decode cL_law 163 = .ok (.iconst 1, 1) := by decide +kernel
theorem dL_law_164 : decode cL_law 164 = .ok (.iadd, 1) := by decide +kernel
theorem dL_law_165 : decode cL_law 165 = .ok (.iaload, 1) := by decide +kernel
theorem dL_law_166 : decode cL_law 166 = .ok (.invokevirtual 13, 3) := by decide +kernel
theorem dL_law_169 : decode cL_law 169 = .ok (.aload_n 2, 1) := by decide +kernel
theorem dL_law_170 : decode cL_law 170 = .ok (.aload_n 0, 1) := by decide +kernel
theorem dL_law_171 : decode cL_law 171 = .ok (.iload_n 3, 1) := by decide +kernel
theorem dL_law_172 : decode cL_law 172 = .ok (.iconst 1, 1) := by decide +kernel
theorem dL_law_173 : decode cL_law 173 = .ok (.iadd, 1) := by decide +kernel
theorem dL_law_174 : decode cL_law 174 = .ok (.iaload, 1) := by decide +kernel
theorem dL_law_175 : decode cL_law 175 = .ok (.invokevirtual 17, 3) := by decide +kernel
theorem dL_law_178 : decode cL_law 178 = .ok (.if_icmp .eq 759, 3) := by decide +kernel
theorem dL_law_181 : decode cL_law 181 = .ok (.iconst 0, 1) := by decide +kernel
theorem dL_law_182 : decode cL_law 182 = .ok (.ireturn, 1) := by decide +kernel
theorem dL_law_183 : decode cL_law 183 = .ok (.aload_n 1, 1) := by decide +kernel
theorem dL_law_184 : decode cL_law 184 = .ok (.invokevirtual 18, 3) := by decide +kernel
theorem dL_law_187 : decode cL_law 187 = .ok (.aload_n 2, 1) := by decide +kernel
theorem dL_law_188 : decode cL_law 188 = .ok (.invokevirtual 22, 3) := by decide +kernel
theorem dL_law_191 : decode cL_law 191 = .ok (.if_icmp .eq 746, 3) := by decide +kernel
theorem dL_law_194 : decode cL_law 194 = .ok (.iconst 0, 1) := by decide +kernel
theorem dL_law_195 : decode cL_law 195 = .ok (.ireturn, 1) := by decide +kernel
theorem dL_law_196 : decode cL_law 196 = .ok (.aload_n 1, 1) := by decide +kernel
theorem dL_law_197 : decode cL_law 197 = .ok (.invokevirtual 23, 3) := by decide +kernel
theorem dL_law_200 : decode cL_law 200 = .ok (.aload_n 2, 1) := by decide +kernel
theorem dL_law_201 : decode cL_law 201 = .ok (.invokevirtual 26, 3) := by decide +kernel
theorem dL_law_204 : decode cL_law 204 = .ok (.if_icmp .eq 733, 3) := by decide +kernel
theorem dL_law_207 : decode cL_law 207 = .ok (.iconst 0, 1) := by decide +kernel
theorem dL_law_208 : decode cL_law 208 = .ok (.ireturn, 1) := by decide +kernel
theorem dL_law_209 : decode cL_law 209 = .ok (.aload_n 1, 1) := by decide +kernel
theorem dL_law_210 : decode cL_law 210 = .ok (.invokevirtual 27, 3) := by decide +kernel
theorem dL_law_213 : decode cL_law 213 = .ok (.aload_n 2, 1) := by decide +kernel
theorem dL_law_214 : decode cL_law 214 = .ok (.invokevirtual 30, 3) := by decide +kernel
theorem dL_law_217 : decode cL_law 217 = .ok (.if_icmp .eq 720, 3) := by decide +kernel
theorem dL_law_220 : decode cL_law 220 = .ok (.iconst 0, 1) := by decide +kernel
theorem dL_law_221 : decode cL_law 221 = .ok (.ireturn, 1) := by decide +kernel
theorem dL_law_222 : decode cL_law 222 = .ok (.aload_n 1, 1) := by decide +kernel
theorem dL_law_223 : decode cL_law 223 = .ok (.aload_n 0, 1) := by decide +kernel
theorem dL_law_224 : decode cL_law 224 = .ok (.iload_n 3, 1) := by decide +kernel
theorem dL_law_225 : decode cL_law 225 = .ok (.iconst 1, 1) := by decide +kernel
theorem dL_law_226 : decode cL_law 226 = .ok (.iadd, 1) := by decide +kernel
theorem dL_law_227 : decode cL_law 227 = .ok (.iaload, 1) := by decide +kernel
theorem dL_law_228 : decode cL_law 228 = .ok (.invokevirtual 31, 3) := by decide +kernel
theorem dL_law_231 : decode cL_law 231 = .ok (.aload_n 2, 1) := by decide +kernel
theorem dL_law_232 : decode cL_law 232 = .ok (.aload_n 0, 1) := by decide +kernel
theorem dL_law_233 : decode cL_law 233 = .ok (.iload_n 3, 1) := by decide +kernel
theorem dL_law_234 : decode cL_law 234 = .ok (.iconst 1, 1) := by decide +kernel
theorem dL_law_235 : decode cL_law 235 = .ok (.iadd, 1) := by decide +kernel
theorem dL_law_236 : decode cL_law 236 = .ok (.iaload, 1) := by decide +kernel
theorem dL_law_237 : decode cL_law 237 = .ok (.invokevirtual 34, 3) := by decide +kernel
theorem dL_law_240 : decode cL_law 240 = .ok (.if_icmp .eq 697, 3) := by decide +kernel
theorem dL_law_243 : decode cL_law 243 = .ok (.iconst 0, 1) := by decide +kernel
theorem dL_law_244 : decode cL_law 244 = .ok (.ireturn, 1) := by decide +kernel
theorem dL_law_245 : decode cL_law 245 = .ok (.aload_n 1, 1) := by decide +kernel
theorem dL_law_246 : decode cL_law 246 = .ok (.aload_n 0, 1) := by decide +kernel
theorem dL_law_247 : decode cL_law 247 = .ok (.iload_n 3, 1) := by decide +kernel
theorem dL_law_248 : decode cL_law 248 = .ok (.iconst 1, 1) := by decide +kernel
theorem dL_law_249 : decode cL_law 249 = .ok (.iadd, 1) := by decide +kernel
theorem dL_law_250 : decode cL_law 250 = .ok (.iaload, 1) := by decide +kernel
theorem dL_law_251 : decode cL_law 251 = .ok (.aload_n 0, 1) := by decide +kernel
theorem dL_law_252 : decode cL_law 252 = .ok (.iload_n 3, 1) := by decide +kernel
theorem dL_law_253 : decode cL_law 253 = .ok (.iconst 2, 1) := by decide +kernel
theorem dL_law_254 : decode cL_law 254 = .ok (.iadd, 1) := by decide +kernel
theorem dL_law_255 : decode cL_law 255 = .ok (.iaload, 1) := by decide +kernel
theorem dL_law_256 : decode cL_law 256 = .ok (.invokevirtual 35, 3) := by decide +kernel
theorem dL_law_259 : decode cL_law 259 = .ok (.aload_n 2, 1) := by decide +kernel
end
section
theorem dL_law_260 : decode cL_law 260 = .ok (.aload_n 0, 1) := by decide +kernel
theorem dL_law_261 : decode cL_law 261 = .ok (.iload_n 3, 1) := by decide +kernel
theorem dL_law_262 : decode cL_law 262 = .ok (.iconst 1, 1) := by decide +kernel
theorem dL_law_263 : decode cL_law 263 = .ok (.iadd, 1) := by decide +kernel
theorem dL_law_264 : decode cL_law 264 = .ok (.iaload, 1) := by decide +kernel
theorem dL_law_265 : decode cL_law 265 = .ok (.aload_n 0, 1) := by decide +kernel
theorem dL_law_266 : decode cL_law 266 = .ok (.iload_n 3, 1) := by decide +kernel
theorem dL_law_267 : decode cL_law 267 = .ok (.iconst 2, 1) := by decide +kernel
theorem dL_law_268 : decode cL_law 268 = .ok (.iadd, 1) := by decide +kernel
theorem dL_law_269 : decode cL_law 269 = .ok (.iaload, 1) := by decide +kernel
theorem dL_law_270 : decode cL_law 270 = .ok (.invokevirtual 39, 3) := by decide +kernel
theorem dL_law_273 : decode cL_law 273 = .ok (.if_icmp .eq 664, 3) := by decide +kernel
theorem dL_law_276 : decode cL_law 276 = .ok (.iconst 0, 1) := by decide +kernel
theorem dL_law_277 : decode cL_law 277 = .ok (.ireturn, 1) := by decide +kernel
theorem dL_law_278 : decode cL_law 278 = .ok (.aload_n 1, 1) := by decide +kernel
theorem dL_law_279 : decode cL_law 279 = .ok (.aload_n 0, 1) := by decide +kernel
theorem dL_law_280 : decode cL_law 280 = .ok (.iload_n 3, 1) := by decide +kernel
theorem dL_law_281 : decode cL_law 281 = .ok (.iconst 1, 1) := by decide +kernel
theorem dL_law_282 : decode cL_law 282 = .ok (.iadd, 1) := by decide +kernel
theorem dL_law_283 : decode cL_law 283 = .ok (.iaload, 1) := by decide +kernel
theorem dL_law_284 : decode cL_law 284 = .ok (.aload_n 0, 1) := by decide +kernel
theorem dL_law_285 : decode cL_law 285 = .ok (.iload_n 3, 1) := by decide +kernel
theorem dL_law_286 : decode cL_law 286 = .ok (.iconst 2, 1) := by decide +kernel
theorem dL_law_287 : decode cL_law 287 = .ok (.iadd, 1) := by decide +kernel
theorem dL_law_288 : decode cL_law 288 = .ok (.iaload, 1) := by decide +kernel
theorem dL_law_289 : decode cL_law 289 = .ok (.invokevirtual 40, 3) := by decide +kernel
theorem dL_law_292 : decode cL_law 292 = .ok (.aload_n 2, 1) := by decide +kernel
theorem dL_law_293 : decode cL_law 293 = .ok (.aload_n 0, 1) := by decide +kernel
theorem dL_law_294 : decode cL_law 294 = .ok (.iload_n 3, 1) := by decide +kernel
theorem dL_law_295 : decode cL_law 295 = .ok (.iconst 1, 1) := by decide +kernel
theorem dL_law_296 : decode cL_law 296 = .ok (.iadd, 1) := by decide +kernel
theorem dL_law_297 : decode cL_law 297 = .ok (.iaload, 1) := by decide +kernel
theorem dL_law_298 : decode cL_law 298 = .ok (.aload_n 0, 1) := by decide +kernel
theorem dL_law_299 : decode cL_law 299 = .ok (.iload_n 3, 1) := by decide +kernel
theorem dL_law_300 : decode cL_law 300 = .ok (.iconst 2, 1) := by decide +kernel
theorem dL_law_301 : decode cL_law 301 = .ok (.iadd, 1) := by decide +kernel
theorem dL_law_302 : decode cL_law 302 = .ok (.iaload, 1) := by decide +kernel
theorem dL_law_303 : decode cL_law 303 = .ok (.invokevirtual 43, 3) := by decide +kernel
theorem dL_law_306 : decode cL_law 306 = .ok (.if_icmp .eq 631, 3) := by decide +kernel
theorem dL_law_309 : decode cL_law 309 = .ok (.iconst 0, 1) := by decide +kernel
theorem dL_law_310 : decode cL_law 310 = .ok (.ireturn, 1) := by decide +kernel
theorem dL_law_311 : decode cL_law 311 = .ok (.aload_n 1, 1) := by decide +kernel
theorem dL_law_312 : decode cL_law 312 = .ok (.invokevirtual 44, 3) := by decide +kernel
theorem dL_law_315 : decode cL_law 315 = .ok (.aload_n 2, 1) := by decide +kernel
theorem dL_law_316 : decode cL_law 316 = .ok (.invokevirtual 47, 3) := by decide +kernel
theorem dL_law_319 : decode cL_law 319 = .ok (.if_icmp .eq 618, 3) := by decide +kernel
theorem dL_law_322 : decode cL_law 322 = .ok (.iconst 0, 1) := by decide +kernel
theorem dL_law_323 : decode cL_law 323 = .ok (.ireturn, 1) := by decide +kernel
theorem dL_law_324 : decode cL_law 324 = .ok (.aload_n 1, 1) := by decide +kernel
theorem dL_law_325 : decode cL_law 325 = .ok (.invokevirtual 48, 3) := by decide +kernel
theorem dL_law_328 : decode cL_law 328 = .ok (.aload_n 2, 1) := by decide +kernel
theorem dL_law_329 : decode cL_law 329 = .ok (.invokevirtual 51, 3) := by decide +kernel
theorem dL_law_332 : decode cL_law 332 = .ok (.if_icmp .eq 605, 3) := by decide +kernel
theorem dL_law_335 : decode cL_law 335 = .ok (.iconst 0, 1) := by decide +kernel
theorem dL_law_336 : decode cL_law 336 = .ok (.ireturn, 1) := by decide +kernel
theorem dL_law_337 : decode cL_law 337 = .ok (.aload_n 1, 1) := by decide +kernel
theorem dL_law_338 : decode cL_law 338 = .ok (.aload_n 0, 1) := by decide +kernel
theorem dL_law_339 : decode cL_law 339 = .ok (.iload_n 3, 1) := by decide +kernel
theorem dL_law_340 : decode cL_law 340 = .ok (.iconst 1, 1) := by decide +kernel
theorem dL_law_341 : decode cL_law 341 = .ok (.iadd, 1) := by decide +kernel
theorem dL_law_342 : decode cL_law 342 = .ok (.iaload, 1) := by decide +kernel
theorem dL_law_343 : decode cL_law 343 = .ok (.invokevirtual 52, 3) := by decide +kernel
theorem dL_law_346 : decode cL_law 346 = .ok (.aload_n 2, 1) := by decide +kernel
theorem dL_law_347 : decode cL_law 347 = .ok (.aload_n 0, 1) := by decide +kernel
theorem dL_law_348 : decode cL_law 348 = .ok (.iload_n 3, 1) := by decide +kernel
theorem dL_law_349 : decode cL_law 349 = .ok (.iconst 1, 1) := by decide +kernel
theorem dL_law_350 : decode cL_law 350 = .ok (.iadd, 1) := by decide +kernel
theorem dL_law_351 : decode cL_law 351 = .ok (.iaload, 1) := by decide +kernel
theorem dL_law_352 : decode cL_law 352 = .ok (.invokevirtual 55, 3) := by decide +kernel
theorem dL_law_355 : decode cL_law 355 = .ok (.if_icmp .eq 582, 3) := by decide +kernel
theorem dL_law_358 : decode cL_law 358 = .ok (.iconst 0, 1) := by decide +kernel
theorem dL_law_359 : decode cL_law 359 = .ok (.ireturn, 1) := by decide +kernel
theorem dL_law_360 : decode cL_law 360 = .ok (.aload_n 1, 1) := by decide +kernel
theorem dL_law_361 : decode cL_law 361 = .ok (.aload_n 0, 1) := by decide +kernel
theorem dL_law_362 : decode cL_law 362 = .ok (.iload_n 3, 1) := by decide +kernel
theorem dL_law_363 : decode cL_law 363 = .ok (.iconst 1, 1) := by decide +kernel
theorem dL_law_364 : decode cL_law 364 = .ok (.iadd, 1) := by decide +kernel
theorem dL_law_365 : decode cL_law 365 = .ok (.iaload, 1) := by decide +kernel
theorem dL_law_366 : decode cL_law 366 = .ok (.invokevirtual 56, 3) := by decide +kernel
theorem dL_law_369 : decode cL_law 369 = .ok (.aload_n 2, 1) := by decide +kernel
theorem dL_law_370 : decode cL_law 370 = .ok (.aload_n 0, 1) := by decide +kernel
theorem dL_law_371 : decode cL_law 371 = .ok (.iload_n 3, 1) := by decide +kernel
theorem dL_law_372 : decode cL_law 372 = .ok (.iconst 1, 1) := by decide +kernel
theorem dL_law_373 : decode cL_law 373 = .ok (.iadd, 1) := by decide +kernel
theorem dL_law_374 : decode cL_law 374 = .ok (.iaload, 1) := by decide +kernel
theorem dL_law_375 : decode cL_law 375 = .ok (.invokevirtual 59, 3) := by decide +kernel
theorem dL_law_378 : decode cL_law 378 = .ok (.if_icmp .eq 559, 3) := by decide +kernel
theorem dL_law_381 : decode cL_law 381 = .ok (.iconst 0, 1) := by decide +kernel
theorem dL_law_382 : decode cL_law 382 = .ok (.ireturn, 1) := by decide +kernel
theorem dL_law_383 : decode cL_law 383 = .ok (.aload_n 1, 1) := by decide +kernel
theorem dL_law_384 : decode cL_law 384 = .ok (.invokevirtual 60, 3) := by decide +kernel
theorem dL_law_387 : decode cL_law 387 = .ok (.aload_n 2, 1) := by decide +kernel
theorem dL_law_388 : decode cL_law 388 = .ok (.invokevirtual 63, 3) := by decide +kernel
theorem dL_law_391 : decode cL_law 391 = .ok (.if_icmp .eq 546, 3) := by decide +kernel
theorem dL_law_394 : decode cL_law 394 = .ok (.iconst 0, 1) := by decide +kernel
theorem dL_law_395 : decode cL_law 395 = .ok (.ireturn, 1) := by decide +kernel
theorem dL_law_396 : decode cL_law 396 = .ok (.aload_n 1, 1) := by decide +kernel
theorem dL_law_397 : decode cL_law 397 = .ok (.aload_n 0, 1) := by decide +kernel
theorem dL_law_398 : decode cL_law 398 = .ok (.iload_n 3, 1) := by decide +kernel
theorem dL_law_399 : decode cL_law 399 = .ok (.iconst 1, 1) := by decide +kernel
theorem dL_law_400 : decode cL_law 400 = .ok (.iadd, 1) := by decide +kernel
theorem dL_law_401 : decode cL_law 401 = .ok (.iaload, 1) := by decide +kernel
theorem dL_law_402 : decode cL_law 402 = .ok (.aload_n 0, 1) := by decide +kernel
theorem dL_law_403 : decode cL_law 403 = .ok (.iload_n 3, 1) := by decide +kernel
theorem dL_law_404 : decode cL_law 404 = .ok (.iconst 2, 1) := by decide +kernel
theorem dL_law_405 : decode cL_law 405 = .ok (.iadd, 1) := by decide +kernel
theorem dL_law_406 : decode cL_law 406 = .ok (.iaload, 1) := by decide +kernel
theorem dL_law_407 : decode cL_law 407 = .ok (.invokevirtual 64, 3) := by decide +kernel
theorem dL_law_410 : decode cL_law 410 = .ok (.aload_n 2, 1) := by decide +kernel
theorem dL_law_411 : decode cL_law 411 = .ok (.aload_n 0, 1) := by decide +kernel
theorem dL_law_412 : decode cL_law 412 = .ok (.iload_n 3, 1) := by decide +kernel
theorem dL_law_413 : decode cL_law 413 = .ok (.iconst 1, 1) := by decide +kernel
theorem dL_law_414 : decode cL_law 414 = .ok (.iadd, 1) := by decide +kernel
theorem dL_law_415 : decode cL_law 415 = .ok (.iaload, 1) := by decide +kernel
theorem dL_law_416 : decode cL_law 416 = .ok (.aload_n 0, 1) := by decide +kernel
theorem dL_law_417 : decode cL_law 417 = .ok (.iload_n 3, 1) := by decide +kernel
theorem dL_law_418 : decode cL_law 418 = .ok (.iconst 2, 1) := by decide +kernel
theorem dL_law_419 : decode cL_law 419 = .ok (.iadd, 1) := by decide +kernel
theorem dL_law_420 : decode cL_law 420 = .ok (.iaload, 1) := by decide +kernel
theorem dL_law_421 : decode cL_law 421 = .ok (.invokevirtual 67, 3) := by decide +kernel
theorem dL_law_424 : decode cL_law 424 = .ok (.if_icmp .eq 513, 3) := by decide +kernel
theorem dL_law_427 : decode cL_law 427 = .ok (.iconst 0, 1) := by decide +kernel
theorem dL_law_428 : decode cL_law 428 = .ok (.ireturn, 1) := by decide +kernel
theorem dL_law_429 : decode cL_law 429 = .ok (.aload_n 1, 1) := by decide +kernel
theorem dL_law_430 : decode cL_law 430 = .ok (.invokevirtual 68, 3) := by decide +kernel
theorem dL_law_433 : decode cL_law 433 = .ok (.aload_n 2, 1) := by decide +kernel
theorem dL_law_434 : decode cL_law 434 = .ok (.invokevirtual 71, 3) := by decide +kernel
theorem dL_law_437 : decode cL_law 437 = .ok (.if_icmp .eq 500, 3) := by decide +kernel
theorem dL_law_440 : decode cL_law 440 = .ok (.iconst 0, 1) := by decide +kernel
theorem dL_law_441 : decode cL_law 441 = .ok (.ireturn, 1) := by decide +kernel
theorem dL_law_442 : decode cL_law 442 = .ok (.aload_n 1, 1) := by decide +kernel
theorem dL_law_443 : decode cL_law 443 = .ok (.aload_n 0, 1) := by decide +kernel
theorem dL_law_444 : decode cL_law 444 = .ok (.iload_n 3, 1) := by decide +kernel
theorem dL_law_445 : decode cL_law 445 = .ok (.iconst 1, 1) := by decide +kernel
theorem dL_law_446 : decode cL_law 446 = .ok (.iadd, 1) := by decide +kernel
theorem dL_law_447 : decode cL_law 447 = .ok (.iaload, 1) := by decide +kernel
theorem dL_law_448 : decode cL_law 448 = .ok (.invokevirtual 72, 3) := by decide +kernel
theorem dL_law_451 : decode cL_law 451 = .ok (.aload_n 2, 1) := by decide +kernel
theorem dL_law_452 : decode cL_law 452 = .ok (.aload_n 0, 1) := by decide +kernel
theorem dL_law_453 : decode cL_law 453 = .ok (.iload_n 3, 1) := by decide +kernel
theorem dL_law_454 : decode cL_law 454 = .ok (.iconst 1, 1) := by decide +kernel
theorem dL_law_455 : decode cL_law 455 = .ok (.iadd, 1) := by decide +kernel
theorem dL_law_456 : decode cL_law 456 = .ok (.iaload, 1) := by decide +kernel
theorem dL_law_457 : decode cL_law 457 = .ok (.invokevirtual 75, 3) := by decide +kernel
theorem dL_law_460 : decode cL_law 460 = .ok (.if_icmp .eq 477, 3) := by decide +kernel
theorem dL_law_463 : decode cL_law 463 = .ok (.iconst 0, 1) := by decide +kernel
theorem dL_law_464 : decode cL_law 464 = .ok (.ireturn, 1) := by decide +kernel
theorem dL_law_465 : decode cL_law 465 = .ok (.aload_n 1, 1) := by decide +kernel
theorem dL_law_466 : decode cL_law 466 = .ok (.aload_n 0, 1) := by decide +kernel
theorem dL_law_467 : decode cL_law 467 = .ok (.iload_n 3, 1) := by decide +kernel
theorem dL_law_468 : decode cL_law 468 = .ok (.iconst 1, 1) := by decide +kernel
theorem dL_law_469 : decode cL_law 469 = .ok (.iadd, 1) := by decide +kernel
theorem dL_law_470 : decode cL_law 470 = .ok (.iaload, 1) := by decide +kernel
theorem dL_law_471 : decode cL_law 471 = .ok (.invokevirtual 76, 3) := by decide +kernel
theorem dL_law_474 : decode cL_law 474 = .ok (.aload_n 2, 1) := by decide +kernel
theorem dL_law_475 : decode cL_law 475 = .ok (.aload_n 0, 1) := by decide +kernel
theorem dL_law_476 : decode cL_law 476 = .ok (.iload_n 3, 1) := by decide +kernel
theorem dL_law_477 : decode cL_law 477 = .ok (.iconst 1, 1) := by decide +kernel
theorem dL_law_478 : decode cL_law 478 = .ok (.iadd, 1) := by decide +kernel
theorem dL_law_479 : decode cL_law 479 = .ok (.iaload, 1) := by decide +kernel
theorem dL_law_480 : decode cL_law 480 = .ok (.invokevirtual 79, 3) := by decide +kernel
theorem dL_law_483 : decode cL_law 483 = .ok (.if_icmp .eq 454, 3) := by decide +kernel
theorem dL_law_486 : decode cL_law 486 = .ok (.iconst 0, 1) := by decide +kernel
theorem dL_law_487 : decode cL_law 487 = .ok (.ireturn, 1) := by decide +kernel
theorem dL_law_488 : decode cL_law 488 = .ok (.aload_n 1, 1) := by decide +kernel
theorem dL_law_489 : decode cL_law 489 = .ok (.aload_n 0, 1) := by decide +kernel
theorem dL_law_490 : decode cL_law 490 = .ok (.iload_n 3, 1) := by decide +kernel
theorem dL_law_491 : decode cL_law 491 = .ok (.iconst 1, 1) := by decide +kernel
theorem dL_law_492 : decode cL_law 492 = .ok (.iadd, 1) := by decide +kernel
theorem dL_law_493 : decode cL_law 493 = .ok (.iaload, 1) := by decide +kernel
theorem dL_law_494 : decode cL_law 494 = .ok (.aload_n 0, 1) := by decide +kernel
theorem dL_law_495 : decode cL_law 495 = .ok (.iload_n 3, 1) := by decide +kernel
theorem dL_law_496 : decode cL_law 496 = .ok (.iconst 2, 1) := by decide +kernel
theorem dL_law_497 : decode cL_law 497 = .ok (.iadd, 1) := by decide +kernel
theorem dL_law_498 : decode cL_law 498 = .ok (.iaload, 1) := by decide +kernel
theorem dL_law_499 : decode cL_law 499 = .ok (.invokevirtual 80, 3) := by decide +kernel
theorem dL_law_502 : decode cL_law 502 = .ok (.aload_n 2, 1) := by decide +kernel
theorem dL_law_503 : decode cL_law 503 = .ok (.aload_n 0, 1) := by decide +kernel
theorem dL_law_504 : decode cL_law 504 = .ok (.iload_n 3, 1) := by decide +kernel
theorem dL_law_505 : decode cL_law 505 = .ok (.iconst 1, 1) := by decide +kernel
theorem dL_law_506 : decode cL_law 506 = .ok (.iadd, 1) := by decide +kernel
theorem dL_law_507 : decode cL_law 507 = .ok (.iaload, 1) := by decide +kernel
theorem dL_law_508 : decode cL_law 508 = .ok (.aload_n 0, 1) := by decide +kernel
theorem dL_law_509 : decode cL_law 509 = .ok (.iload_n 3, 1) := by decide +kernel
theorem dL_law_510 : decode cL_law 510 = .ok (.iconst 2, 1) := by decide +kernel
theorem dL_law_511 : decode cL_law 511 = .ok (.iadd, 1) := by decide +kernel
theorem dL_law_512 : decode cL_law 512 = .ok (.iaload, 1) := by decide +kernel
theorem dL_law_513 : decode cL_law 513 = .ok (.invokevirtual 83, 3) := by decide +kernel
theorem dL_law_516 : decode cL_law 516 = .ok (.if_icmp .eq 421, 3) := by decide +kernel
theorem dL_law_519 : decode cL_law 519 = .ok (.iconst 0, 1) := by decide +kernel
theorem dL_law_520 : decode cL_law 520 = .ok (.ireturn, 1) := by decide +kernel
theorem dL_law_521 : decode cL_law 521 = .ok (.aload_n 1, 1) := by decide +kernel
theorem dL_law_522 : decode cL_law 522 = .ok (.aload_n 0, 1) := by decide +kernel
theorem dL_law_523 : decode cL_law 523 = .ok (.iload_n 3, 1) := by decide +kernel
theorem dL_law_524 : decode cL_law 524 = .ok (.iconst 1, 1) := by decide +kernel
theorem dL_law_525 : decode cL_law 525 = .ok (.iadd, 1) := by decide +kernel
theorem dL_law_526 : decode cL_law 526 = .ok (.iaload, 1) := by decide +kernel
theorem dL_law_527 : decode cL_law 527 = .ok (.aload_n 0, 1) := by decide +kernel
theorem dL_law_528 : decode cL_law 528 = .ok (.iload_n 3, 1) := by decide +kernel
theorem dL_law_529 : decode cL_law 529 = .ok (.iconst 2, 1) := by decide +kernel
theorem dL_law_530 : decode cL_law 530 = .ok (.iadd, 1) := by decide +kernel
theorem dL_law_531 : decode cL_law 531 = .ok (.iaload, 1) := by decide +kernel
theorem dL_law_532 : decode cL_law 532 = .ok (.i2l, 1) := by decide +kernel
theorem dL_law_533 : decode cL_law 533 = .ok (.bipush 32, 2) := by decide +kernel
theorem dL_law_535 : decode cL_law 535 = .ok (.lshl, 1) := by decide +kernel
theorem dL_law_536 : decode cL_law 536 = .ok (.aload_n 0, 1) := by decide +kernel
theorem dL_law_537 : decode cL_law 537 = .ok (.iload_n 3, 1) := by decide +kernel
theorem dL_law_538 : decode cL_law 538 = .ok (.iconst 3, 1) := by decide +kernel
theorem dL_law_539 : decode cL_law 539 = .ok (.iadd, 1) := by decide +kernel
theorem dL_law_540 : decode cL_law 540 = .ok (.iaload, 1) := by decide +kernel
theorem dL_law_541 : decode cL_law 541 = .ok (.i2l, 1) := by decide +kernel
theorem dL_law_542 : decode cL_law 542 = .ok (.ldc2_w 84, 3) := by decide +kernel
theorem dL_law_545 : decode cL_law 545 = .ok (.land, 1) := by decide +kernel
theorem dL_law_546 : decode cL_law 546 = .ok (.lor, 1) := by decide +kernel
theorem dL_law_547 : decode cL_law 547 = .ok (.invokevirtual 86, 3) := by decide +kernel
theorem dL_law_550 : decode cL_law 550 = .ok (.aload_n 2, 1) := by decide +kernel
theorem dL_law_551 : decode cL_law 551 = .ok (.aload_n 0, 1) := by decide +kernel
theorem dL_law_552 : decode cL_law 552 = .ok (.iload_n 3, 1) := by decide +kernel
theorem dL_law_553 : decode cL_law 553 = .ok (.iconst 1, 1) := by decide +kernel
theorem dL_law_554 : decode cL_law 554 = .ok (.iadd, 1) := by decide +kernel
theorem dL_law_555 : decode cL_law 555 = .ok (.iaload, 1) := by decide +kernel
theorem dL_law_556 : decode cL_law 556 = .ok (.aload_n 0, 1) := by decide +kernel
theorem dL_law_557 : decode cL_law 557 = .ok (.iload_n 3, 1) := by decide +kernel
theorem dL_law_558 : decode cL_law 558 = .ok (.iconst 2, 1) := by decide +kernel
theorem dL_law_559 : decode cL_law 559 = .ok (.iadd, 1) := by decide +kernel
theorem dL_law_560 : decode cL_law 560 = .ok (.iaload, 1) := by decide +kernel
theorem dL_law_561 : decode cL_law 561 = .ok (.i2l, 1) := by decide +kernel
theorem dL_law_562 : decode cL_law 562 = .ok (.bipush 32, 2) := by decide +kernel
theorem dL_law_564 : decode cL_law 564 = .ok (.lshl, 1) := by decide +kernel
theorem dL_law_565 : decode cL_law 565 = .ok (.aload_n 0, 1) := by decide +kernel
theorem dL_law_566 : decode cL_law 566 = .ok (.iload_n 3, 1) := by decide +kernel
theorem dL_law_567 : decode cL_law 567 = .ok (.iconst 3, 1) := by decide +kernel
theorem dL_law_568 : decode cL_law 568 = .ok (.iadd, 1) := by decide +kernel
theorem dL_law_569 : decode cL_law 569 = .ok (.iaload, 1) := by decide +kernel
theorem dL_law_570 : decode cL_law 570 = .ok (.i2l, 1) := by decide +kernel
theorem dL_law_571 : decode cL_law 571 = .ok (.ldc2_w 84, 3) := by decide +kernel
theorem dL_law_574 : decode cL_law 574 = .ok (.land, 1) := by decide +kernel
theorem dL_law_575 : decode cL_law 575 = .ok (.lor, 1) := by decide +kernel
theorem dL_law_576 : decode cL_law 576 = .ok (.invokevirtual 90, 3) := by decide +kernel
theorem dL_law_579 : decode cL_law 579 = .ok (.if_icmp .eq 358, 3) := by decide +kernel
theorem dL_law_582 : decode cL_law 582 = .ok (.iconst 0, 1) := by decide +kernel
theorem dL_law_583 : decode cL_law 583 = .ok (.ireturn, 1) := by decide +kernel
theorem dL_law_584 : decode cL_law 584 = .ok (.aload_n 1, 1) := by decide +kernel
theorem dL_law_585 : decode cL_law 585 = .ok (.aload_n 0, 1) := by decide +kernel
theorem dL_law_586 : decode cL_law 586 = .ok (.iload_n 3, 1) := by decide +kernel
theorem dL_law_587 : decode cL_law 587 = .ok (.iconst 1, 1) := by decide +kernel
theorem dL_law_588 : decode cL_law 588 = .ok (.iadd, 1) := by decide +kernel
theorem dL_law_589 : decode cL_law 589 = .ok (.iaload, 1) := by decide +kernel
theorem dL_law_590 : decode cL_law 590 = .ok (.aload_n 0, 1) := by decide +kernel
theorem dL_law_591 : decode cL_law 591 = .ok (.iload_n 3, 1) := by decide +kernel
theorem dL_law_592 : decode cL_law 592 = .ok (.iconst 2, 1) := by decide +kernel
theorem dL_law_593 : decode cL_law 593 = .ok (.iadd, 1) := by decide +kernel
theorem dL_law_594 : decode cL_law 594 = .ok (.iaload, 1) := by decide +kernel
theorem dL_law_595 : decode cL_law 595 = .ok (.ifCond .eq 7, 3) := by decide +kernel
theorem dL_law_598 : decode cL_law 598 = .ok (.iconst 1, 1) := by decide +kernel
theorem dL_law_599 : decode cL_law 599 = .ok (.goto 4, 3) := by decide +kernel
theorem dL_law_602 : decode cL_law 602 = .ok (.iconst 0, 1) := by decide +kernel
theorem dL_law_603 : decode cL_law 603 = .ok (.invokevirtual 91, 3) := by decide +kernel
theorem dL_law_606 : decode cL_law 606 = .ok (.aload_n 2, 1) := by decide +kernel
theorem dL_law_607 : decode cL_law 607 = .ok (.aload_n 0, 1) := by decide +kernel
theorem dL_law_608 : decode cL_law 608 = .ok (.iload_n 3, 1) := by decide +kernel
theorem dL_law_609 : decode cL_law 609 = .ok (.iconst 1, 1) := by decide +kernel
theorem dL_law_610 : decode cL_law 610 = .ok (.iadd, 1) := by decide +kernel
theorem dL_law_611 : decode cL_law 611 = .ok (.iaload, 1) := by decide +kernel
theorem dL_law_612 : decode cL_law 612 = .ok (.aload_n 0, 1) := by decide +kernel
theorem dL_law_613 : decode cL_law 613 = .ok (.iload_n 3, 1) := by decide +kernel
theorem dL_law_614 : decode cL_law 614 = .ok (.iconst 2, 1) := by decide +kernel
theorem dL_law_615 : decode cL_law 615 = .ok (.iadd, 1) := by decide +kernel
theorem dL_law_616 : decode cL_law 616 = .ok (.iaload, 1) := by decide +kernel
theorem dL_law_617 : decode cL_law 617 = .ok (.ifCond .eq 7, 3) := by decide +kernel
theorem dL_law_620 : decode cL_law 620 = .ok (.iconst 1, 1) := by decide +kernel
theorem dL_law_621 : decode cL_law 621 = .ok (.goto 4, 3) := by decide +kernel
theorem dL_law_624 : decode cL_law 624 = .ok (.iconst 0, 1) := by decide +kernel
theorem dL_law_625 : decode cL_law 625 = .ok (.invokevirtual 95, 3) := by decide +kernel
theorem dL_law_628 : decode cL_law 628 = .ok (.if_icmp .eq 309, 3) := by decide +kernel
theorem dL_law_631 : decode cL_law 631 = .ok (.iconst 0, 1) := by decide +kernel
theorem dL_law_632 : decode cL_law 632 = .ok (.ireturn, 1) := by decide +kernel
theorem dL_law_633 : decode cL_law 633 = .ok (.aload_n 1, 1) := by decide +kernel
theorem dL_law_634 : decode cL_law 634 = .ok (.aload_n 0, 1) := by decide +kernel
theorem dL_law_635 : decode cL_law 635 = .ok (.iload_n 3, 1) := by decide +kernel
theorem dL_law_636 : decode cL_law 636 = .ok (.iconst 1, 1) := by decide +kernel
theorem dL_law_637 : decode cL_law 637 = .ok (.iadd, 1) := by decide +kernel
theorem dL_law_638 : decode cL_law 638 = .ok (.iaload, 1) := by decide +kernel
theorem dL_law_639 : decode cL_law 639 = .ok (.aload_n 0, 1) := by decide +kernel
theorem dL_law_640 : decode cL_law 640 = .ok (.iload_n 3, 1) := by decide +kernel
theorem dL_law_641 : decode cL_law 641 = .ok (.iconst 2, 1) := by decide +kernel
theorem dL_law_642 : decode cL_law 642 = .ok (.iadd, 1) := by decide +kernel
theorem dL_law_643 : decode cL_law 643 = .ok (.iaload, 1) := by decide +kernel
theorem dL_law_644 : decode cL_law 644 = .ok (.aload_n 0, 1) := by decide +kernel
theorem dL_law_645 : decode cL_law 645 = .ok (.iload_n 3, 1) := by decide +kernel
theorem dL_law_646 : decode cL_law 646 = .ok (.iconst 3, 1) := by decide +kernel
theorem dL_law_647 : decode cL_law 647 = .ok (.iadd, 1) := by decide +kernel
theorem dL_law_648 : decode cL_law 648 = .ok (.iaload, 1) := by decide +kernel
theorem dL_law_649 : decode cL_law 649 = .ok (.invokevirtual 96, 3) := by decide +kernel
theorem dL_law_652 : decode cL_law 652 = .ok (.aload_n 2, 1) := by decide +kernel
theorem dL_law_653 : decode cL_law 653 = .ok (.aload_n 0, 1) := by decide +kernel
theorem dL_law_654 : decode cL_law 654 = .ok (.iload_n 3, 1) := by decide +kernel
theorem dL_law_655 : decode cL_law 655 = .ok (.iconst 1, 1) := by decide +kernel
theorem dL_law_656 : decode cL_law 656 = .ok (.iadd, 1) := by decide +kernel
theorem dL_law_657 : decode cL_law 657 = .ok (.iaload, 1) := by decide +kernel
theorem dL_law_658 : decode cL_law 658 = .ok (.aload_n 0, 1) := by decide +kernel
theorem dL_law_659 : decode cL_law 659 = .ok (.iload_n 3, 1) := by decide +kernel
theorem dL_law_660 : decode cL_law 660 = .ok (.iconst 2, 1) := by decide +kernel
theorem dL_law_661 : decode cL_law 661 = .ok (.iadd, 1) := by decide +kernel
theorem dL_law_662 : decode cL_law 662 = .ok (.iaload, 1) := by decide +kernel
theorem dL_law_663 : decode cL_law 663 = .ok (.aload_n 0, 1) := by decide +kernel
theorem dL_law_664 : decode cL_law 664 = .ok (.iload_n 3, 1) := by decide +kernel
theorem dL_law_665 : decode cL_law 665 = .ok (.iconst 3, 1) := by decide +kernel
theorem dL_law_666 : decode cL_law 666 = .ok (.iadd, 1) := by decide +kernel
theorem dL_law_667 : decode cL_law 667 = .ok (.iaload, 1) := by decide +kernel
theorem dL_law_668 : decode cL_law 668 = .ok (.invokevirtual 100, 3) := by decide +kernel
theorem dL_law_671 : decode cL_law 671 = .ok (.if_icmp .eq 266, 3) := by decide +kernel
theorem dL_law_674 : decode cL_law 674 = .ok (.iconst 0, 1) := by decide +kernel
theorem dL_law_675 : decode cL_law 675 = .ok (.ireturn, 1) := by decide +kernel
theorem dL_law_676 : decode cL_law 676 = .ok (.aload_n 1, 1) := by decide +kernel
theorem dL_law_677 : decode cL_law 677 = .ok (.invokevirtual 101, 3) := by decide +kernel
theorem dL_law_680 : decode cL_law 680 = .ok (.aload_n 2, 1) := by decide +kernel
theorem dL_law_681 : decode cL_law 681 = .ok (.invokevirtual 104, 3) := by decide +kernel
theorem dL_law_684 : decode cL_law 684 = .ok (.if_icmp .eq 253, 3) := by decide +kernel
theorem dL_law_687 : decode cL_law 687 = .ok (.iconst 0, 1) := by decide +kernel
theorem dL_law_688 : decode cL_law 688 = .ok (.ireturn, 1) := by decide +kernel
theorem dL_law_689 : decode cL_law 689 = .ok (.aload_n 1, 1) := by decide +kernel
theorem dL_law_690 : decode cL_law 690 = .ok (.aload_n 0, 1) := by decide +kernel
theorem dL_law_691 : decode cL_law 691 = .ok (.iload_n 3, 1) := by decide +kernel
theorem dL_law_692 : decode cL_law 692 = .ok (.iconst 1, 1) := by decide +kernel
theorem dL_law_693 : decode cL_law 693 = .ok (.iadd, 1) := by decide +kernel
theorem dL_law_694 : decode cL_law 694 = .ok (.iaload, 1) := by decide +kernel
theorem dL_law_695 : decode cL_law 695 = .ok (.invokevirtual 105, 3) := by decide +kernel
theorem dL_law_698 : decode cL_law 698 = .ok (.aload_n 2, 1) := by decide +kernel
theorem dL_law_699 : decode cL_law 699 = .ok (.aload_n 0, 1) := by decide +kernel
theorem dL_law_700 : decode cL_law 700 = .ok (.iload_n 3, 1) := by decide +kernel
theorem dL_law_701 : decode cL_law 701 = .ok (.iconst 1, 1) := by decide +kernel
theorem dL_law_702 : decode cL_law 702 = .ok (.iadd, 1) := by decide +kernel
theorem dL_law_703 : decode cL_law 703 = .ok (.iaload, 1) := by decide +kernel
theorem dL_law_704 : decode cL_law 704 = .ok (.invokevirtual 108, 3) := by decide +kernel
theorem dL_law_707 : decode cL_law 707 = .ok (.if_icmp .eq 230, 3) := by decide +kernel
theorem dL_law_710 : decode cL_law 710 = .ok (.iconst 0, 1) := by decide +kernel
theorem dL_law_711 : decode cL_law 711 = .ok (.ireturn, 1) := by decide +kernel
theorem dL_law_712 : decode cL_law 712 = .ok (.aload_n 1, 1) := by decide +kernel
theorem dL_law_713 : decode cL_law 713 = .ok (.aload_n 0, 1) := by decide +kernel
theorem dL_law_714 : decode cL_law 714 = .ok (.iload_n 3, 1) := by decide +kernel
theorem dL_law_715 : decode cL_law 715 = .ok (.iconst 1, 1) := by decide +kernel
theorem dL_law_716 : decode cL_law 716 = .ok (.iadd, 1) := by decide +kernel
theorem dL_law_717 : decode cL_law 717 = .ok (.iaload, 1) := by decide +kernel
theorem dL_law_718 : decode cL_law 718 = .ok (.aload_n 0, 1) := by decide +kernel
theorem dL_law_719 : decode cL_law 719 = .ok (.iload_n 3, 1) := by decide +kernel
theorem dL_law_720 : decode cL_law 720 = .ok (.iconst 2, 1) := by decide +kernel
theorem dL_law_721 : decode cL_law 721 = .ok (.iadd, 1) := by decide +kernel
theorem dL_law_722 : decode cL_law 722 = .ok (.iaload, 1) := by decide +kernel
theorem dL_law_723 : decode cL_law 723 = .ok (.aload_n 0, 1) := by decide +kernel
theorem dL_law_724 : decode cL_law 724 = .ok (.iload_n 3, 1) := by decide +kernel
theorem dL_law_725 : decode cL_law 725 = .ok (.iconst 3, 1) := by decide +kernel
theorem dL_law_726 : decode cL_law 726 = .ok (.iadd, 1) := by decide +kernel
theorem dL_law_727 : decode cL_law 727 = .ok (.iaload, 1) := by decide +kernel
theorem dL_law_728 : decode cL_law 728 = .ok (.invokevirtual 109, 3) := by decide +kernel
theorem dL_law_731 : decode cL_law 731 = .ok (.aload_n 2, 1) := by decide +kernel
theorem dL_law_732 : decode cL_law 732 = .ok (.aload_n 0, 1) := by decide +kernel
theorem dL_law_733 : decode cL_law 733 = .ok (.iload_n 3, 1) := by decide +kernel
theorem dL_law_734 : decode cL_law 734 = .ok (.iconst 1, 1) := by decide +kernel
theorem dL_law_735 : decode cL_law 735 = .ok (.iadd, 1) := by decide +kernel
theorem dL_law_736 : decode cL_law 736 = .ok (.iaload, 1) := by decide +kernel
theorem dL_law_737 : decode cL_law 737 = .ok (.aload_n 0, 1) := by decide +kernel
theorem dL_law_738 : decode cL_law 738 = .ok (.iload_n 3, 1) := by decide +kernel
theorem dL_law_739 : decode cL_law 739 = .ok (.iconst 2, 1) := by decide +kernel
theorem dL_law_740 : decode cL_law 740 = .ok (.iadd, 1) := by decide +kernel
theorem dL_law_741 : decode cL_law 741 = .ok (.iaload, 1) := by decide +kernel
theorem dL_law_742 : decode cL_law 742 = .ok (.aload_n 0, 1) := by decide +kernel
theorem dL_law_743 : decode cL_law 743 = .ok (.iload_n 3, 1) := by decide +kernel
theorem dL_law_744 : decode cL_law 744 = .ok (.iconst 3, 1) := by decide +kernel
theorem dL_law_745 : decode cL_law 745 = .ok (.iadd, 1) := by decide +kernel
theorem dL_law_746 : decode cL_law 746 = .ok (.iaload, 1) := by decide +kernel
theorem dL_law_747 : decode cL_law 747 = .ok (.invokevirtual 112, 3) := by decide +kernel
theorem dL_law_750 : decode cL_law 750 = .ok (.if_icmp .eq 187, 3) := by decide +kernel
theorem dL_law_753 : decode cL_law 753 = .ok (.iconst 0, 1) := by decide +kernel
theorem dL_law_754 : decode cL_law 754 = .ok (.ireturn, 1) := by decide +kernel
theorem dL_law_755 : decode cL_law 755 = .ok (.aload_n 1, 1) := by decide +kernel
theorem dL_law_756 : decode cL_law 756 = .ok (.aload_n 0, 1) := by decide +kernel
theorem dL_law_757 : decode cL_law 757 = .ok (.iload_n 3, 1) := by decide +kernel
theorem dL_law_758 : decode cL_law 758 = .ok (.iconst 1, 1) := by decide +kernel
theorem dL_law_759 : decode cL_law 759 = .ok (.iadd, 1) := by decide +kernel
theorem dL_law_760 : decode cL_law 760 = .ok (.iaload, 1) := by decide +kernel
theorem dL_law_761 : decode cL_law 761 = .ok (.aload_n 0, 1) := by decide +kernel
theorem dL_law_762 : decode cL_law 762 = .ok (.iload_n 3, 1) := by decide +kernel
theorem dL_law_763 : decode cL_law 763 = .ok (.iconst 2, 1) := by decide +kernel
theorem dL_law_764 : decode cL_law 764 = .ok (.iadd, 1) := by decide +kernel
theorem dL_law_765 : decode cL_law 765 = .ok (.iaload, 1) := by decide +kernel
theorem dL_law_766 : decode cL_law 766 = .ok (.aload_n 0, 1) := by decide +kernel
theorem dL_law_767 : decode cL_law 767 = .ok (.iload_n 3, 1) := by decide +kernel
theorem dL_law_768 : decode cL_law 768 = .ok (.iconst 3, 1) := by decide +kernel
theorem dL_law_769 : decode cL_law 769 = .ok (.iadd, 1) := by decide +kernel
theorem dL_law_770 : decode cL_law 770 = .ok (.iaload, 1) := by decide +kernel
theorem dL_law_771 : decode cL_law 771 = .ok (.ifCond .eq 7, 3) := by decide +kernel
theorem dL_law_774 : decode cL_law 774 = .ok (.iconst 1, 1) := by decide +kernel
theorem dL_law_775 : decode cL_law 775 = .ok (.goto 4, 3) := by decide +kernel
theorem dL_law_778 : decode cL_law 778 = .ok (.iconst 0, 1) := by decide +kernel
theorem dL_law_779 : decode cL_law 779 = .ok (.invokevirtual 113, 3) := by decide +kernel
theorem dL_law_782 : decode cL_law 782 = .ok (.aload_n 2, 1) := by decide +kernel
theorem dL_law_783 : decode cL_law 783 = .ok (.aload_n 0, 1) := by decide +kernel
theorem dL_law_784 : decode cL_law 784 = .ok (.iload_n 3, 1) := by decide +kernel
theorem dL_law_785 : decode cL_law 785 = .ok (.iconst 1, 1) := by decide +kernel
theorem dL_law_786 : decode cL_law 786 = .ok (.iadd, 1) := by decide +kernel
theorem dL_law_787 : decode cL_law 787 = .ok (.iaload, 1) := by decide +kernel
theorem dL_law_788 : decode cL_law 788 = .ok (.aload_n 0, 1) := by decide +kernel
theorem dL_law_789 : decode cL_law 789 = .ok (.iload_n 3, 1) := by decide +kernel
theorem dL_law_790 : decode cL_law 790 = .ok (.iconst 2, 1) := by decide +kernel
theorem dL_law_791 : decode cL_law 791 = .ok (.iadd, 1) := by decide +kernel
theorem dL_law_792 : decode cL_law 792 = .ok (.iaload, 1) := by decide +kernel
theorem dL_law_793 : decode cL_law 793 = .ok (.aload_n 0, 1) := by decide +kernel
theorem dL_law_794 : decode cL_law 794 = .ok (.iload_n 3, 1) := by decide +kernel
theorem dL_law_795 : decode cL_law 795 = .ok (.iconst 3, 1) := by decide +kernel
theorem dL_law_796 : decode cL_law 796 = .ok (.iadd, 1) := by decide +kernel
theorem dL_law_797 : decode cL_law 797 = .ok (.iaload, 1) := by decide +kernel
theorem dL_law_798 : decode cL_law 798 = .ok (.ifCond .eq 7, 3) := by decide +kernel
theorem dL_law_801 : decode cL_law 801 = .ok (.iconst 1, 1) := by decide +kernel
theorem dL_law_802 : decode cL_law 802 = .ok (.goto 4, 3) := by decide +kernel
theorem dL_law_805 : decode cL_law 805 = .ok (.iconst 0, 1) := by decide +kernel
theorem dL_law_806 : decode cL_law 806 = .ok (.invokevirtual 117, 3) := by decide +kernel
theorem dL_law_809 : decode cL_law 809 = .ok (.if_icmp .eq 128, 3) := by decide +kernel
theorem dL_law_812 : decode cL_law 812 = .ok (.iconst 0, 1) := by decide +kernel
theorem dL_law_813 : decode cL_law 813 = .ok (.ireturn, 1) := by decide +kernel
theorem dL_law_814 : decode cL_law 814 = .ok (.aload_n 1, 1) := by decide +kernel
theorem dL_law_815 : decode cL_law 815 = .ok (.aload_n 0, 1) := by decide +kernel
theorem dL_law_816 : decode cL_law 816 = .ok (.iload_n 3, 1) := by decide +kernel
theorem dL_law_817 : decode cL_law 817 = .ok (.iconst 1, 1) := by decide +kernel
theorem dL_law_818 : decode cL_law 818 = .ok (.iadd, 1) := by decide +kernel
theorem dL_law_819 : decode cL_law 819 = .ok (.iaload, 1) := by decide +kernel
theorem dL_law_820 : decode cL_law 820 = .ok (.i2l, 1) := by decide +kernel
theorem dL_law_821 : decode cL_law 821 = .ok (.bipush 32, 2) := by decide +kernel
theorem dL_law_823 : decode cL_law 823 = .ok (.lshl, 1) := by decide +kernel
theorem dL_law_824 : decode cL_law 824 = .ok (.aload_n 0, 1) := by decide +kernel
theorem dL_law_825 : decode cL_law 825 = .ok (.iload_n 3, 1) := by decide +kernel
theorem dL_law_826 : decode cL_law 826 = .ok (.iconst 2, 1) := by decide +kernel
theorem dL_law_827 : decode cL_law 827 = .ok (.iadd, 1) := by decide +kernel
theorem dL_law_828 : decode cL_law 828 = .ok (.iaload, 1) := by decide +kernel
theorem dL_law_829 : decode cL_law 829 = .ok (.i2l, 1) := by decide +kernel
theorem dL_law_830 : decode cL_law 830 = .ok (.ldc2_w 84, 3) := by decide +kernel
theorem dL_law_833 : decode cL_law 833 = .ok (.land, 1) := by decide +kernel
theorem dL_law_834 : decode cL_law 834 = .ok (.lor, 1) := by decide +kernel
theorem dL_law_835 : decode cL_law 835 = .ok (.invokevirtual 118, 3) := by decide +kernel
theorem dL_law_838 : decode cL_law 838 = .ok (.aload_n 2, 1) := by decide +kernel
theorem dL_law_839 : decode cL_law 839 = .ok (.aload_n 0, 1) := by decide +kernel
theorem dL_law_840 : decode cL_law 840 = .ok (.iload_n 3, 1) := by decide +kernel
theorem dL_law_841 : decode cL_law 841 = .ok (.iconst 1, 1) := by decide +kernel
theorem dL_law_842 : decode cL_law 842 = .ok (.iadd, 1) := by decide +kernel
theorem dL_law_843 : decode cL_law 843 = .ok (.iaload, 1) := by decide +kernel
theorem dL_law_844 : decode cL_law 844 = .ok (.i2l, 1) := by decide +kernel
theorem dL_law_845 : decode cL_law 845 = .ok (.bipush 32, 2) := by decide +kernel
theorem dL_law_847 : decode cL_law 847 = .ok (.lshl, 1) := by decide +kernel
theorem dL_law_848 : decode cL_law 848 = .ok (.aload_n 0, 1) := by decide +kernel
theorem dL_law_849 : decode cL_law 849 = .ok (.iload_n 3, 1) := by decide +kernel
theorem dL_law_850 : decode cL_law 850 = .ok (.iconst 2, 1) := by decide +kernel
theorem dL_law_851 : decode cL_law 851 = .ok (.iadd, 1) := by decide +kernel
theorem dL_law_852 : decode cL_law 852 = .ok (.iaload, 1) := by decide +kernel
theorem dL_law_853 : decode cL_law 853 = .ok (.i2l, 1) := by decide +kernel
theorem dL_law_854 : decode cL_law 854 = .ok (.ldc2_w 84, 3) := by decide +kernel
theorem dL_law_857 : decode cL_law 857 = .ok (.land, 1) := by decide +kernel
theorem dL_law_858 : decode cL_law 858 = .ok (.lor, 1) := by decide +kernel
theorem dL_law_859 : decode cL_law 859 = .ok (.invokevirtual 122, 3) := by decide +kernel
theorem dL_law_862 : decode cL_law 862 = .ok (.lcmp, 1) := by decide +kernel
theorem dL_law_863 : decode cL_law 863 = .ok (.ifCond .eq 74, 3) := by decide +kernel
theorem dL_law_866 : decode cL_law 866 = .ok (.iconst 0, 1) := by decide +kernel
theorem dL_law_867 : decode cL_law 867 = .ok (.ireturn, 1) := by decide +kernel
theorem dL_law_868 : decode cL_law 868 = .ok (.aload_n 1, 1) := by decide +kernel
theorem dL_law_869 : decode cL_law 869 = .ok (.aload_n 0, 1) := by decide +kernel
theorem dL_law_870 : decode cL_law 870 = .ok (.iload_n 3, 1) := by decide +kernel
theorem dL_law_871 : decode cL_law 871 = .ok (.iconst 1, 1) := by decide +kernel
theorem dL_law_872 : decode cL_law 872 = .ok (.iadd, 1) := by decide +kernel
theorem dL_law_873 : decode cL_law 873 = .ok (.iaload, 1) := by decide +kernel
theorem dL_law_874 : decode cL_law 874 = .ok (.invokevirtual 123, 3) := by decide +kernel
theorem dL_law_877 : decode cL_law 877 = .ok (.aload_n 2, 1) := by decide +kernel
theorem dL_law_878 : decode cL_law 878 = .ok (.aload_n 0, 1) := by decide +kernel
theorem dL_law_879 : decode cL_law 879 = .ok (.iload_n 3, 1) := by decide +kernel
theorem dL_law_880 : decode cL_law 880 = .ok (.iconst 1, 1) := by decide +kernel
theorem dL_law_881 : decode cL_law 881 = .ok (.iadd, 1) := by decide +kernel
theorem dL_law_882 : decode cL_law 882 = .ok (.iaload, 1) := by decide +kernel
theorem dL_law_883 : decode cL_law 883 = .ok (.invokevirtual 126, 3) := by decide +kernel
theorem dL_law_886 : decode cL_law 886 = .ok (.if_icmp .eq 51, 3) := by decide +kernel
theorem dL_law_889 : decode cL_law 889 = .ok (.iconst 0, 1) := by decide +kernel
theorem dL_law_890 : decode cL_law 890 = .ok (.ireturn, 1) := by decide +kernel
theorem dL_law_891 : decode cL_law 891 = .ok (.aload_n 1, 1) := by decide +kernel
theorem dL_law_892 : decode cL_law 892 = .ok (.aload_n 0, 1) := by decide +kernel
theorem dL_law_893 : decode cL_law 893 = .ok (.iload_n 3, 1) := by decide +kernel
theorem dL_law_894 : decode cL_law 894 = .ok (.iconst 1, 1) := by decide +kernel
theorem dL_law_895 : decode cL_law 895 = .ok (.iadd, 1) := by decide +kernel
theorem dL_law_896 : decode cL_law 896 = .ok (.iaload, 1) := by decide +kernel
theorem dL_law_897 : decode cL_law 897 = .ok (.invokevirtual 127, 3) := by decide +kernel
theorem dL_law_900 : decode cL_law 900 = .ok (.aload_n 2, 1) := by decide +kernel
theorem dL_law_901 : decode cL_law 901 = .ok (.aload_n 0, 1) := by decide +kernel
theorem dL_law_902 : decode cL_law 902 = .ok (.iload_n 3, 1) := by decide +kernel
theorem dL_law_903 : decode cL_law 903 = .ok (.iconst 1, 1) := by decide +kernel
theorem dL_law_904 : decode cL_law 904 = .ok (.iadd, 1) := by decide +kernel
theorem dL_law_905 : decode cL_law 905 = .ok (.iaload, 1) := by decide +kernel
theorem dL_law_906 : decode cL_law 906 = .ok (.invokevirtual 130, 3) := by decide +kernel
theorem dL_law_909 : decode cL_law 909 = .ok (.if_icmp .eq 28, 3) := by decide +kernel
theorem dL_law_912 : decode cL_law 912 = .ok (.iconst 0, 1) := by decide +kernel
theorem dL_law_913 : decode cL_law 913 = .ok (.ireturn, 1) := by decide +kernel
theorem dL_law_914 : decode cL_law 914 = .ok (.aload_n 1, 1) := by decide +kernel
theorem dL_law_915 : decode cL_law 915 = .ok (.aload_n 0, 1) := by decide +kernel
theorem dL_law_916 : decode cL_law 916 = .ok (.iload_n 3, 1) := by decide +kernel
theorem dL_law_917 : decode cL_law 917 = .ok (.iconst 1, 1) := by decide +kernel
theorem dL_law_918 : decode cL_law 918 = .ok (.iadd, 1) := by decide +kernel
theorem dL_law_919 : decode cL_law 919 = .ok (.iaload, 1) := by decide +kernel
theorem dL_law_920 : decode cL_law 920 = .ok (.invokevirtual 131, 3) := by decide +kernel
theorem dL_law_923 : decode cL_law 923 = .ok (.aload_n 2, 1) := by decide +kernel
theorem dL_law_924 : decode cL_law 924 = .ok (.aload_n 0, 1) := by decide +kernel
theorem dL_law_925 : decode cL_law 925 = .ok (.iload_n 3, 1) := by decide +kernel
theorem dL_law_926 : decode cL_law 926 = .ok (.iconst 1, 1) := by decide +kernel
theorem dL_law_927 : decode cL_law 927 = .ok (.iadd, 1) := by decide +kernel
theorem dL_law_928 : decode cL_law 928 = .ok (.iaload, 1) := by decide +kernel
theorem dL_law_929 : decode cL_law 929 = .ok (.invokevirtual 134, 3) := by decide +kernel
theorem dL_law_932 : decode cL_law 932 = .ok (.if_icmp .eq 5, 3) := by decide +kernel
theorem dL_law_935 : decode cL_law 935 = .ok (.iconst 0, 1) := by decide +kernel
theorem dL_law_936 : decode cL_law 936 = .ok (.ireturn, 1) := by decide +kernel
theorem dL_law_937 : decode cL_law 937 = .ok (.iinc 3 4, 3) := by decide +kernel
theorem dL_law_940 : decode cL_law 940 = .ok (.goto (-922), 3) := by decide +kernel
theorem dL_law_943 : decode cL_law 943 = .ok (.iconst 1, 1) := by decide +kernel
theorem dL_law_944 : decode cL_law 944 = .ok (.ireturn, 1) := by decide +kernel
end
section
/-! THE SMALL MACHINE: places instead of addresses; memory = ints and longs by place and slot; everything that refers stays as it was made. -/
/-- memory: ints, longs, by place and slot -/
abbrev ab_M : Type := (Nat → Nat → Int32) × (Nat → Nat → Int64)
abbrev ab_L : Type := List (Option Value)
abbrev ab_K : Type := Nat → ab_L → List Value → ab_M → Prop
abbrev ab_P : Type := Option Value → ab_M → Prop
abbrev ab_Sem : Type := List Value → ab_M → ab_P → Prop
/-- a field: a reference to a place, or an int (false), a long (true) -/
abbrev ab_F : Type := Nat ⊕ Bool
/-- a place: an object (its class, its fields) or an array (type, length) -/
abbrev ab_S : Type := (Nat × List ab_F) ⊕ (FieldType × Nat)
def ab_si (M : ab_M) (q k : Nat) (x : Int32) : ab_M := (fun a b => if a = q ∧ b = k then x else M.1 a b, M.2)
def ab_sl (M : ab_M) (q k : Nat) (x : Int64) : ab_M := (M.1, fun a b => if a = q ∧ b = k then x else M.2 a b)
def ab_sh : List ab_S := [
  .inl (8, [.inl 1, .inl 3, .inl 8, .inl 12, .inl 14, .inl 16, .inl 20, .inl 25, .inl 29, .inr true]),
  .inl (5, [.inl 2, .inr false]),
  .inr (.int, 48),
  .inl (4, [.inl 4, .inl 5, .inl 6, .inl 7, .inr false, .inr false]),
  .inr (.int, 8), .inr (.int, 8), .inr (.int, 8), .inr (.int, 72),
  .inl (7, [.inl 9, .inl 10, .inl 11, .inr false]),
  .inr (.int, 5), .inr (.int, 5), .inr (.int, 5),
  .inl (2, [.inl 3, .inl 8, .inl 13, .inr false, .inr false, .inr false]),
  .inr (.int, 5),
  .inl (0, [.inl 15, .inr false]),
  .inr (.long, 14),
  .inl (3, [.inl 12, .inl 18, .inl 17]),
  .inr (.int, 4),
  .inl (2, [.inl 3, .inl 8, .inl 19, .inr false, .inr false, .inr false]),
  .inr (.int, 5),
  .inl (1, [.inl 12, .inl 23, .inl 21, .inl 22]),
  .inr (.int, 4), .inr (.int, 4),
  .inl (2, [.inl 3, .inl 8, .inl 24, .inr false, .inr false, .inr false]),
  .inr (.int, 5),
  .inl (6, [.inl 26, .inl 27, .inl 28, .inr false]),
  .inr (.int, 6), .inr (.int, 6), .inr (.boolean, 6),
  .inr (.long, 2),
  .inl (9, [.inr false, .inl 31, .inr false, .inr false, .inr false, .inl 32, .inl 33, .inr false, .inl 34, .inl 35, .inr false, .inr false, .inl 36, .inr false, .inl 37, .inl 38, .inl 39, .inl 40, .inl 41, .inr false, .inl 42, .inl 43, .inr false, .inl 44, .inl 45, .inl 46, .inr true, .inr false, .inr false, .inr false, .inr false, .inr false, .inr false, .inl 47, .inl 48, .inr false]),
  .inr (.int, 48), .inr (.int, 8), .inr (.int, 8), .inr (.int, 5), .inr (.int, 5), .inr (.int, 16), .inr (.int, 15), .inr (.int, 7), .inr (.int, 7), .inr (.int, 7), .inr (.int, 98), .inr (.int, 14), .inr (.boolean, 2), .inr (.int, 6), .inr (.int, 6), .inr (.int, 6), .inr (.int, 8), .inr (.int, 32)]
/-- a field read, by its place, the class that the link names, its slot -/
def ab_rf (q ci k : Nat) (M : ab_M) : Option Value := match ab_sh[q]? with
  | some (.inl (c, fs)) => if c = ci then (match fs[k]? with
    | some (.inl r) => some (.ref r)
    | some (.inr false) => some (.int (M.1 q k))
    | some (.inr true) => some (.long (M.2 q k))
    | none => none) else none
  | _ => none
/-- a field written -/
def ab_wf (q ci k : Nat) (v : Value) (M : ab_M) : Option ab_M := match ab_sh[q]? with
  | some (.inl (c, fs)) => if c = ci then (match fs[k]?, v with
    | some (.inr false), .int x => some (ab_si M q k x)
    | some (.inr true), .long x => some (ab_sl M q k x)
    | _, _ => none) else none
  | _ => none
def ab_al (q : Nat) : Option (FieldType × Nat) := match ab_sh[q]? with
  | some (.inr a) => some a
  | _ => none
def ab_lk {α : Type} : List (Nat × α) → Nat → Option α
  | [], _ => none
  | (i, x) :: t, j => if i = j then some x else ab_lk t j
/-- a local may be stored into: it is there, and isn't the second half of a long -/
def ab_nl : ab_L → Nat → Bool
  | [], _ => false
  | _ :: _, 0 => true
  | a :: t, 1 => (match a with | some (.long _) => false | some (.double _) => false | _ => true) && !t.isEmpty
  | _ :: t, i + 2 => ab_nl t (i + 1)
def ab_pp : Nat → List Value → List Value → (List Value → List Value → Prop) → Prop
  | 0, acc, st, k => k acc st
  | n + 1, acc, v :: st, k => ab_pp n (v :: acc) st k
  | _ + 1, _, [], _ => False
def ab_tsw (pc : Nat) (x : Int32) (kk : Nat → Prop) (d : Int) : Int → List Int → Prop
  | _, [] => 0 ≤ (pc : Int) + d ∧ kk ((pc : Int) + d).toNat
  | lo, o :: os => if x.toInt = lo then (0 ≤ (pc : Int) + o ∧ kk ((pc : Int) + o).toNat) else ab_tsw pc x kk d (lo + 1) os
/-- what the method answers: fits its type -/
def ab_rn : Option FieldType → Int32 → Prop
  | some .int, _ => True
  | some .boolean, v => v = 0 ∨ v = 1
  | _, _ => False
/-- tables that nobody writes: type, length, what they hold -/
abbrev ab_R : Type := List (Nat × FieldType × Nat × (Nat → Value))
/-- a method's surroundings: return type; field links (class, slot); calls (how many are popped, what it does); long constants; statics; tables -/
abbrev ab_X : Type := Option FieldType × List (Nat × Nat × Nat) × List (Nat × Nat × ab_Sem) × List (Nat × Int64) × List (Nat × Nat) × ab_R
def ab_j (pc : Nat) (off : Int) (k : Nat → Prop) : Prop := 0 ≤ (pc : Int) + off ∧ k ((pc : Int) + off).toNat
def ab_ia (X : ab_X) (M : ab_M) (q : Nat) (i : Int32) (k : Value → Prop) : Prop := match ab_al q with
  | some (ty, n) => ty = .int ∧ (0 ≤ i ∧ i < Int32.ofNat n) ∧ k (.int (M.1 q i.toNatClampNeg))
  | none => match ab_lk X.2.2.2.2.2 q with
    | some (ty, n, f) => ty = .int ∧ (0 ≤ i ∧ i < Int32.ofNat n) ∧ k (f i.toNatClampNeg)
    | none => False
def ab_la (X : ab_X) (M : ab_M) (q : Nat) (i : Int32) (k : Value → Prop) : Prop := match ab_al q with
  | some (ty, n) => ty = .long ∧ (0 ≤ i ∧ i < Int32.ofNat n) ∧ k (.long (M.2 q i.toNatClampNeg))
  | none => match ab_lk X.2.2.2.2.2 q with
    | some (ty, n, f) => ty = .long ∧ (0 ≤ i ∧ i < Int32.ofNat n) ∧ k (f i.toNatClampNeg)
    | none => False
def ab_za (M : ab_M) (q : Nat) (i : Int32) (k : Value → Prop) : Prop := match ab_al q with
  | some (ty, n) => ty = .boolean ∧ (0 ≤ i ∧ i < Int32.ofNat n) ∧ k (.int (M.1 q i.toNatClampNeg))
  | none => False
def ab_is (M : ab_M) (q : Nat) (i x : Int32) (k : ab_M → Prop) : Prop := match ab_al q with
  | some (ty, n) => ty = .int ∧ (0 ≤ i ∧ i < Int32.ofNat n) ∧ k (ab_si M q i.toNatClampNeg x)
  | none => False
def ab_zs (M : ab_M) (q : Nat) (i x : Int32) (k : ab_M → Prop) : Prop := match ab_al q with
  | some (ty, n) => ty = .boolean ∧ (0 ≤ i ∧ i < Int32.ofNat n) ∧ k (ab_si M q i.toNatClampNeg (vp_nar .boolean x))
  | none => False
def ab_ls (M : ab_M) (q : Nat) (i : Int32) (x : Int64) (k : ab_M → Prop) : Prop := match ab_al q with
  | some (ty, n) => ty = .long ∧ (0 ≤ i ∧ i < Int32.ofNat n) ∧ k (ab_sl M q i.toNatClampNeg x)
  | none => False
def ab_len (X : ab_X) (q : Nat) (k : Int32 → Prop) : Prop := match ab_al q with
  | some (_, n) => k (Int32.ofNat n)
  | none => match ab_lk X.2.2.2.2.2 q with
    | some (_, n, _) => k (Int32.ofNat n)
    | none => False
def ab_ca (X : ab_X) (idx : Nat) (st : List Value) (M : ab_M) (k : List Value → ab_M → Prop) : Prop := match ab_lk X.2.2.1 idx with
  | some (n, f) => ab_pp n [] st (fun as rest => rest.length ≤ 4 ∧ f as M (fun r M' => k (r.toList ++ rest) M'))
  | none => False
def ab_gf (X : ab_X) (idx q : Nat) (M : ab_M) (k : Value → Prop) : Prop := match ab_lk X.2.1 idx with
  | some (ci, sl) => (match ab_rf q ci sl M with | some v => k v | none => False)
  | none => False
def ab_pf (X : ab_X) (idx q : Nat) (v : Value) (M : ab_M) (k : ab_M → Prop) : Prop := match ab_lk X.2.1 idx with
  | some (ci, sl) => (match ab_wf q ci sl v M with | some M' => k M' | none => False)
  | none => False
/-- one step, backwards -/
def ab_st (X : ab_X) (Post : ab_P) (i : Instr) (pc : Nat) (lv : ab_L) (st : List Value) (M : ab_M) (k : ab_K) : Prop := match i with
  | .iconst n => k (pc + 1) lv (.int (Int32.ofInt n) :: st) M
  | .bipush n => k (pc + 2) lv (.int (Int8.ofInt n).toInt32 :: st) M
  | .sipush n => k (pc + 3) lv (.int (Int16.ofInt n).toInt32 :: st) M
  | .lconst n => k (pc + 1) lv (.long (Int64.ofNat (n : Nat)) :: st) M
  | .iload_n j => (match lv[(j : Nat)]? with | some (some (.int x)) => k (pc + 1) lv (.int x :: st) M | _ => False)
  | .iload j => (match lv[j]? with | some (some (.int x)) => k (pc + 2) lv (.int x :: st) M | _ => False)
  | .lload_n j => (match lv[(j : Nat)]? with | some (some (.long x)) => k (pc + 1) lv (.long x :: st) M | _ => False)
  | .lload j => (match lv[j]? with | some (some (.long x)) => k (pc + 2) lv (.long x :: st) M | _ => False)
  | .aload_n j => (match lv[(j : Nat)]? with | some (some (.ref x)) => k (pc + 1) lv (.ref x :: st) M | _ => False)
  | .istore_n j => (match st with | .int x :: st => ab_nl lv j = true ∧ k (pc + 1) (lv.set j (some (.int x))) st M | _ => False)
  | .istore j => (match st with | .int x :: st => ab_nl lv j = true ∧ k (pc + 2) (lv.set j (some (.int x))) st M | _ => False)
  | .lstore_n j => (match st with | .long x :: st => ab_nl lv j = true ∧ (j : Nat) + 1 < lv.length ∧ k (pc + 1) ((lv.set j (some (.long x))).set (j + 1) none) st M | _ => False)
  | .lstore j => (match st with | .long x :: st => ab_nl lv j = true ∧ (j : Nat) + 1 < lv.length ∧ k (pc + 2) ((lv.set j (some (.long x))).set (j + 1) none) st M | _ => False)
  | .astore_n j => (match st with | .ref x :: st => ab_nl lv j = true ∧ k (pc + 1) (lv.set j (some (.ref x))) st M | _ => False)
  | .iinc j n => (match lv[j]? with | some (some (.int x)) => k (pc + 3) (lv.set j (some (.int (x + Int32.ofInt n)))) st M | _ => False)
  | .iadd => (match st with | .int y :: .int x :: st => k (pc + 1) lv (.int (x + y) :: st) M | _ => False)
  | .isub => (match st with | .int y :: .int x :: st => k (pc + 1) lv (.int (x - y) :: st) M | _ => False)
  | .imul => (match st with | .int y :: .int x :: st => k (pc + 1) lv (.int (x * y) :: st) M | _ => False)
  | .idiv => (match st with | .int y :: .int x :: st => ¬ y = 0 ∧ k (pc + 1) lv (.int (x / y) :: st) M | _ => False)
  | .irem => (match st with | .int y :: .int x :: st => ¬ y = 0 ∧ k (pc + 1) lv (.int (x - x / y * y) :: st) M | _ => False)
  | .ineg => (match st with | .int x :: st => k (pc + 1) lv (.int (-x) :: st) M | _ => False)
  | .iand => (match st with | .int y :: .int x :: st => k (pc + 1) lv (.int (x &&& y) :: st) M | _ => False)
  | .ior => (match st with | .int y :: .int x :: st => k (pc + 1) lv (.int (x ||| y) :: st) M | _ => False)
  | .ixor => (match st with | .int y :: .int x :: st => k (pc + 1) lv (.int (x ^^^ y) :: st) M | _ => False)
  | .ishl => (match st with | .int y :: .int x :: st => k (pc + 1) lv (.int (x <<< (y &&& 31)) :: st) M | _ => False)
  | .ishr => (match st with | .int y :: .int x :: st => k (pc + 1) lv (.int (x >>> (y &&& 31)) :: st) M | _ => False)
  | .iushr => (match st with | .int y :: .int x :: st => k (pc + 1) lv (.int (x.toUInt32 >>> (y.toUInt32 &&& Int32.toUInt32 31)).toInt32 :: st) M | _ => False)
  | .ladd => (match st with | .long y :: .long x :: st => k (pc + 1) lv (.long (x + y) :: st) M | _ => False)
  | .lsub => (match st with | .long y :: .long x :: st => k (pc + 1) lv (.long (x - y) :: st) M | _ => False)
  | .lmul => (match st with | .long y :: .long x :: st => k (pc + 1) lv (.long (x * y) :: st) M | _ => False)
  | .ldiv => (match st with | .long y :: .long x :: st => ¬ y = 0 ∧ k (pc + 1) lv (.long (x / y) :: st) M | _ => False)
  | .lrem => (match st with | .long y :: .long x :: st => ¬ y = 0 ∧ k (pc + 1) lv (.long (x - x / y * y) :: st) M | _ => False)
  | .land => (match st with | .long y :: .long x :: st => k (pc + 1) lv (.long (x &&& y) :: st) M | _ => False)
  | .lor => (match st with | .long y :: .long x :: st => k (pc + 1) lv (.long (x ||| y) :: st) M | _ => False)
  | .lshl => (match st with | .int y :: .long x :: st => k (pc + 1) lv (.long (x <<< (y.toInt64 &&& 63)) :: st) M | _ => False)
  | .lushr => (match st with | .int y :: .long x :: st => k (pc + 1) lv (.long (x.toUInt64 >>> (y.toInt64.toUInt64 &&& Int64.toUInt64 63)).toInt64 :: st) M | _ => False)
  | .lcmp => (match st with | .long y :: .long x :: st => k (pc + 1) lv (.int (lg_cmp x y) :: st) M | _ => False)
  | .i2l => (match st with | .int x :: st => k (pc + 1) lv (.long x.toInt64 :: st) M | _ => False)
  | .l2i => (match st with | .long x :: st => k (pc + 1) lv (.int x.toInt32 :: st) M | _ => False)
  | .dup => (match st with | .int x :: st => k (pc + 1) lv (.int x :: .int x :: st) M | .ref x :: st => k (pc + 1) lv (.ref x :: .ref x :: st) M | _ => False)
  | .pop => (match st with | .int _ :: st => k (pc + 1) lv st M | _ => False)
  | .dup2 => (match st with | .int x :: .ref y :: st => k (pc + 1) lv (.int x :: .ref y :: .int x :: .ref y :: st) M | _ => False)
  | .goto off => ab_j pc off (fun t => k t lv st M)
  | .ifCond .eq off => (match st with | .int x :: st => 0 ≤ (pc : Int) + off ∧ if x = 0 then k ((pc : Int) + off).toNat lv st M else k (pc + 3) lv st M | _ => False)
  | .ifCond .ne off => (match st with | .int x :: st => 0 ≤ (pc : Int) + off ∧ if x = 0 then k (pc + 3) lv st M else k ((pc : Int) + off).toNat lv st M | _ => False)
  | .ifCond .lt off => (match st with | .int x :: st => 0 ≤ (pc : Int) + off ∧ if x < 0 then k ((pc : Int) + off).toNat lv st M else k (pc + 3) lv st M | _ => False)
  | .ifCond .ge off => (match st with | .int x :: st => 0 ≤ (pc : Int) + off ∧ if x < 0 then k (pc + 3) lv st M else k ((pc : Int) + off).toNat lv st M | _ => False)
  | .ifCond .gt off => (match st with | .int x :: st => 0 ≤ (pc : Int) + off ∧ if 0 < x then k ((pc : Int) + off).toNat lv st M else k (pc + 3) lv st M | _ => False)
  | .ifCond .le off => (match st with | .int x :: st => 0 ≤ (pc : Int) + off ∧ if 0 < x then k (pc + 3) lv st M else k ((pc : Int) + off).toNat lv st M | _ => False)
  | .if_icmp .eq off => (match st with | .int y :: .int x :: st => 0 ≤ (pc : Int) + off ∧ if x = y then k ((pc : Int) + off).toNat lv st M else k (pc + 3) lv st M | _ => False)
  | .if_icmp .ne off => (match st with | .int y :: .int x :: st => 0 ≤ (pc : Int) + off ∧ if x = y then k (pc + 3) lv st M else k ((pc : Int) + off).toNat lv st M | _ => False)
  | .if_icmp .lt off => (match st with | .int y :: .int x :: st => 0 ≤ (pc : Int) + off ∧ if x < y then k ((pc : Int) + off).toNat lv st M else k (pc + 3) lv st M | _ => False)
  | .if_icmp .ge off => (match st with | .int y :: .int x :: st => 0 ≤ (pc : Int) + off ∧ if x < y then k (pc + 3) lv st M else k ((pc : Int) + off).toNat lv st M | _ => False)
  | .if_icmp .gt off => (match st with | .int y :: .int x :: st => 0 ≤ (pc : Int) + off ∧ if y < x then k ((pc : Int) + off).toNat lv st M else k (pc + 3) lv st M | _ => False)
  | .if_icmp .le off => (match st with | .int y :: .int x :: st => 0 ≤ (pc : Int) + off ∧ if y < x then k (pc + 3) lv st M else k ((pc : Int) + off).toNat lv st M | _ => False)
  | .tableswitch d lo hi offs => (match st with | .int x :: st => (offs.size : Int) = hi - lo + 1 ∧ ab_tsw pc x (fun t => k t lv st M) d lo offs.toList | _ => False)
  | .iaload => (match st with | .int i :: .ref q :: st => ab_ia X M q i (fun v => k (pc + 1) lv (v :: st) M) | _ => False)
  | .laload => (match st with | .int i :: .ref q :: st => ab_la X M q i (fun v => k (pc + 1) lv (v :: st) M) | _ => False)
  | .baload => (match st with | .int i :: .ref q :: st => ab_za M q i (fun v => k (pc + 1) lv (v :: st) M) | _ => False)
  | .iastore => (match st with | .int x :: .int i :: .ref q :: st => ab_is M q i x (fun M => k (pc + 1) lv st M) | _ => False)
  | .bastore => (match st with | .int x :: .int i :: .ref q :: st => ab_zs M q i x (fun M => k (pc + 1) lv st M) | _ => False)
  | .lastore => (match st with | .long x :: .int i :: .ref q :: st => ab_ls M q i x (fun M => k (pc + 1) lv st M) | _ => False)
  | .arraylength => (match st with | .ref q :: st => ab_len X q (fun n => k (pc + 1) lv (.int n :: st) M) | _ => False)
  | .getfield idx => (match st with | .ref q :: st => ab_gf X idx q M (fun v => k (pc + 3) lv (v :: st) M) | _ => False)
  | .putfield idx => (match st with | v :: .ref q :: st => ab_pf X idx q v M (fun M => k (pc + 3) lv st M) | _ => False)
  | .getstatic idx => (match ab_lk X.2.2.2.2.1 idx with | some r => k (pc + 3) lv (.ref r :: st) M | none => False)
  | .ldc idx => (match ab_lk X.2.2.2.1 (idx + 100000) with | some v => k (pc + 2) lv (.int v.toInt32 :: st) M | none => False)
  | .ldc2_w idx => (match ab_lk X.2.2.2.1 idx with | some v => idx < 100000 ∧ k (pc + 3) lv (.long v :: st) M | none => False)
  | .invokevirtual idx => ab_ca X (2 * idx) st M (fun st M => k (pc + 3) lv st M)
  | .invokestatic idx => ab_ca X (2 * idx + 1) st M (fun st M => k (pc + 3) lv st M)
  | .ireturn => (match st with | [.int v] => ab_rn X.1 v ∧ Post (some (.int v)) M | _ => False)
  | .lreturn => (match st with | [.long v] => X.1 = some .long ∧ Post (some (.long v)) M | _ => False)
  | .return_ => (match st with | [] => X.1 = none ∧ Post none M | _ => False)
  | _ => False
/-- an instruction's length, as the kit's rows want it -/
def ab_lo (i : Instr) (len : Nat) : Prop := match i with
  | .bipush _ => len = 2
  | .ldc _ => len = 2
  | .iload _ => len = 2
  | .lload _ => len = 2
  | .istore _ => len = 2
  | .lstore _ => len = 2
  | .sipush _ => len = 3
  | .iinc _ _ => len = 3
  | .goto _ => len = 3
  | .ifCond _ _ => len = 3
  | .if_icmp _ _ => len = 3
  | .getfield _ => len = 3
  | .putfield _ => len = 3
  | .getstatic _ => len = 3
  | .ldc2_w _ => len = 3
  | .invokevirtual _ => len = 3
  | .invokestatic _ => len = 3
  | .tableswitch _ _ _ _ => True
  | _ => len = 1
def ab_ds (X : ab_X) (Post : ab_P) (d : Except DecodeError (Instr × Nat)) (pc : Nat) (lv : ab_L) (st : List Value) (M : ab_M) (k : ab_K) : Prop := match d with
  | .ok i => ab_lo i.1 i.2 ∧ ab_st X Post i.1 pc lv st M k
  | .error _ => False
/-- closed under a step backwards -/
def ab_Clo (cc : ByteArray) (X : ab_X) (Post : ab_P) (G : ab_K) : Prop := ∀ (pc : Nat) (lv : ab_L) (st : List Value) (M : ab_M) (k : ab_K), (∀ a b c d, k a b c d → G a b c d) → ab_ds X Post (decode cc pc) pc lv st M k → G pc lv st M
/-- n steps backwards, stopping at the places 'cut' -/
def ab_wp (cc : ByteArray) (X : ab_X) (Post : ab_P) (G : ab_K) (cut : List Nat) : Nat → ab_K
  | 0 => G
  | n + 1 => fun pc lv st M => if pc ∈ cut then G pc lv st M else ab_ds X Post (decode cc pc) pc lv st M (ab_wp cc X Post G cut n)
end
section
/-! THE SMALL MACHINE IS SOUND -/
def ab_cv (ad : Nat → Nat) : Value → Value
  | .ref q => .ref (ad q)
  | v => v
def ab_fv (ad : Nat → Nat) (M : ab_M) (q k : Nat) : ab_F → Value
  | .inl r => .ref (ad r)
  | .inr false => .int (M.1 q k)
  | .inr true => .long (M.2 q k)
def ab_ce (ad : Nat → Nat) (cA : Nat → ClassId) (M : ab_M) (q : Nat) : ab_S → va_E
  | .inl o => .inr (o.1, o.2.mapIdx (fun k f => ab_fv ad M q k f))
  | .inr a => .inl (cA q, a.2, match a.1 with | .long => .inr (.inl (M.2 q)) | _ => .inl (M.1 q))
def ab_wl (ad : Nat → Nat) (cA : Nat → ClassId) (M : ab_M) : va_W := ab_sh.mapIdx (fun q x => (ad q, ab_ce ad cA M q x))
/-- the tables of the system: name, descriptor, place, type, length, contents -/
abbrev ab_T : Type := List (String × String × Nat × FieldType × Nat × (Nat → Value))
def ab_tab (l : List Int) : Nat → Value := fun k => .int (Int32.ofInt (l.getD k 0))
def ab_tabL (l : List Int) : Nat → Value := fun k => .long (Int64.ofInt (l.getD k 0))
def ab_sts : ab_T := [
  ("SLOWED_BY", "[I", 100, .int, 4, ab_tab [2, 1, 3, 2]),
  ("FACTORIALS", "[I", 101, .int, 6, ab_tab [1, 1, 2, 6, 24, 120]),
  ("ROW_LIMITS", "[J", 102, .long, 4, ab_tabL [1000, 1000000, 1000000000, 1000000000000]),
  ("STRETCH_LEAST", "[I", 103, .int, 2, ab_tab [1, 0]),
  ("STRETCH_MOST", "[I", 104, .int, 2, ab_tab [9, 3]),
  ("MAN_LEAST", "[I", 105, .int, 3, ab_tab [1, 0, 0]),
  ("MAN_MOST", "[I", 106, .int, 3, ab_tab [9, 3, 9])]
/-- what stays: classes, array classes, the places apart and free to write, the tables -/
def ab_W0 (D : va_G) (ad : Nat → Nat) (cA : Nat → ClassId) (A : Nat → Prop) (U : State) : Prop :=
  va_K D vwCl [] U ∧ (∀ (q : Nat) (a : FieldType × Nat), ab_sh[q]? = some (.inr a) → va_K D vwCl [(cA q, a.1)] U) ∧
  (∀ i j : Nat, i < ab_sh.length → j < ab_sh.length → ad i = ad j → i = j) ∧ (∀ i : Nat, i < ab_sh.length → A (ad i)) ∧
  ∀ t ∈ ab_sts, va_Z "LameLead" t.1 t.2.1 (.ref (ad t.2.2.1)) A U U.heap ∧ va_T t.2.2.2.1 (ad t.2.2.1) t.2.2.2.2.1 t.2.2.2.2.2 A U U.heap
/-- links to a nest mate: words that aren't kept by themselves, and are carried -/
def ab_isN : Cond → Bool
  | .fieldLinkNest .. => true
  | .methodLinkNest .. => true
  | _ => false
def ab_okw (w : Cond) : Bool := goodWord w || ab_isN w
/-- the words of the tables that a method may use -/
def ab_tb : List Cond := lw_tbl.filter ab_okw
theorem ab_mem {w : Cond} (i : Nat) (h : lw_tbl[i]? = some w) (hk : ab_okw w = true) : w ∈ ab_tb := List.mem_filter.mpr ⟨List.mem_of_getElem? h, hk⟩
def ab_Nx (U : State) : Prop := ∀ w ∈ ab_tb, ab_isN w = true → va_Nw w U
def ab_Wd (D : va_G) (ad : Nat → Nat) (cA : Nat → ClassId) (A : Nat → Prop) (M : ab_M) (U : State) : Prop := va_P D vwCl (ab_wl ad cA M) U.heap ∧ ab_W0 D ad cA A U ∧ ab_Nx U
theorem ab_W0.moved {D : va_G} {ad : Nat → Nat} {cA : Nat → ClassId} {A : Nat → Prop} {u U : State} (hvm : u.vm.Alike U.vm) (hq : ∀ a : Nat, a < u.heap.size → ¬ A a → U.heap[a]? = u.heap[a]?) (h : ab_W0 D ad cA A u) : ab_W0 D ad cA A U :=
  ⟨va_K.moved hvm h.1, fun q a hs => va_K.moved hvm (h.2.1 q a hs), h.2.2.1, h.2.2.2.1, fun t ht => ⟨((h.2.2.2.2 t ht).1.kept hq).moved hvm, ((h.2.2.2.2 t ht).2.kept hq).moved hvm⟩⟩
theorem ab_wl_get (ad : Nat → Nat) (cA : Nat → ClassId) (M : ab_M) (q : Nat) : (ab_wl ad cA M)[q]? = (ab_sh[q]?).map (fun x => (ad q, ab_ce ad cA M q x)) := by
  simp [ab_wl]
theorem ab_wl_D {D : va_G} {ad : Nat → Nat} {cA : Nat → ClassId} {A : Nat → Prop} {U : State} (h : ab_W0 D ad cA A U) (M : ab_M) : va_D A (ab_wl ad cA M) := by
  constructor
  · intro i j p q hi hj e
    rw [ab_wl_get] at hi hj
    obtain ⟨x, hx, rfl⟩ := Option.map_eq_some_iff.mp hi
    obtain ⟨y, hy, rfl⟩ := Option.map_eq_some_iff.mp hj
    exact h.2.2.1 i j (List.getElem?_eq_some_iff.mp hx).1 (List.getElem?_eq_some_iff.mp hy).1 e
  · intro k q hk
    rw [ab_wl_get] at hk
    obtain ⟨x, hx, rfl⟩ := Option.map_eq_some_iff.mp hk
    exact h.2.2.2.1 k (List.getElem?_eq_some_iff.mp hx).1
theorem ab_ce_si_ne {ad : Nat → Nat} {cA : Nat → ClassId} {M : ab_M} {q q' k : Nat} {x : Int32} (h : q' ≠ q) (y : ab_S) : ab_ce ad cA (ab_si M q k x) q' y = ab_ce ad cA M q' y := by
  have e : (ab_si M q k x).1 q' = M.1 q' := by funext b; simp [ab_si, h]
  have e2 : (ab_si M q k x).2 = M.2 := rfl
  cases y with
  | inl o =>
    have : ∀ (j : Nat) (f : ab_F), ab_fv ad (ab_si M q k x) q' j f = ab_fv ad M q' j f := by
      intro j f
      match f with
      | .inl r => rfl
      | .inr false => simp only [ab_fv, e]
      | .inr true => simp only [ab_fv, e2]
    simp only [ab_ce, this]
  | inr a => simp only [ab_ce, e, e2]
theorem ab_ce_sl_ne {ad : Nat → Nat} {cA : Nat → ClassId} {M : ab_M} {q q' k : Nat} {x : Int64} (h : q' ≠ q) (y : ab_S) : ab_ce ad cA (ab_sl M q k x) q' y = ab_ce ad cA M q' y := by
  have e : (ab_sl M q k x).2 q' = M.2 q' := by funext b; simp [ab_sl, h]
  have e2 : (ab_sl M q k x).1 = M.1 := rfl
  cases y with
  | inl o =>
    have : ∀ (j : Nat) (f : ab_F), ab_fv ad (ab_sl M q k x) q' j f = ab_fv ad M q' j f := by
      intro j f
      match f with
      | .inl r => rfl
      | .inr false => simp only [ab_fv, e2]
      | .inr true => simp only [ab_fv, e]
    simp only [ab_ce, this]
  | inr a => simp only [ab_ce, e, e2]
/-- a world with one cell set anew is the world of the new memory, if the others stay -/
theorem ab_wl_set {ad : Nat → Nat} {cA : Nat → ClassId} {M M' : ab_M} {q : Nat} {y : ab_S} (hy : ab_sh[q]? = some y) (h : ∀ q', q' ≠ q → ∀ z, ab_ce ad cA M' q' z = ab_ce ad cA M q' z) {E : va_E} (hE : E = ab_ce ad cA M' q y) : (ab_wl ad cA M).set q (ad q, E) = ab_wl ad cA M' := by
  apply List.ext_getElem?
  intro i
  rw [List.getElem?_set, ab_wl_get, ab_wl_get]
  have hl : (ab_wl ad cA M).length = ab_sh.length := by simp [ab_wl]
  by_cases e : q = i
  · subst e
    have hq := (List.getElem?_eq_some_iff.mp hy).1
    rw [if_pos rfl, if_pos (by rw [hl]; exact hq), hy, hE]
    rfl
  · rw [if_neg e]
    cases ab_sh[i]? with
    | none => rfl
    | some z => simp [h i (fun e' => e e'.symm)]
/-- the locals of a frame, as far as they are known -/
def ab_lok (ad : Nat → Nat) (nL : Nat) (ls : Array Slot) (lv : ab_L) : Prop := ls.size = nL ∧ lv_wf ls ∧ lv.length ≤ nL ∧ ∀ (i : Nat) (v : Value), lv[i]? = some (some v) → ls[i]? = some (.val (ab_cv ad v))
def ab_as (ad : Nat → Nat) : Nat → ab_L → List (Nat × Value)
  | _, [] => []
  | i, none :: t => ab_as ad (i + 1) t
  | i, some v :: t => (i, ab_cv ad v) :: ab_as ad (i + 1) t
theorem ab_as_mem {ad : Nat → Nat} : ∀ (lv : ab_L) (i : Nat) (q : Nat × Value), q ∈ ab_as ad i lv ↔ ∃ (j : Nat) (v : Value), lv[j]? = some (some v) ∧ q = (i + j, ab_cv ad v)
  | [], i, q => by simp [ab_as]
  | none :: t, i, q => by
    rw [ab_as, ab_as_mem t (i + 1) q]
    constructor
    · rintro ⟨j, v, h, rfl⟩
      exact ⟨j + 1, v, by simpa using h, by simp; omega⟩
    · rintro ⟨j, v, h, rfl⟩
      cases j with
      | zero => simp at h
      | succ j => exact ⟨j, v, by simpa using h, by simp; omega⟩
  | some w :: t, i, q => by
    rw [ab_as, List.mem_cons, ab_as_mem t (i + 1) q]
    constructor
    · rintro (rfl | ⟨j, v, h, rfl⟩)
      · exact ⟨0, w, by simp, by simp⟩
      · exact ⟨j + 1, v, by simpa using h, by simp; omega⟩
    · rintro ⟨j, v, h, rfl⟩
      cases j with
      | zero => left; simp at h; subst h; rfl
      | succ j => right; exact ⟨j, v, by simpa using h, by simp; omega⟩
theorem ab_lok.has {ad : Nat → Nat} {nL : Nat} {ls : Array Slot} {lv : ab_L} (h : ab_lok ad nL ls lv) : lv_has ls nL (ab_as ad 0 lv) := by
  refine ⟨h.1, h.2.1, fun q hq => ?_⟩
  obtain ⟨j, v, hj, rfl⟩ := (ab_as_mem lv 0 q).mp hq
  simpa using h.2.2.2 j v hj
theorem ab_cv_cat (ad : Nat → Nat) (v : Value) : (ab_cv ad v).category = v.category := by
  cases v <;> rfl
theorem ab_nl_lt : ∀ (lv : ab_L) (i : Nat), ab_nl lv i = true → i < lv.length ∧ ∀ (j : Nat) (v : Value), i = j + 1 → lv[j]? = some (some v) → v.category ≠ 2
  | [], i, h => by simp [ab_nl] at h
  | a :: t, 0, h => ⟨by simp, fun j v e => by omega⟩
  | a :: t, 1, h => by
    simp only [ab_nl, Bool.and_eq_true] at h
    refine ⟨?_, fun j v e hj => ?_⟩
    · cases t with
      | nil => simp at h
      | cons _ _ => simp
    · have : j = 0 := by omega
      subst this
      simp at hj
      subst hj
      cases v <;> simp [Value.category] at h ⊢
  | a :: t, i + 2, h => by
    rw [ab_nl] at h
    obtain ⟨h1, h2⟩ := ab_nl_lt t (i + 1) h
    refine ⟨by simp; omega, fun j v e hj => ?_⟩
    cases j with
    | zero => omega
    | succ j => exact h2 j v (by omega) (by simpa using hj)
/-- a store of one word -/
theorem ab_lok.set1 {ad : Nat → Nat} {nL : Nat} {ls ls' : Array Slot} {lv : ab_L} (h : ab_lok ad nL ls lv) {i : Nat} {v : Value} (hn : ab_nl lv i = true) (h' : lv_has ls' nL ((i, ab_cv ad v) :: (ab_as ad 0 lv).filter (fun q => !(q.1 == i) && !(q.1 + 1 == i && q.2.category == 2)))) : ab_lok ad nL ls' (lv.set i (some v)) := by
  obtain ⟨hlt, hno⟩ := ab_nl_lt lv i hn
  refine ⟨h'.1, h'.2.1, by simpa using h.2.2.1, fun j w hj => ?_⟩
  rw [List.getElem?_set] at hj
  by_cases e : i = j
  · subst e
    simp [hlt] at hj
    subst hj
    exact h'.2.2 (i, ab_cv ad v) List.mem_cons_self
  · rw [if_neg e] at hj
    refine h'.2.2 (j, ab_cv ad w) (List.mem_cons_of_mem _ (List.mem_filter.mpr ⟨(ab_as_mem lv 0 _).mpr ⟨j, w, hj, by simp⟩, ?_⟩))
    have h1 : (j == i) = false := by simp; omega
    by_cases e2 : j + 1 = i
    · have := hno j w e2.symm hj
      simp [h1, ab_cv_cat, this]
    · simp [h1, e2]
/-- a store of two words -/
theorem ab_lok.set2 {ad : Nat → Nat} {nL : Nat} {ls ls' : Array Slot} {lv : ab_L} (h : ab_lok ad nL ls lv) {i : Nat} {v : Value} (hn : ab_nl lv i = true) (h' : lv_has ls' nL ((i, ab_cv ad v) :: (ab_as ad 0 lv).filter (fun q => !(q.1 == i) && (!(q.1 == i + 1) && !(q.1 + 1 == i && q.2.category == 2))))) : ab_lok ad nL ls' ((lv.set i (some v)).set (i + 1) none) := by
  obtain ⟨hlt, hno⟩ := ab_nl_lt lv i hn
  refine ⟨h'.1, h'.2.1, by simpa using h.2.2.1, fun j w hj => ?_⟩
  rw [List.getElem?_set] at hj
  by_cases e0 : i + 1 = j
  · subst e0
    simp at hj
  rw [if_neg e0, List.getElem?_set] at hj
  by_cases e : i = j
  · subst e
    simp [hlt] at hj
    subst hj
    exact h'.2.2 (i, ab_cv ad v) List.mem_cons_self
  · rw [if_neg e] at hj
    refine h'.2.2 (j, ab_cv ad w) (List.mem_cons_of_mem _ (List.mem_filter.mpr ⟨(ab_as_mem lv 0 _).mpr ⟨j, w, hj, by simp⟩, ?_⟩))
    have h1 : (j == i) = false := by simp; omega
    have h2 : (j == i + 1) = false := by simp; omega
    by_cases e2 : j + 1 = i
    · have := hno j w e2.symm hj
      simp [h1, h2, ab_cv_cat, this]
    · simp [h1, h2, e2]
theorem ab_in {i : Int32} {n : Nat} (h : 0 ≤ i ∧ i < Int32.ofNat n) (hn : n < 2 ^ 31) : vp_in i n := by
  rw [vp_in_iff]
  have h0 := Int32.le_iff_toInt_le.mp h.1
  have h1 := Int32.lt_iff_toInt_lt.mp h.2
  rw [show (Int32.ofNat n).toInt = (n : Int) from nI_toInt hn] at h1
  exact ⟨by simpa using h0, h1⟩
/-- a store where a number was -/
theorem ab_lok.set1' {ad : Nat → Nat} {nL : Nat} {ls ls' : Array Slot} {lv : ab_L} (h : ab_lok ad nL ls lv) {i : Nat} {u v : Value} (hi : lv[i]? = some (some u)) (h' : lv_has ls' nL ((i, ab_cv ad v) :: (ab_as ad 0 lv).filter (fun q => !(q.1 == i) && !(q.1 + 1 == i && q.2.category == 2)))) : ab_lok ad nL ls' (lv.set i (some v)) := by
  have hlt : i < lv.length := (List.getElem?_eq_some_iff.mp hi).1
  refine ⟨h'.1, h'.2.1, by simpa using h.2.2.1, fun j w hj => ?_⟩
  rw [List.getElem?_set] at hj
  by_cases e : i = j
  · subst e
    simp [hlt] at hj
    subst hj
    exact h'.2.2 (i, ab_cv ad v) List.mem_cons_self
  · rw [if_neg e] at hj
    refine h'.2.2 (j, ab_cv ad w) (List.mem_cons_of_mem _ (List.mem_filter.mpr ⟨(ab_as_mem lv 0 _).mpr ⟨j, w, hj, by simp⟩, ?_⟩))
    have h1 : (j == i) = false := by simp; omega
    by_cases e2 : j + 1 = i
    · have hne : w.category ≠ 2 := by
        intro h2
        have h3 := h.2.1.1 j (ab_cv ad w) (h.2.2.2 j w hj) (by rw [ab_cv_cat]; exact h2)
        rw [e2, h.2.2.2 i u hi] at h3
        cases h3
      simp [h1, ab_cv_cat, hne]
    · simp [h1, e2]
theorem ab_tg {pc : Nat} {off : Int} (h : 0 ≤ (pc : Int) + off) : (pc : Int) + off = (((pc : Int) + off).toNat : Int) := (Int.toNat_of_nonneg h).symm
theorem ab_tsw_spec {pc : Nat} {x : Int32} {kk : Nat → Prop} {d : Int} : ∀ (os : List Int) (lo : Int), ab_tsw pc x kk d lo os → ((x.toInt < lo ∨ lo + os.length ≤ x.toInt) ∧ 0 ≤ (pc : Int) + d ∧ kk ((pc : Int) + d).toNat) ∨ ∃ o : Int, lo ≤ x.toInt ∧ x.toInt < lo + os.length ∧ os[(x.toInt - lo).toNat]? = some o ∧ 0 ≤ (pc : Int) + o ∧ kk ((pc : Int) + o).toNat
  | [], lo, h => by
    left
    refine ⟨?_, h⟩
    simp
    omega
  | o :: os, lo, h => by
    rw [ab_tsw] at h
    by_cases e : x.toInt = lo
    · rw [if_pos e] at h
      right
      refine ⟨o, by omega, by simp; omega, ?_, h⟩
      simp [e]
    · rw [if_neg e] at h
      rcases ab_tsw_spec os (lo + 1) h with ⟨h1, h2⟩ | ⟨o', h1, h2, h3, h4⟩
      · left
        refine ⟨?_, h2⟩
        simp
        omega
      · right
        refine ⟨o', by omega, by simp; omega, ?_, h4⟩
        have : (x.toInt - lo).toNat = (x.toInt - (lo + 1)).toNat + 1 := by omega
        rw [this]
        simpa using h3
end
section
/-! EVERY STEP OF THE SMALL MACHINE IS ONE OF THE MACHINE'S -/
theorem ab_mem_of {ws : List Cond} (ps : List Nat) (h : ws = ps.filterMap (fun i => lw_tbl[i]?)) (hk : ws.all ab_okw = true) : ∀ w ∈ ws, w ∈ ab_tb := by
  intro w hw
  have h2 := List.all_eq_true.mp hk w hw
  rw [h] at hw
  obtain ⟨i, -, hi⟩ := List.mem_filterMap.mp hw
  exact ab_mem i hi h2
theorem ab_in0 : ∀ w ∈ u_ws RX0 TX0 2, w ∈ ab_tb := ab_mem_of [149, 151] (by decide +kernel) (by decide +kernel)
theorem ab_in1 : ∀ w ∈ u_ws RX1 TX1 4, w ∈ ab_tb := ab_mem_of [181, 183, 185, 187] (by decide +kernel) (by decide +kernel)
theorem ab_in2 : ∀ w ∈ u_ws RX2 TX2 6, w ∈ ab_tb := ab_mem_of [128, 130, 132, 134, 136, 138] (by decide +kernel) (by decide +kernel)
theorem ab_in3 : ∀ w ∈ u_ws RX3 TX3 3, w ∈ ab_tb := ab_mem_of [164, 166, 168] (by decide +kernel) (by decide +kernel)
theorem ab_in4 : ∀ w ∈ u_ws RX4 TX4 6, w ∈ ab_tb := ab_mem_of [84, 86, 88, 90, 92, 94] (by decide +kernel) (by decide +kernel)
theorem ab_in5 : ∀ w ∈ u_ws RX5 TX5 2, w ∈ ab_tb := ab_mem_of [66, 68] (by decide +kernel) (by decide +kernel)
theorem ab_in6 : ∀ w ∈ u_ws RX6 TX6 4, w ∈ ab_tb := ab_mem_of [200, 202, 204, 206] (by decide +kernel) (by decide +kernel)
theorem ab_in7 : ∀ w ∈ u_ws RX7 TX7 4, w ∈ ab_tb := ab_mem_of [107, 109, 111, 113] (by decide +kernel) (by decide +kernel)
theorem ab_in8 : ∀ w ∈ u_ws RX8 TX8 10, w ∈ ab_tb := ab_mem_of [221, 223, 225, 227, 229, 231, 233, 235, 237, 239] (by decide +kernel) (by decide +kernel)
theorem ab_in9 : ∀ w ∈ u_ws RX9 TX9 36, w ∈ ab_tb := ab_mem_of [834, 836, 838, 840, 842, 844, 846, 848, 850, 852, 854, 856, 858, 860, 862, 864, 866, 868, 870, 872, 874, 876, 878, 880, 882, 884, 886, 888, 890, 892, 894, 896, 898, 900, 902, 904] (by decide +kernel) (by decide +kernel)
theorem ab_vw_ok : ∀ (ci : Nat) (C : String) (T : u_T) (N : Nat), vwCl[ci]? = some (C, T, N) → (∀ w ∈ u_ws C T N, w ∈ ab_tb) ∧ ∃ ty0 : Nat → FieldType, (∀ k, k < N → parseFieldDescriptor (T k).2.2.1 = some (ty0 k)) ∧ ∀ a, a < N → ∀ b, b < N → a ≠ b → (T a).2.1 ≠ (T b).2.1 := by
  intro ci C T N h
  match ci, h with
  | 0, h => cases h; exact ⟨ab_in0, _, tyX0_ok, nmX0⟩
  | 1, h => cases h; exact ⟨ab_in1, _, tyX1_ok, nmX1⟩
  | 2, h => cases h; exact ⟨ab_in2, _, tyX2_ok, nmX2⟩
  | 3, h => cases h; exact ⟨ab_in3, _, tyX3_ok, nmX3⟩
  | 4, h => cases h; exact ⟨ab_in4, _, tyX4_ok, nmX4⟩
  | 5, h => cases h; exact ⟨ab_in5, _, tyX5_ok, nmX5⟩
  | 6, h => cases h; exact ⟨ab_in6, _, tyX6_ok, nmX6⟩
  | 7, h => cases h; exact ⟨ab_in7, _, tyX7_ok, nmX7⟩
  | 8, h => cases h; exact ⟨ab_in8, _, tyX8_ok, nmX8⟩
  | 9, h => cases h; exact ⟨ab_in9, _, tyX9_ok, nmX9⟩
  | n + 10, h => simp [vwCl] at h
/-- the field links of a class -/
def ab_flok (own : String) (fl : List (Nat × Nat × Nat)) : Prop := ∀ (idx ci k : Nat), ab_lk fl idx = some (ci, k) → ∃ (C : String) (T : u_T) (N : Nat), vwCl[ci]? = some (C, T, N) ∧ k < N ∧ Cond.fieldLink own idx (T k).1 (T k).2.1 (T k).2.2.1 ∈ ab_tb
def ab_fkB (q ci k : Nat) : Bool := match ab_sh[q]? with
  | some (.inl o) => if o.1 = ci then (match o.2[k]?, vwCl[ci]? with
    | some (.inr b), some t => decide (parseFieldDescriptor (t.2.1 k).2.2.1 = some (if b then .long else .int)) && !(t.2.1 k).2.2.2
    | _, _ => true) else true
  | _ => true
def ab_flB (q : Nat) : Bool := match ab_sh[q]? with
  | some (.inl o) => decide (o.2.length ≤ 36)
  | some (.inr a) => decide (a.2 ≤ 98)
  | none => true
/-- fields that are numbers: their types; they aren't final -/
theorem ab_fk_ok : ∀ (q ci : Nat) (fs : List ab_F), ab_sh[q]? = some (.inl (ci, fs)) → ∀ (C : String) (T : u_T) (N : Nat), vwCl[ci]? = some (C, T, N) → ∀ (k : Nat) (b : Bool), fs[k]? = some (.inr b) → parseFieldDescriptor (T k).2.2.1 = some (if b then .long else .int) ∧ (T k).2.2.2 = false := by
  have key : ∀ q : Fin 49, ∀ ci : Fin 10, ∀ k : Fin 36, ab_fkB q.1 ci.1 k.1 = true := by decide +kernel
  have h2 : ∀ q : Fin 49, ab_flB q.1 = true := by decide +kernel
  intro q ci fs hq C T N hc k b hk
  have hq1 : q < 49 := (List.getElem?_eq_some_iff.mp hq).1
  have hc1 : ci < 10 := (List.getElem?_eq_some_iff.mp hc).1
  have hk1 : k < 36 := by
    have h1 : k < fs.length := (List.getElem?_eq_some_iff.mp hk).1
    have h3 := h2 ⟨q, hq1⟩
    simp only [ab_flB, hq, decide_eq_true_eq] at h3
    omega
  have := key ⟨q, hq1⟩ ⟨ci, hc1⟩ ⟨k, hk1⟩
  simpa [ab_fkB, hq, hc, hk] using this
theorem ab_al_sh {q : Nat} {a : FieldType × Nat} (h : ab_al q = some a) : ab_sh[q]? = some (.inr a) ∧ a.2 < 2 ^ 31 := by
  have h2 : ∀ q : Fin 49, ab_flB q.1 = true := by decide +kernel
  unfold ab_al at h
  split at h
  · rename_i b hb
    cases h
    refine ⟨hb, ?_⟩
    have hq1 : q < 49 := (List.getElem?_eq_some_iff.mp hb).1
    have h3 := h2 ⟨q, hq1⟩
    simp only [ab_flB, hb, decide_eq_true_eq] at h3
    omega
  · cases h
section ABG
variable {p : Program} {l : Launch} {e : Env} {R : Room} {s : State} {m : MethodId} {args : Array Value} {below : List Frame} {meth : Method} {c : Code} {cells slots : Nat} {Q : State → Prop} {cc : ByteArray} {own : String} {D : va_G} {ad : Nat → Nat} {cA : Nat → ClassId} {A : Nat → Prop} {nL : Nat} {X : ab_X} {Post : ab_P}
/-- what a frame of ours stands in -/
def ab_C (p : Program) (s : State) (m : MethodId) (args : Array Value) (c : Code) (cc : ByteArray) (own : String) (D : va_G) (ad : Nat → Nat) (cA : Nat → ClassId) (A : Nat → Prop) (nL : Nat) : Prop :=
  p.tables.exec = Jvm.exec ∧ c.code = cc ∧ c.maxLocals = nL ∧ s.vm.findClass own = some m.cls ∧ (∀ w ∈ ab_tb, w.before args s = true) ∧ ab_W0 D ad cA A s
/-- the machine comes from here to Q -/
def ab_G (p : Program) (l : Launch) (e : Env) (R : Room) (s : State) (m : MethodId) (args : Array Value) (below : List Frame) (meth : Method) (c : Code) (cells slots : Nat) (Q : State → Prop) (D : va_G) (ad : Nat → Nat) (cA : Nat → ClassId) (A : Nat → Prop) (nL : Nat) : ab_K := fun pc lv st M =>
  ∀ (H : Heap) (locs : List Loc) (ls : Array Slot), va_P D vwCl (ab_wl ad cA M) H → va_S A s.heap H locs → ab_lok ad nL ls lv → W p l e R s m args below meth c H locs cells slots Q (F0 m pc ls (st.map (ab_cv ad)))
/-- a call, by its index: what it does is done -/
def ab_co (cc : ByteArray) (key n : Nat) (f : ab_Sem) (G : ab_K) : Prop := ∀ (pc : Nat) (lv : ab_L) (as rest : List Value) (M : ab_M) (Po : ab_P), ((∃ j, key = 2 * j ∧ decode cc pc = .ok (.invokevirtual j, 3)) ∨ ∃ j, key = 2 * j + 1 ∧ decode cc pc = .ok (.invokestatic j, 3)) → as.length = n → rest.length ≤ 4 → f as M Po → (∀ r M', Po r M' → G (pc + 3) lv (r.toList ++ rest) M') → G pc lv (as.reverse ++ rest) M
theorem ab_pp_spec : ∀ (n : Nat) (acc st : List Value) (k : List Value → List Value → Prop), ab_pp n acc st k → ∃ as rest : List Value, as.length = n ∧ st = as ++ rest ∧ k (as.reverse ++ acc) rest
  | 0, acc, st, k, h => ⟨[], st, rfl, rfl, h⟩
  | n + 1, acc, v :: st, k, h => by
    obtain ⟨as, rest, h1, h2, h3⟩ := ab_pp_spec n (v :: acc) st k h
    exact ⟨v :: as, rest, by simp [h1], by simp [h2], by simpa using h3⟩
  | n + 1, acc, [], k, h => h.elim
/-- a memory with one number set anew, as the heap has it -/
theorem ab_set_iarr {M : ab_M} {q i : Nat} {x : Int32} {a : FieldType × Nat} (hq : ab_sh[q]? = some (.inr a)) (ha : a.1 ≠ .long) : (ab_wl ad cA M).set q (ad q, .inl (cA q, a.2, .inl (upd (M.1 q) i x))) = ab_wl ad cA (ab_si M q i x) := by
  refine ab_wl_set hq (fun q' h z => ab_ce_si_ne h z) ?_
  have e : (ab_si M q i x).1 q = upd (M.1 q) i x := by
    funext b
    simp [ab_si, upd]
  obtain ⟨ty, n⟩ := a
  cases ty <;> first | exact absurd rfl ha | simp only [ab_ce, e]
theorem ab_set_larr {M : ab_M} {q i n : Nat} {x : Int64} (hq : ab_sh[q]? = some (.inr (.long, n))) : (ab_wl ad cA M).set q (ad q, .inl (cA q, n, .inr (.inl (vp_updL (M.2 q) i x)))) = ab_wl ad cA (ab_sl M q i x) := by
  refine ab_wl_set hq (fun q' h z => ab_ce_sl_ne h z) ?_
  have e : (ab_sl M q i x).2 q = vp_updL (M.2 q) i x := by
    funext b
    simp [ab_sl, vp_updL]
  simp only [ab_ce, e]
theorem ab_set_if {M : ab_M} {q ci k : Nat} {x : Int32} {fs : List ab_F} (hq : ab_sh[q]? = some (.inl (ci, fs))) (hk : fs[k]? = some (.inr false)) : (ab_wl ad cA M).set q (ad q, .inr (ci, (fs.mapIdx (fun j f => ab_fv ad M q j f)).set k (.int x))) = ab_wl ad cA (ab_si M q k x) := by
  refine ab_wl_set hq (fun q' h z => ab_ce_si_ne h z) ?_
  simp only [ab_ce]
  congr 2
  apply List.ext_getElem?
  intro j
  rw [List.getElem?_set, List.getElem?_mapIdx, List.getElem?_mapIdx]
  by_cases ej : k = j
  · subst ej
    have := (List.getElem?_eq_some_iff.mp hk).1
    simp only [List.length_mapIdx, this, if_true, hk, Option.map_some]
    simp [ab_fv, ab_si]
  · rw [if_neg ej]
    cases hj : fs[j]? with
    | none => rfl
    | some f =>
      match f with
      | .inl r => rfl
      | .inr false => simp [ab_fv, ab_si, Ne.symm ej]
      | .inr true => rfl
theorem ab_set_lf {M : ab_M} {q ci k : Nat} {x : Int64} {fs : List ab_F} (hq : ab_sh[q]? = some (.inl (ci, fs))) (hk : fs[k]? = some (.inr true)) : (ab_wl ad cA M).set q (ad q, .inr (ci, (fs.mapIdx (fun j f => ab_fv ad M q j f)).set k (.long x))) = ab_wl ad cA (ab_sl M q k x) := by
  refine ab_wl_set hq (fun q' h z => ab_ce_sl_ne h z) ?_
  simp only [ab_ce]
  congr 2
  apply List.ext_getElem?
  intro j
  rw [List.getElem?_set, List.getElem?_mapIdx, List.getElem?_mapIdx]
  by_cases ej : k = j
  · subst ej
    have := (List.getElem?_eq_some_iff.mp hk).1
    simp only [List.length_mapIdx, this, if_true, hk, Option.map_some]
    simp [ab_fv, ab_sl]
  · rw [if_neg ej]
    cases hj : fs[j]? with
    | none => rfl
    | some f =>
      match f with
      | .inl r => rfl
      | .inr true => simp [ab_fv, ab_sl, Ne.symm ej]
      | .inr false => rfl
set_option maxHeartbeats 4000000 in
theorem ab_sound (hC : ab_C p s m args c cc own D ad cA A nL) (hfl : ab_flok own X.2.1) (hkl : ∀ idx v, ab_lk X.2.2.2.1 idx = some v → (idx < 100000 → Cond.constantLong own idx v ∈ ab_tb) ∧ ∀ j, idx = j + 100000 → Cond.constant own j v.toInt32 ∈ ab_tb)
    (hgs : ∀ idx r, ab_lk X.2.2.2.2.1 idx = some r → ∃ t ∈ ab_sts, t.2.2.1 = r ∧ (Cond.fieldLink own idx "LameLead" t.1 t.2.1 ∈ ab_tb ∨ Cond.fieldLinkNest own idx "LameLead" t.1 t.2.1 "LameLead" ∈ ab_tb))
    (hro : ∀ q ty n f, ab_lk X.2.2.2.2.2 q = some (ty, n, f) → va_T ty (ad q) n f A s s.heap ∧ n < 2 ^ 31 ∧ ∀ j, ab_cv ad (f j) = f j)
    (hcs : ∀ idx n f, ab_lk X.2.2.1 idx = some (n, f) → ab_co cc idx n f (ab_G p l e R s m args below meth c cells slots Q D ad cA A nL))
    (hret : ∀ (pc : Nat) (M : ab_M) (H : Heap) (locs : List Loc) (ls : Array Slot), va_P D vwCl (ab_wl ad cA M) H → va_S A s.heap H locs →
      (∀ v : Int32, decode cc pc = .ok (.ireturn, 1) → ab_rn X.1 v → Post (some (.int v)) M → W p l e R s m args below meth c H locs cells slots Q (F0 m pc ls [.int v])) ∧
      (∀ v : Int64, decode cc pc = .ok (.lreturn, 1) → X.1 = some .long → Post (some (.long v)) M → W p l e R s m args below meth c H locs cells slots Q (F0 m pc ls [.long v])) ∧
      (decode cc pc = .ok (.return_, 1) → X.1 = none → Post none M → W p l e R s m args below meth c H locs cells slots Q (F0 m pc ls []))) :
    ab_Clo cc X Post (ab_G p l e R s m args below meth c cells slots Q D ad cA A nL) := by
  obtain ⟨hx, hb, hml, hown, hts, hw0⟩ := hC
  intro pc lv st M k hk h H locs ls hP hS hl
  have hDw : ∀ M : ab_M, va_D A (ab_wl ad cA M) := fun M => ab_wl_D hw0 M
  unfold ab_ds at h
  cases hd : decode cc pc with
  | error _ => rw [hd] at h; exact h.elim
  | ok il =>
    obtain ⟨i, len⟩ := il
    rw [hd] at h
    obtain ⟨hlen, h⟩ := h
    dsimp only at hlen h
    cases i with

    | iadd =>
      have hlen : len = 1 := hlen
      subst hlen
      simp only [ab_st] at h
      split at h
      · exact lv_iadd hx hb hd (hk _ _ _ _ h H locs ls hP hS hl)
      · exact h.elim
    | isub =>
      have hlen : len = 1 := hlen
      subst hlen
      simp only [ab_st] at h
      split at h
      · exact lv_isub hx hb hd (hk _ _ _ _ h H locs ls hP hS hl)
      · exact h.elim
    | imul =>
      have hlen : len = 1 := hlen
      subst hlen
      simp only [ab_st] at h
      split at h
      · exact lv_imul hx hb hd (hk _ _ _ _ h H locs ls hP hS hl)
      · exact h.elim
    | ineg =>
      have hlen : len = 1 := hlen
      subst hlen
      simp only [ab_st] at h
      split at h
      · exact lv_ineg hx hb hd (hk _ _ _ _ h H locs ls hP hS hl)
      · exact h.elim
    | iand =>
      have hlen : len = 1 := hlen
      subst hlen
      simp only [ab_st] at h
      split at h
      · exact lv_iand hx hb hd (hk _ _ _ _ h H locs ls hP hS hl)
      · exact h.elim
    | ior =>
      have hlen : len = 1 := hlen
      subst hlen
      simp only [ab_st] at h
      split at h
      · exact lv_ior hx hb hd (hk _ _ _ _ h H locs ls hP hS hl)
      · exact h.elim
    | ixor =>
      have hlen : len = 1 := hlen
      subst hlen
      simp only [ab_st] at h
      split at h
      · exact lv_ixor hx hb hd (hk _ _ _ _ h H locs ls hP hS hl)
      · exact h.elim
    | ishl =>
      have hlen : len = 1 := hlen
      subst hlen
      simp only [ab_st] at h
      split at h
      · exact lv_ishl hx hb hd (hk _ _ _ _ h H locs ls hP hS hl)
      · exact h.elim
    | ishr =>
      have hlen : len = 1 := hlen
      subst hlen
      simp only [ab_st] at h
      split at h
      · exact lv_ishr hx hb hd (hk _ _ _ _ h H locs ls hP hS hl)
      · exact h.elim
    | ladd =>
      have hlen : len = 1 := hlen
      subst hlen
      simp only [ab_st] at h
      split at h
      · exact lv_ladd hx hb hd (hk _ _ _ _ h H locs ls hP hS hl)
      · exact h.elim
    | lsub =>
      have hlen : len = 1 := hlen
      subst hlen
      simp only [ab_st] at h
      split at h
      · exact lv_lsub hx hb hd (hk _ _ _ _ h H locs ls hP hS hl)
      · exact h.elim
    | lmul =>
      have hlen : len = 1 := hlen
      subst hlen
      simp only [ab_st] at h
      split at h
      · exact lv_lmul hx hb hd (hk _ _ _ _ h H locs ls hP hS hl)
      · exact h.elim
    | land =>
      have hlen : len = 1 := hlen
      subst hlen
      simp only [ab_st] at h
      split at h
      · exact lv_land hx hb hd (hk _ _ _ _ h H locs ls hP hS hl)
      · exact h.elim
    | lor =>
      have hlen : len = 1 := hlen
      subst hlen
      simp only [ab_st] at h
      split at h
      · exact lv_lor hx hb hd (hk _ _ _ _ h H locs ls hP hS hl)
      · exact h.elim
    | idiv =>
      have hlen : len = 1 := hlen
      subst hlen
      simp only [ab_st] at h
      split at h
      · exact lv_idiv hx hb hd h.1 (hk _ _ _ _ h.2 H locs ls hP hS hl)
      · exact h.elim
    | irem =>
      have hlen : len = 1 := hlen
      subst hlen
      simp only [ab_st] at h
      split at h
      · exact lv_irem hx hb hd h.1 (hk _ _ _ _ h.2 H locs ls hP hS hl)
      · exact h.elim
    | ldiv =>
      have hlen : len = 1 := hlen
      subst hlen
      simp only [ab_st] at h
      split at h
      · exact lv_ldiv hx hb hd h.1 (hk _ _ _ _ h.2 H locs ls hP hS hl)
      · exact h.elim
    | lrem =>
      have hlen : len = 1 := hlen
      subst hlen
      simp only [ab_st] at h
      split at h
      · exact lv_lrem hx hb hd h.1 (hk _ _ _ _ h.2 H locs ls hP hS hl)
      · exact h.elim
    | iushr =>
      have hlen : len = 1 := hlen
      subst hlen
      simp only [ab_st] at h
      split at h
      · exact lv_iushr hx hb hd rfl (hk _ _ _ _ h H locs ls hP hS hl)
      · exact h.elim
    | lshl =>
      have hlen : len = 1 := hlen
      subst hlen
      simp only [ab_st] at h
      split at h
      · exact lv_lshl hx hb hd rfl (hk _ _ _ _ h H locs ls hP hS hl)
      · exact h.elim
    | lushr =>
      have hlen : len = 1 := hlen
      subst hlen
      simp only [ab_st] at h
      split at h
      · exact lv_lushr hx hb hd rfl (hk _ _ _ _ h H locs ls hP hS hl)
      · exact h.elim
    | i2l =>
      have hlen : len = 1 := hlen
      subst hlen
      simp only [ab_st] at h
      split at h
      · exact lv_i2l hx hb hd rfl (hk _ _ _ _ h H locs ls hP hS hl)
      · exact h.elim
    | l2i =>
      have hlen : len = 1 := hlen
      subst hlen
      simp only [ab_st] at h
      split at h
      · exact lv_l2i hx hb hd rfl (hk _ _ _ _ h H locs ls hP hS hl)
      · exact h.elim
    | lcmp =>
      have hlen : len = 1 := hlen
      subst hlen
      simp only [ab_st] at h
      split at h
      · exact W.lcmp hx hb hd (hk _ _ _ _ h H locs ls hP hS hl)
      · exact h.elim
    | iconst n =>
      have hlen : len = 1 := hlen
      subst hlen
      exact lv_iconst hx hb hd rfl (hk _ _ _ _ h H locs ls hP hS hl)
    | bipush n =>
      have hlen : len = 2 := hlen
      subst hlen
      exact lv_bipush hx hb hd rfl (hk _ _ _ _ h H locs ls hP hS hl)
    | sipush n =>
      have hlen : len = 3 := hlen
      subst hlen
      exact lv_sipush hx hb hd rfl (hk _ _ _ _ h H locs ls hP hS hl)
    | lconst n =>
      have hlen : len = 1 := hlen
      subst hlen
      exact lv_lconst hx hb hd rfl (hk _ _ _ _ h H locs ls hP hS hl)
    | iload_n j =>
      have hlen : len = 1 := hlen
      subst hlen
      simp only [ab_st] at h
      split at h
      · rename_i x hj
        exact lv_iload_n hx hb hd rfl (hl.2.2.2 _ _ hj) (hk _ _ _ _ h H locs ls hP hS hl)
      · exact h.elim
    | lload_n j =>
      have hlen : len = 1 := hlen
      subst hlen
      simp only [ab_st] at h
      split at h
      · rename_i x hj
        exact lv_lload_n hx hb hd rfl (hl.2.2.2 _ _ hj) (hk _ _ _ _ h H locs ls hP hS hl)
      · exact h.elim
    | aload_n j =>
      have hlen : len = 1 := hlen
      subst hlen
      simp only [ab_st] at h
      split at h
      · rename_i x hj
        exact lv_aload_n hx hb hd rfl (hl.2.2.2 _ _ hj) (hk _ _ _ _ h H locs ls hP hS hl)
      · exact h.elim
    | iload j =>
      have hlen : len = 2 := hlen
      subst hlen
      simp only [ab_st] at h
      split at h
      · rename_i x hj
        exact lv_iload hx hb hd (hl.2.2.2 _ _ hj) (hk _ _ _ _ h H locs ls hP hS hl)
      · exact h.elim
    | lload j =>
      have hlen : len = 2 := hlen
      subst hlen
      simp only [ab_st] at h
      split at h
      · rename_i x hj
        exact lv_lload hx hb hd (hl.2.2.2 _ _ hj) (hk _ _ _ _ h H locs ls hP hS hl)
      · exact h.elim
    | istore_n j =>
      have hlen : len = 1 := hlen
      subst hlen
      simp only [ab_st] at h
      split at h
      · rename_i x st'
        exact lv_istore_n hx hb hd rfl hl.has (Nat.lt_of_lt_of_le (ab_nl_lt _ _ h.1).1 hl.2.2.1) rfl (fun ls' hl' => hk _ _ _ _ h.2 H locs ls' hP hS (hl.set1 (v := .int x) h.1 hl'))
      · exact h.elim
    | astore_n j =>
      have hlen : len = 1 := hlen
      subst hlen
      simp only [ab_st] at h
      split at h
      · rename_i x st'
        exact lv_astore_n hx hb hd rfl hl.has (Nat.lt_of_lt_of_le (ab_nl_lt _ _ h.1).1 hl.2.2.1) rfl (fun ls' hl' => hk _ _ _ _ h.2 H locs ls' hP hS (hl.set1 (v := .ref x) h.1 hl'))
      · exact h.elim
    | istore j =>
      have hlen : len = 2 := hlen
      subst hlen
      simp only [ab_st] at h
      split at h
      · rename_i x st'
        exact lv_istore hx hb hd hl.has (Nat.lt_of_lt_of_le (ab_nl_lt _ _ h.1).1 hl.2.2.1) rfl (fun ls' hl' => hk _ _ _ _ h.2 H locs ls' hP hS (hl.set1 (v := .int x) h.1 hl'))
      · exact h.elim
    | lstore_n j =>
      have hlen : len = 1 := hlen
      subst hlen
      simp only [ab_st] at h
      split at h
      · rename_i x st'
        exact lv_lstore_n hx hb hd rfl hl.has (Nat.lt_of_lt_of_le h.2.1 hl.2.2.1) rfl (fun ls' hl' => hk _ _ _ _ h.2.2 H locs ls' hP hS (hl.set2 (v := .long x) h.1 hl'))
      · exact h.elim
    | lstore j =>
      have hlen : len = 2 := hlen
      subst hlen
      simp only [ab_st] at h
      split at h
      · rename_i x st'
        exact lv_lstore hx hb hd hl.has (Nat.lt_of_lt_of_le h.2.1 hl.2.2.1) rfl (fun ls' hl' => hk _ _ _ _ h.2.2 H locs ls' hP hS (hl.set2 (v := .long x) h.1 hl'))
      · exact h.elim
    | iinc j n =>
      have hlen : len = 3 := hlen
      subst hlen
      simp only [ab_st] at h
      split at h
      · rename_i x hj
        have hm : (j, Value.int x) ∈ ab_as ad 0 lv := (ab_as_mem lv 0 _).mpr ⟨j, .int x, hj, by simp [ab_cv]⟩
        obtain ⟨kk, hkk⟩ := List.getElem?_of_mem hm
        exact lv_iinc hx hb hd hl.has hkk rfl (Nat.lt_of_lt_of_le (List.getElem?_eq_some_iff.mp hj).1 hl.2.2.1) rfl (fun ls' hl' => hk _ _ _ _ h H locs ls' hP hS (hl.set1' (v := .int (x + Int32.ofInt n)) hj hl'))
      · exact h.elim
    | dup =>
      have hlen : len = 1 := hlen
      subst hlen
      simp only [ab_st] at h
      split at h
      · exact lv_dup hx hb hd rfl (hk _ _ _ _ h H locs ls hP hS hl)
      · exact lv_dup hx hb hd rfl (hk _ _ _ _ h H locs ls hP hS hl)
      · exact h.elim
    | pop =>
      have hlen : len = 1 := hlen
      subst hlen
      simp only [ab_st] at h
      split at h
      · exact lv_pop hx hb hd rfl (hk _ _ _ _ h H locs ls hP hS hl)
      · exact h.elim
    | dup2 =>
      have hlen : len = 1 := hlen
      subst hlen
      simp only [ab_st] at h
      split at h
      · exact lv_dup2_11 hx hb hd rfl rfl (hk _ _ _ _ h H locs ls hP hS hl)
      · exact h.elim
    | goto off =>
      have hlen : len = 3 := hlen
      subst hlen
      exact lv_goto hx hb hd (ab_tg h.1) (hk _ _ _ _ h.2 H locs ls hP hS hl)
    | ifCond cd off =>
      have hlen : len = 3 := hlen
      subst hlen
      cases cd with
      | eq =>
        simp only [ab_st] at h
        split at h
        · obtain ⟨h0, h⟩ := h
          exact lv_if_eq hx hb hd (ab_tg h0) (fun hc => by rw [if_pos hc] at h; exact hk _ _ _ _ h H locs ls hP hS hl) (fun hc => by rw [if_neg hc] at h; exact hk _ _ _ _ h H locs ls hP hS hl)
        · exact h.elim
      | ne =>
        simp only [ab_st] at h
        split at h
        · obtain ⟨h0, h⟩ := h
          exact lv_if_ne hx hb hd (ab_tg h0) (fun hc => by rw [if_neg hc] at h; exact hk _ _ _ _ h H locs ls hP hS hl) (fun hc => by rw [if_pos hc] at h; exact hk _ _ _ _ h H locs ls hP hS hl)
        · exact h.elim
      | lt =>
        simp only [ab_st] at h
        split at h
        · obtain ⟨h0, h⟩ := h
          exact lv_if_lt hx hb hd (ab_tg h0) (fun hc => by rw [if_pos hc] at h; exact hk _ _ _ _ h H locs ls hP hS hl) (fun hc => by rw [if_neg hc] at h; exact hk _ _ _ _ h H locs ls hP hS hl)
        · exact h.elim
      | ge =>
        simp only [ab_st] at h
        split at h
        · obtain ⟨h0, h⟩ := h
          exact lv_if_ge hx hb hd (ab_tg h0) (fun hc => by rw [if_neg (Int32.not_lt.mpr hc)] at h; exact hk _ _ _ _ h H locs ls hP hS hl) (fun hc => by rw [if_pos (Int32.not_le.mp hc)] at h; exact hk _ _ _ _ h H locs ls hP hS hl)
        · exact h.elim
      | gt =>
        simp only [ab_st] at h
        split at h
        · obtain ⟨h0, h⟩ := h
          exact lv_if_gt hx hb hd (ab_tg h0) (fun hc => by rw [if_pos hc] at h; exact hk _ _ _ _ h H locs ls hP hS hl) (fun hc => by rw [if_neg hc] at h; exact hk _ _ _ _ h H locs ls hP hS hl)
        · exact h.elim
      | le =>
        simp only [ab_st] at h
        split at h
        · obtain ⟨h0, h⟩ := h
          exact lv_if_le hx hb hd (ab_tg h0) (fun hc => by rw [if_neg (Int32.not_lt.mpr hc)] at h; exact hk _ _ _ _ h H locs ls hP hS hl) (fun hc => by rw [if_pos (Int32.not_le.mp hc)] at h; exact hk _ _ _ _ h H locs ls hP hS hl)
        · exact h.elim
    | if_icmp cd off =>
      have hlen : len = 3 := hlen
      subst hlen
      cases cd with
      | eq =>
        simp only [ab_st] at h
        split at h
        · obtain ⟨h0, h⟩ := h
          exact lv_icmp_eq hx hb hd (ab_tg h0) (fun hc => by rw [if_pos hc] at h; exact hk _ _ _ _ h H locs ls hP hS hl) (fun hc => by rw [if_neg hc] at h; exact hk _ _ _ _ h H locs ls hP hS hl)
        · exact h.elim
      | ne =>
        simp only [ab_st] at h
        split at h
        · obtain ⟨h0, h⟩ := h
          exact lv_icmp_ne hx hb hd (ab_tg h0) (fun hc => by rw [if_neg hc] at h; exact hk _ _ _ _ h H locs ls hP hS hl) (fun hc => by rw [if_pos hc] at h; exact hk _ _ _ _ h H locs ls hP hS hl)
        · exact h.elim
      | lt =>
        simp only [ab_st] at h
        split at h
        · obtain ⟨h0, h⟩ := h
          exact lv_icmp_lt hx hb hd (ab_tg h0) (fun hc => by rw [if_pos hc] at h; exact hk _ _ _ _ h H locs ls hP hS hl) (fun hc => by rw [if_neg hc] at h; exact hk _ _ _ _ h H locs ls hP hS hl)
        · exact h.elim
      | ge =>
        simp only [ab_st] at h
        split at h
        · obtain ⟨h0, h⟩ := h
          exact lv_icmp_ge hx hb hd (ab_tg h0) (fun hc => by rw [if_neg (Int32.not_lt.mpr hc)] at h; exact hk _ _ _ _ h H locs ls hP hS hl) (fun hc => by rw [if_pos (Int32.not_le.mp hc)] at h; exact hk _ _ _ _ h H locs ls hP hS hl)
        · exact h.elim
      | gt =>
        simp only [ab_st] at h
        split at h
        · obtain ⟨h0, h⟩ := h
          exact lv_icmp_gt hx hb hd (ab_tg h0) (fun hc => by rw [if_pos hc] at h; exact hk _ _ _ _ h H locs ls hP hS hl) (fun hc => by rw [if_neg hc] at h; exact hk _ _ _ _ h H locs ls hP hS hl)
        · exact h.elim
      | le =>
        simp only [ab_st] at h
        split at h
        · obtain ⟨h0, h⟩ := h
          exact lv_icmp_le hx hb hd (ab_tg h0) (fun hc => by rw [if_neg (Int32.not_lt.mpr hc)] at h; exact hk _ _ _ _ h H locs ls hP hS hl) (fun hc => by rw [if_pos (Int32.not_le.mp hc)] at h; exact hk _ _ _ _ h H locs ls hP hS hl)
        · exact h.elim
    | tableswitch d lo hi offs =>
      simp only [ab_st] at h
      split at h
      · obtain ⟨h0, h⟩ := h
        rcases ab_tsw_spec offs.toList lo h with ⟨h1, h2, h3⟩ | ⟨o, h1, h2, h3, h4, h5⟩
        · refine lv_tableOut hx hb hd ?_ (ab_tg h2) (hk _ _ _ _ h3 H locs ls hP hS hl)
          rcases h1 with h1 | h1
          · exact Or.inl h1
          · right
            simp at h1
            omega
        · refine lv_tableIn hx hb hd (by omega) ?_ ?_ (ab_tg h4) (hk _ _ _ _ h5 H locs ls hP hS hl)
          · simp at h2
            omega
          · rw [← Array.getElem?_toList]
            exact h3
      · exact h.elim
    | iaload =>
      have hlen : len = 1 := hlen
      subst hlen
      simp only [ab_st] at h
      split at h
      · rename_i i q st'
        unfold ab_ia at h
        split at h
        · rename_i ty n hq
          obtain ⟨rfl, hi, h⟩ := h
          obtain ⟨hsh, hn⟩ := ab_al_sh hq
          refine va_iald hx hb (hw0.2.1 q _ hsh) hP q 0 (cA := cA q) (n := n) (f := M.1 q) ?_ rfl (ab_in hi hn) hd (hk _ _ _ _ h H locs ls hP hS hl)
          rw [ab_wl_get, hsh]
          rfl
        · split at h
          · rename_i ty n f hq
            obtain ⟨rfl, hi, h⟩ := h
            obtain ⟨hT, hn, hf⟩ := hro _ _ _ _ hq
            refine va_ti hx hb hT hS (ab_in hi hn) rfl hd ?_
            have := hk _ _ _ _ h H locs ls hP hS hl
            simp only [List.map_cons, hf] at this
            exact this
          · exact h.elim
      · exact h.elim
    | laload =>
      have hlen : len = 1 := hlen
      subst hlen
      simp only [ab_st] at h
      split at h
      · rename_i i q st'
        unfold ab_la at h
        split at h
        · rename_i ty n hq
          obtain ⟨rfl, hi, h⟩ := h
          obtain ⟨hsh, hn⟩ := ab_al_sh hq
          refine va_lald hx hb (hw0.2.1 q _ hsh) hP q 0 (cA := cA q) (n := n) (f := M.2 q) ?_ rfl (ab_in hi hn) hd (hk _ _ _ _ h H locs ls hP hS hl)
          rw [ab_wl_get, hsh]
          rfl
        · split at h
          · rename_i ty n f hq
            obtain ⟨rfl, hi, h⟩ := h
            obtain ⟨hT, hn, hf⟩ := hro _ _ _ _ hq
            refine va_tl hx hb hT hS (ab_in hi hn) rfl hd ?_
            have := hk _ _ _ _ h H locs ls hP hS hl
            simp only [List.map_cons, hf] at this
            exact this
          · exact h.elim
      · exact h.elim
    | baload =>
      have hlen : len = 1 := hlen
      subst hlen
      simp only [ab_st] at h
      split at h
      · rename_i i q st'
        unfold ab_za at h
        split at h
        · rename_i ty n hq
          obtain ⟨rfl, hi, h⟩ := h
          obtain ⟨hsh, hn⟩ := ab_al_sh hq
          refine va_zald hx hb (hw0.2.1 q _ hsh) hP q 0 (cA := cA q) (n := n) (f := M.1 q) ?_ rfl (ab_in hi hn) hd (hk _ _ _ _ h H locs ls hP hS hl)
          rw [ab_wl_get, hsh]
          rfl
        · exact h.elim
      · exact h.elim
    | iastore =>
      have hlen : len = 1 := hlen
      subst hlen
      simp only [ab_st] at h
      split at h
      · rename_i x i q st'
        unfold ab_is at h
        split at h
        · rename_i ty n hq
          obtain ⟨rfl, hi, h⟩ := h
          obtain ⟨hsh, hn⟩ := ab_al_sh hq
          refine va_iast hx hb (hw0.2.1 q _ hsh) hP (hDw M) hS q 0 (cA := cA q) (n := n) (f := M.1 q) ?_ rfl (ab_in hi hn) hd (fun H1 locs1 hP1 hD1 hS1 => hk _ _ _ _ h H1 locs1 ls ?_ hS1 hl)
          · rw [ab_wl_get, hsh]
            rfl
          · rw [← ab_set_iarr (a := (.int, n)) hsh (by simp)]
            exact hP1
        · exact h.elim
      · exact h.elim
    | bastore =>
      have hlen : len = 1 := hlen
      subst hlen
      simp only [ab_st] at h
      split at h
      · rename_i x i q st'
        unfold ab_zs at h
        split at h
        · rename_i ty n hq
          obtain ⟨rfl, hi, h⟩ := h
          obtain ⟨hsh, hn⟩ := ab_al_sh hq
          refine va_zast hx hb (hw0.2.1 q _ hsh) hP (hDw M) hS q 0 (cA := cA q) (n := n) (f := M.1 q) ?_ rfl (ab_in hi hn) hd (fun H1 locs1 hP1 hD1 hS1 => hk _ _ _ _ h H1 locs1 ls ?_ hS1 hl)
          · rw [ab_wl_get, hsh]
            rfl
          · rw [← ab_set_iarr (a := (.boolean, n)) hsh (by simp)]
            exact hP1
        · exact h.elim
      · exact h.elim
    | lastore =>
      have hlen : len = 1 := hlen
      subst hlen
      simp only [ab_st] at h
      split at h
      · rename_i x i q st'
        unfold ab_ls at h
        split at h
        · rename_i ty n hq
          obtain ⟨rfl, hi, h⟩ := h
          obtain ⟨hsh, hn⟩ := ab_al_sh hq
          refine va_last hx hb (hw0.2.1 q _ hsh) hP (hDw M) hS q 0 (cA := cA q) (n := n) (f := M.2 q) ?_ rfl (ab_in hi hn) hd (fun H1 locs1 hP1 hD1 hS1 => hk _ _ _ _ h H1 locs1 ls ?_ hS1 hl)
          · rw [ab_wl_get, hsh]
            rfl
          · rw [← ab_set_larr hsh]
            exact hP1
        · exact h.elim
      · exact h.elim
    | arraylength =>
      have hlen : len = 1 := hlen
      subst hlen
      simp only [ab_st] at h
      split at h
      · rename_i q st'
        unfold ab_len at h
        split at h
        · rename_i ty n hq
          obtain ⟨hsh, hn⟩ := ab_al_sh hq
          have he := ab_wl_get ad cA M q
          rw [hsh] at he
          exact va_alen hx hb (hw0.2.1 q _ hsh) hP q 0 he rfl rfl hd (hk _ _ _ _ h H locs ls hP hS hl)
        · split at h
          · rename_i ty n f hq
            obtain ⟨hT, hn, hf⟩ := hro _ _ _ _ hq
            exact va_tlen hx hb hT hS rfl hd (hk _ _ _ _ h H locs ls hP hS hl)
          · exact h.elim
      · exact h.elim
    | getfield idx =>
      have hlen : len = 3 := hlen
      subst hlen
      simp only [ab_st] at h
      split at h
      · rename_i q st'
        unfold ab_gf at h
        split at h
        · rename_i ci sl hlk
          split at h
          · rename_i v hv
            obtain ⟨C, T, N, hcl, hkN, hlink⟩ := hfl _ _ _ hlk
            obtain ⟨hin, -⟩ := ab_vw_ok ci C T N hcl
            unfold ab_rf at hv
            split at hv
            · rename_i c' fs hsh
              split at hv
              · rename_i hcc
                subst hcc
                have hv2 : (fs.mapIdx (fun k f => ab_fv ad M q k f))[sl]? = some (ab_cv ad v) := by
                  rw [List.getElem?_mapIdx]
                  split at hv <;> rename_i hf <;> first | (cases hv; rw [hf]; rfl) | cases hv
                refine va_get hx hb hts hin hown hw0.1 hP q (fs := fs.mapIdx (fun k f => ab_fv ad M q k f)) ?_ hcl sl hkN (hts _ hlink) (fun _ h9 => h9) hv2 hd (hk _ _ _ _ h H locs ls hP hS hl)
                rw [ab_wl_get, hsh]
                rfl
              · cases hv
            · cases hv
          · exact h.elim
        · exact h.elim
      · exact h.elim
    | putfield idx =>
      have hlen : len = 3 := hlen
      subst hlen
      simp only [ab_st] at h
      split at h
      · rename_i v q st'
        unfold ab_pf at h
        split at h
        · rename_i ci sl hlk
          split at h
          · rename_i M' hv
            obtain ⟨C, T, N, hcl, hkN, hlink⟩ := hfl _ _ _ hlk
            obtain ⟨hin, ty0, hty, hnm⟩ := ab_vw_ok ci C T N hcl
            unfold ab_wf at hv
            split at hv
            · rename_i c' fs hsh
              split at hv
              · rename_i hcc
                subst hcc
                have he : (ab_wl ad cA M)[q]? = some (ad q, .inr (c', fs.mapIdx (fun k f => ab_fv ad M q k f))) := by
                  rw [ab_wl_get, hsh]
                  rfl
                split at hv
                · rename_i x hf
                  cases hv
                  obtain ⟨hpd, hfin⟩ := ab_fk_ok q c' fs hsh C T N hcl sl false hf
                  refine va_put hx hb hts hin ty0 hty hnm hown hw0.1 hP (hDw M) hS q he hcl sl hkN (hts _ hlink) (fun _ h9 => h9) hfin hpd rfl rfl (by simpa using (List.getElem?_eq_some_iff.mp hf).1) hd (fun H1 locs1 hP1 hD1 hS1 => hk _ _ _ _ h H1 locs1 ls ?_ hS1 hl)
                  rw [← ab_set_if hsh hf]
                  exact hP1
                · rename_i x hf
                  cases hv
                  obtain ⟨hpd, hfin⟩ := ab_fk_ok q c' fs hsh C T N hcl sl true hf
                  refine va_put hx hb hts hin ty0 hty hnm hown hw0.1 hP (hDw M) hS q he hcl sl hkN (hts _ hlink) (fun _ h9 => h9) hfin hpd rfl rfl (by simpa using (List.getElem?_eq_some_iff.mp hf).1) hd (fun H1 locs1 hP1 hD1 hS1 => hk _ _ _ _ h H1 locs1 ls ?_ hS1 hl)
                  rw [← ab_set_lf hsh hf]
                  exact hP1
                · cases hv
              · cases hv
            · cases hv
          · exact h.elim
        · exact h.elim
      · exact h.elim
    | getstatic idx =>
      have hlen : len = 3 := hlen
      subst hlen
      simp only [ab_st] at h
      split at h
      · rename_i r hr
        obtain ⟨t, ht, rfl, hln⟩ := hgs _ _ hr
        obtain ⟨hZ, -⟩ := hw0.2.2.2.2 t ht
        rcases hln with hln | hln
        · exact va_gets hx hb hZ hS hown (hts _ hln) (fun _ h9 => h9) hd (hk _ _ _ _ h H locs ls hP hS hl)
        · exact va_getsN hx hb hZ hS hown (hts _ hln) (fun _ h9 => h9) hd (hk _ _ _ _ h H locs ls hP hS hl)
      · exact h.elim
    | ldc idx =>
      have hlen : len = 2 := hlen
      subst hlen
      simp only [ab_st] at h
      split at h
      · rename_i v hv
        exact lv_ldc hx hb hown (hts _ ((hkl _ _ hv).2 idx rfl)) hd (hk _ _ _ _ h H locs ls hP hS hl)
      · exact h.elim
    | ldc2_w idx =>
      have hlen : len = 3 := hlen
      subst hlen
      simp only [ab_st] at h
      split at h
      · rename_i v hv
        obtain ⟨hlt, h⟩ := h
        exact lv_ldc2 hx hb hown (hts _ ((hkl _ _ hv).1 hlt)) hd (hk _ _ _ _ h H locs ls hP hS hl)
      · exact h.elim
    | invokevirtual idx =>
      have hlen : len = 3 := hlen
      subst hlen
      simp only [ab_st, ab_ca] at h
      split at h
      · rename_i n f hcl
        obtain ⟨as, rest, h1, rfl, h3, h4⟩ := ab_pp_spec n [] st _ h
        rw [List.append_nil] at h4
        have := hcs _ n f hcl pc lv as.reverse rest M _ (Or.inl ⟨idx, rfl, hd⟩) (by simpa using h1) h3 h4 (fun r M' hr => hk _ _ _ _ hr) H locs ls hP hS hl
        simpa using this
      · exact h.elim
    | invokestatic idx =>
      have hlen : len = 3 := hlen
      subst hlen
      simp only [ab_st, ab_ca] at h
      split at h
      · rename_i n f hcl
        obtain ⟨as, rest, h1, rfl, h3, h4⟩ := ab_pp_spec n [] st _ h
        rw [List.append_nil] at h4
        have := hcs _ n f hcl pc lv as.reverse rest M _ (Or.inr ⟨idx, rfl, hd⟩) (by simpa using h1) h3 h4 (fun r M' hr => hk _ _ _ _ hr) H locs ls hP hS hl
        simpa using this
      · exact h.elim
    | ireturn =>
      have hlen : len = 1 := hlen
      subst hlen
      simp only [ab_st] at h
      split at h
      · exact (hret pc M H locs ls hP hS).1 _ hd h.1 h.2
      · exact h.elim
    | lreturn =>
      have hlen : len = 1 := hlen
      subst hlen
      simp only [ab_st] at h
      split at h
      · exact (hret pc M H locs ls hP hS).2.1 _ hd h.1 h.2
      · exact h.elim
    | return_ =>
      have hlen : len = 1 := hlen
      subst hlen
      simp only [ab_st] at h
      split at h
      · exact (hret pc M H locs ls hP hS).2.2 hd h.1 h.2
      · exact h.elim
    | _ => exact h.elim
end ABG
end
section
/-! CONTRACTS AND CALLS -/
/-- the words that a method's contract rests on -/
def ab_tw : List Cond := ab_tb.filter goodWord
theorem ab_tblgood : GoodIn ab_tb ab_tw := fun w hw => ⟨(List.mem_filter.mp hw).1, good_of_word (List.mem_filter.mp hw).2⟩
theorem ab_good_code {y : MethodName} {b : ByteArray} {n : Nat} {r : Option FieldType} (h : Cond.code y b n r ∈ ab_tb) : GoodIn ab_tb (.code y b n r :: ab_tw) := fun x hx => (List.mem_cons.mp hx).elim (fun e => by rw [e]; exact ab_tblgood _ (List.mem_filter.mpr ⟨h, rfl⟩)) (ab_tblgood x)
theorem ab_isN_on {w : Cond} (h : ab_isN w = true) : w.onTables = true := by
  cases w <;> first | rfl | cases h
theorem ab_Nx_of {args : Array Value} {s : State} (hts : ∀ w ∈ ab_tb, w.before args s = true) : ab_Nx s := fun w hw hn => va_Nw.of (ab_isN_on hn) (hts w hw)
theorem ab_Nx_same {u U : State} (h : u.vm = U.vm) (hN : ab_Nx u) : ab_Nx U := fun w hw hn => va_Nw.same (ab_isN_on hn) h (hN w hw hn)
theorem ab_Nx_warm {s U : State} (hW : s.WarmedH U.vm) (hN : ab_Nx s) : ab_Nx U := by
  intro w hw hn
  have h := hN w hw hn
  cases w <;> first | exact va_Nw.warmF hW h | exact va_Nw.warmM hW h | cases hn
def ab_Qc (Po : ab_P) (D : va_G) (ad : Nat → Nat) (cA : Nat → ClassId) (A : Nat → Prop) : Array Value → State → Outcome → State → Prop := fun _ st oc t => (∃ (r : Option Value) (M' : ab_M), oc = .returned (r.map (ab_cv ad)) ∧ Po r M' ∧ va_P D vwCl (ab_wl ad cA M') t.heap) ∧ va_F A st t
def ab_rm (fr lo : Nat) : Room := { frames := fr, cells := 0, slots := 0, locals := lo }
/-- a method's contract: what it does is f -/
def ab_ctr (l : Launch) (y : MethodName) (bytes : ByteArray) (maxL : Nat) (ret : Option FieldType) (fr lo : Nat) (f : ab_Sem) : Prop := ∀ (D : va_G) (ad : Nat → Nat) (cA : Nat → ClassId) (A : Nat → Prop) (as : List Value) (M : ab_M) (Po : ab_P), f as M Po → Met l y (.code y bytes maxL ret :: ab_tw) (ab_rm fr lo) (va_Pc (as.map (ab_cv ad)) (ab_Wd D ad cA A M)) (ab_Qc Po D ad cA A) 0 0 A
/-- a call is done, in every frame of the class 'own' with that much room -/
def ab_cok (l : Launch) (own : String) (fr lo key n : Nat) (f : ab_Sem) : Prop := ∀ (p : Program) (e : Env) (R : Room) (s : State) (m : MethodId) (args : Array Value) (below : List Frame) (meth : Method) (c : Code) (cells slots : Nat) (Q : State → Prop) (cc : ByteArray) (D : va_G) (ad : Nat → Nat) (cA : Nat → ClassId) (A : Nat → Prop) (nL : Nat), ab_C p s m args c cc own D ad cA A nL → fr ≤ R.frames → lo ≤ R.locals → cells ≤ R.cells → slots ≤ R.slots → ab_co cc key n f (ab_G p l e R s m args below meth c cells slots Q D ad cA A nL)
section ABC
variable {p : Program} {l : Launch} {e : Env} {R : Room} {s : State} {m : MethodId} {args : Array Value} {below : List Frame} {meth : Method} {c : Code} {cells slots : Nat} {Q : State → Prop} {cc : ByteArray} {own : String} {D : va_G} {ad : Nat → Nat} {cA : Nat → ClassId} {A : Nat → Prop} {nL : Nat} {X : ab_X} {Post : ab_P} {H : Heap} {locs : List Loc} {pc : Nat} {ls : Array Slot} {st0 rest : List Value} {a : Array Value}
theorem ab_callR {Po : ab_P} (hr : va_Run p l e R s m args below meth c H locs cells slots 0 0 (F0 m pc ls st0) rest (ab_Qc Po D ad cA A a) A) (hS : va_S A s.heap H locs)
    (kk : ∀ (r : Option Value) (M' : ab_M) (H1 : Heap) (locs1 : List Loc), Po r M' → va_P D vwCl (ab_wl ad cA M') H1 → va_S A s.heap H1 locs1 → W p l e R s m args below meth c H1 locs1 cells slots Q (F0 m (pc + 3) ls ((r.map (ab_cv ad)).toList ++ rest))) : W p l e R s m args below meth c H locs cells slots Q (F0 m pc ls st0) := by
  intro T hT X
  obtain ⟨v, st₀, t, T', L, h0, X', hL, e1, e2, ⟨⟨r, M', hv, hp, hb⟩, hz, hk⟩, st⟩ := hr T hT X
  cases hv
  rw [h0] at hz hk
  obtain ⟨t2, a1, b1⟩ := kk r M' T'.heap (locs ++ L) hp (by rw [e1]; exact hb)
    ⟨Nat.le_trans hS.1 (by rw [e1]; exact hz), fun q h1 h2 => by rw [e1, hk q (Nat.lt_of_lt_of_le h1 hS.1) h2]; exact hS.2.1 q h1 h2, fun q hq => by
      rcases List.mem_append.mp hq with h | h
      · exact hS.2.2 q h
      · exact hL q h⟩ T' rfl X'
  exact ⟨t2, st t2 a1, b1⟩
theorem ab_blind {av : List Value} {M : ab_M} : FrameBlind (va_Pc av (ab_Wd D ad cA A M)) := by
  intro a U g mk h
  exact ⟨h.1, h.2.1, ab_W0.moved (u := U) (U := U.calling g mk a) (Vm.Alike.refl U.vm) (fun _ _ _ => rfl) h.2.2.1, ab_Nx_same (u := U) (U := U.calling g mk a) rfl h.2.2.2⟩
theorem ab_preU {av : List Value} {M : ab_M} (hw : ab_W0 D ad cA A s) (hts : ∀ w ∈ ab_tb, w.before args s = true) (hP : va_P D vwCl (ab_wl ad cA M) H) (hS : va_S A s.heap H locs) : ∀ U : State, U.heap = H → s.WarmedH U.vm → va_Pc av (ab_Wd D ad cA A M) av.toArray U := by
  intro U hU hW
  refine ⟨rfl, by rw [hU]; exact hP, ab_W0.moved hW.alike (fun a h1 h2 => ?_) hw, ab_Nx_warm hW (ab_Nx_of hts)⟩
  rw [hU]
  exact hS.2.1 a h1 h2
theorem ab_cat_le (rest : List Value) (h : rest.length ≤ 4) : ((rest.map (ab_cv ad)).map fun v => v.category).sum ≤ 8 := by
  have key : ∀ l : List Value, ((l.map (ab_cv ad)).map fun v => v.category).sum ≤ 2 * l.length := by
    intro l
    induction l with
    | nil => simp
    | cons v t ih =>
      have hv : (ab_cv ad v).category ≤ 2 := by
        rw [ab_cv_cat]
        cases v <;> simp [Value.category]
      simp only [List.map_cons, List.sum_cons, List.length_cons]
      omega
  have := key rest
  omega
end ABC
/-- invokevirtual of a method of ours -/
theorem ab_cV {l : Launch} {own : String} {fr lo : Nat} {y : MethodName} {bytes : ByteArray} {maxL : Nat} {ret : Option FieldType} {fr' lo' n : Nat} {f : ab_Sem} (idx : Nat) (hM : ab_ctr l y bytes maxL ret fr' lo' f) (hlink : Cond.methodLink own idx y ∈ ab_tb) (hinst : Cond.instanceMethod y ∈ ab_tb) (hsel : Cond.selects y.cls y y ∈ ab_tb) (hini : Cond.initialized y.cls ∈ ab_tb) (hcode : Cond.code y bytes maxL ret ∈ ab_tb)
    (hd : y.cls ≠ "java/lang/invoke/MethodHandle" ∧ y.cls ≠ "java/lang/invoke/VarHandle" ∧ (parseMethodDescriptor y.desc).map (fun d => d.parameters.length) = some n) (hR : fr' + 1 ≤ fr ∧ 8 + (maxL + 11) + lo' ≤ lo)
    (hrec : ∀ (as : List Value) (M : ab_M) (Po : ab_P), f as M Po → ∃ (q : Nat) (as' : List Value) (ci : Nat) (T : u_T) (N : Nat) (fs : List ab_F), as = .ref q :: as' ∧ ab_sh[q]? = some (.inl (ci, fs)) ∧ vwCl[ci]? = some (y.cls, T, N)) : ab_cok l own fr lo (2 * idx) (n + 1) f := by
  intro p e R s m args below meth c cells slots Q cc D ad cA A nL hC hfr hlo hce hsl pc lv as rest M Po hdec hlen hrest hf hk H locs ls hP hS hl
  obtain ⟨hx, hb, hml, hown, hts, hw0⟩ := hC
  have hd1 : decode cc pc = .ok (.invokevirtual idx, 3) := by
    rcases hdec with ⟨j, hj, h⟩ | ⟨j, hj, h⟩
    · have : idx = j := by omega
      subst this; exact h
    · omega
  obtain ⟨q, as', ci, T, N, fs, rfl, hsh, hcl⟩ := hrec as M Po hf
  have hn : as'.length = n := by simpa using hlen
  have cw : CallW R s args own y.cls idx y bytes maxL ret (.code y bytes maxL ret :: ab_tw) (ab_rm fr' lo') 0 0 n := ⟨callB_of n hts (ab_good_code hcode) rfl rfl rfl (hts _ hini) (hts _ hlink) hd ⟨Nat.le_trans hR.1 hfr, Nat.le_trans hR.2 hlo⟩, hts _ hinst, hts _ hsel⟩
  have he : (ab_wl ad cA M)[q]? = some (ad q, .inr (ci, fs.mapIdx (fun k f => ab_fv ad M q k f))) := by
    rw [ab_wl_get, hsh]
    rfl
  have hpre : PreV s H y.cls (ad q) (va_Pc ((Value.ref q :: as').map (ab_cv ad)) (ab_Wd D ad cA A M)) (as'.map (ab_cv ad)) := ⟨ab_blind, va_recv hw0.1 hP hcl he, ab_preU hw0 hts hP hS⟩
  refine ab_callR (va_runV (As := as'.map (ab_cv ad)) (rest := rest.map (ab_cv ad)) ⟨hx, hb, hml, hown, hts⟩ (hM D ad cA A _ M Po hf) cw hpre rfl (by simpa using hn) hl.1 ?_ (lv_room (ab_cat_le rest hrest)) hd1 ⟨hce, hsl⟩) hS ?_
  · show (((Value.ref q :: as').reverse ++ rest).map (ab_cv ad)) = _
    simp [ab_cv]
  · intro r M' H1 locs1 hr hP1 hS1
    have := hk r M' hr H1 locs1 ls hP1 hS1 hl
    cases r <;> simpa using this
/-- invokestatic of a method of ours -/
theorem ab_cS {l : Launch} {own : String} {fr lo : Nat} {y : MethodName} {bytes : ByteArray} {maxL : Nat} {ret : Option FieldType} {fr' lo' n : Nat} {f : ab_Sem} (idx : Nat) (hM : ab_ctr l y bytes maxL ret fr' lo' f) (hlink : Cond.methodLink own idx y ∈ ab_tb) (hstat : Cond.static y ∈ ab_tb) (hini : Cond.initialized y.cls ∈ ab_tb) (hcode : Cond.code y bytes maxL ret ∈ ab_tb)
    (hd : y.cls ≠ "java/lang/invoke/MethodHandle" ∧ y.cls ≠ "java/lang/invoke/VarHandle" ∧ (parseMethodDescriptor y.desc).map (fun d => d.parameters.length) = some n) (hR : fr' + 1 ≤ fr ∧ 8 + (maxL + 11) + lo' ≤ lo) : ab_cok l own fr lo (2 * idx + 1) n f := by
  intro p e R s m args below meth c cells slots Q cc D ad cA A nL hC hfr hlo hce hsl pc lv as rest M Po hdec hlen hrest hf hk H locs ls hP hS hl
  obtain ⟨hx, hb, hml, hown, hts, hw0⟩ := hC
  have hd1 : decode cc pc = .ok (.invokestatic idx, 3) := by
    rcases hdec with ⟨j, hj, h⟩ | ⟨j, hj, h⟩
    · omega
    · have : idx = j := by omega
      subst this; exact h
  have cw : CallB R s args own idx y bytes maxL ret (.code y bytes maxL ret :: ab_tw) (ab_rm fr' lo') 0 0 n ∧ (Cond.static y).before args s = true := ⟨callB_of n hts (ab_good_code hcode) rfl rfl rfl (hts _ hini) (hts _ hlink) hd ⟨Nat.le_trans hR.1 hfr, Nat.le_trans hR.2 hlo⟩, hts _ hstat⟩
  refine ab_callR (va_runS (As := as.map (ab_cv ad)) (rest := rest.map (ab_cv ad)) ⟨hx, hb, hml, hown, hts⟩ (hM D ad cA A _ M Po hf) cw ⟨ab_blind, ab_preU hw0 hts hP hS⟩ rfl (by simpa using hlen) hl.1 ?_ (lv_room (ab_cat_le rest hrest)) hd1 ⟨hce, hsl⟩) hS ?_
  · show ((as.reverse ++ rest).map (ab_cv ad)) = _
    simp
  · intro r M' H1 locs1 hr hP1 hS1
    have := hk r M' hr H1 locs1 ls hP1 hS1 hl
    cases r <;> simpa using this
/-- invokestatic of a private method of a nest mate -/
theorem ab_cN {l : Launch} {own host : String} {fr lo : Nat} {y : MethodName} {bytes : ByteArray} {maxL : Nat} {ret : Option FieldType} {fr' lo' n : Nat} {f : ab_Sem} (idx : Nat) (hM : ab_ctr l y bytes maxL ret fr' lo' f) (hlink : Cond.methodLinkNest own idx y host ∈ ab_tb) (hstat : Cond.static y ∈ ab_tb) (hini : Cond.initialized y.cls ∈ ab_tb) (hcode : Cond.code y bytes maxL ret ∈ ab_tb)
    (hd : y.cls ≠ "java/lang/invoke/MethodHandle" ∧ y.cls ≠ "java/lang/invoke/VarHandle" ∧ (parseMethodDescriptor y.desc).map (fun d => d.parameters.length) = some n) (hR : fr' + 1 ≤ fr ∧ 8 + (maxL + 11) + lo' ≤ lo) : ab_cok l own fr lo (2 * idx + 1) n f := by
  intro p e R s m args below meth c cells slots Q cc D ad cA A nL hC hfr hlo hce hsl pc lv as rest M Po hdec hlen hrest hf hk H locs ls hP hS hl
  obtain ⟨hx, hb, hml, hown, hts, hw0⟩ := hC
  have hd1 : decode cc pc = .ok (.invokestatic idx, 3) := by
    rcases hdec with ⟨j, hj, h⟩ | ⟨j, hj, h⟩
    · omega
    · have : idx = j := by omega
      subst this; exact h
  have cw : va_CN R s args own idx y host bytes maxL ret (.code y bytes maxL ret :: ab_tw) (ab_rm fr' lo') 0 0 n ∧ (Cond.static y).before args s = true ∧ True := by
    have hc : Cond.code y bytes maxL ret ∈ (.code y bytes maxL ret :: ab_tw : List Cond) := List.mem_cons_self
    refine ⟨⟨⟨rfl, rfl, Nat.le_trans hR.1 hfr, Nat.le_trans hR.2 hlo, pay_in hts (ab_good_code hcode), hc⟩, hts _ hcode, hts _ hini, ⟨hd.1, hd.2.1⟩, fun sig h => ?_, hts _ hlink⟩, hts _ hstat, trivial⟩
    have h2 := hd.2.2
    rw [h] at h2
    exact (Option.some.inj h2).symm
  refine ab_callR (va_runSN (As := as.map (ab_cv ad)) (rest := rest.map (ab_cv ad)) ⟨hx, hb, hml, hown, hts⟩ (hM D ad cA A _ M Po hf) cw ⟨ab_blind, ab_preU hw0 hts hP hS⟩ rfl (by simpa using hlen) hl.1 ?_ (lv_room (ab_cat_le rest hrest)) hd1 ⟨hce, hsl⟩) hS ?_
  · show ((as.reverse ++ rest).map (ab_cv ad)) = _
    simp
  · intro r M' H1 locs1 hr hP1 hS1
    have := hk r M' hr H1 locs1 ls hP1 hS1 hl
    cases r <;> simpa using this
/-- the locals with which a method begins -/
def ab_e0 : List Value → ab_L
  | [] => []
  | .long x :: t => some (.long x) :: none :: ab_e0 t
  | .double x :: t => some (.double x) :: none :: ab_e0 t
  | v :: t => some v :: ab_e0 t
def ab_en (maxL : Nat) (as : List Value) : ab_L := ab_e0 as ++ List.replicate (maxL - (ab_e0 as).length) none
theorem ab_e0_len (ad : Nat → Nat) : ∀ as : List Value, (lg_sl (as.map (ab_cv ad))).length = (ab_e0 as).length
  | [] => rfl
  | v :: t => by
    have ih := ab_e0_len ad t
    have h1 : lg_sl ((v :: t).map (ab_cv ad)) = (if (ab_cv ad v).category = 2 then [Slot.val (ab_cv ad v), .second] else [.val (ab_cv ad v)]) ++ lg_sl (t.map (ab_cv ad)) := by simp [lg_sl]
    rw [h1, List.length_append, ih]
    cases v <;> simp [ab_e0, ab_cv, Value.category] <;> omega
theorem ab_e0_mem (ad : Nat → Nat) : ∀ (as : List Value) (b i : Nat) (v : Value), (ab_e0 as)[i]? = some (some v) → (b + i, ab_cv ad v) ∈ lv_args b (as.map (ab_cv ad))
  | [], b, i, v, h => by simp [ab_e0] at h
  | w :: t, b, i, v, h => by
    rw [List.map_cons, lv_args, List.mem_cons]
    by_cases hc : w.category = 2
    · have he : ab_e0 (w :: t) = some w :: none :: ab_e0 t := by cases w <;> first | rfl | simp [Value.category] at hc
      rw [he] at h
      match i, h with
      | 0, h => left; simp at h; subst h; rfl
      | 1, h => simp at h
      | i + 2, h =>
        right
        have := ab_e0_mem ad t (b + 2) i v (by simpa using h)
        rw [ab_cv_cat, if_pos hc]
        have e : b + (i + 2) = b + 2 + i := by omega
        rw [e]
        exact this
    · have he : ab_e0 (w :: t) = some w :: ab_e0 t := by cases w <;> first | rfl | simp [Value.category] at hc
      rw [he] at h
      match i, h with
      | 0, h => left; simp at h; subst h; rfl
      | i + 1, h =>
        right
        have := ab_e0_mem ad t (b + 1) i v (by simpa using h)
        rw [ab_cv_cat, if_neg hc]
        have e : b + (i + 1) = b + 1 + i := by omega
        rw [e]
        exact this
def ab_ros : ab_R := [(100, .int, 4, ab_tab [2, 1, 3, 2]), (101, .int, 6, ab_tab [1, 1, 2, 6, 24, 120]), (102, .long, 4, ab_tabL [1000, 1000000, 1000000000, 1000000000000]), (103, .int, 2, ab_tab [1, 0]), (104, .int, 2, ab_tab [9, 3]), (105, .int, 3, ab_tab [1, 0, 0]), (106, .int, 3, ab_tab [9, 3, 9])]
theorem ab_ros_ok {q : Nat} {ty : FieldType} {n : Nat} {f : Nat → Value} (h : ab_lk ab_ros q = some (ty, n, f)) : (∃ t ∈ ab_sts, t.2.2.1 = q ∧ t.2.2.2.1 = ty ∧ t.2.2.2.2.1 = n ∧ t.2.2.2.2.2 = f) ∧ n < 2 ^ 31 ∧ ∀ ad j, ab_cv ad (f j) = f j := by
  simp only [ab_ros, ab_lk] at h
  repeat' split at h
  all_goals first | cases h | skip
  all_goals subst_vars
  all_goals refine ⟨?_, by decide, fun ad j => rfl⟩
  all_goals simp [ab_sts]
/-- a method's contract out of the small machine -/
theorem ab_met {l : Launch} {y : MethodName} {bytes : ByteArray} {maxL : Nat} {ret : Option FieldType} {fr lo : Nat} {f : ab_Sem} (X : ab_X) (hy : plainName y.cls = true) (hX : X.1 = ret) (hfl : ab_flok y.cls X.2.1) (hkl : ∀ idx v, ab_lk X.2.2.2.1 idx = some v → (idx < 100000 → Cond.constantLong y.cls idx v ∈ ab_tb) ∧ ∀ j, idx = j + 100000 → Cond.constant y.cls j v.toInt32 ∈ ab_tb)
    (hgs : ∀ idx r, ab_lk X.2.2.2.2.1 idx = some r → ∃ t ∈ ab_sts, t.2.2.1 = r ∧ (Cond.fieldLink y.cls idx "LameLead" t.1 t.2.1 ∈ ab_tb ∨ Cond.fieldLinkNest y.cls idx "LameLead" t.1 t.2.1 "LameLead" ∈ ab_tb))
    (hro : X.2.2.2.2.2 = ab_ros) (hcs : ∀ key n g, ab_lk X.2.2.1 key = some (n, g) → ab_cok l y.cls fr lo key n g)
    (hen : ∀ (as : List Value) (M : ab_M) (Po : ab_P), f as M Po → (ab_e0 as).length ≤ maxL)
    (hrun : ∀ (as : List Value) (M : ab_M) (Po : ab_P), f as M Po → ∀ G : ab_K, ab_Clo bytes X Po G → G 0 (ab_en maxL as) [] M) : ab_ctr l y bytes maxL ret fr lo f := by
  intro D ad cA A as M Po hf
  refine Met.ofW (cc := bytes) (maxL := maxL) (ret := ret) hy rfl ?_
  intro p e s m args below meth c s₁ B hml hv
  obtain ⟨rfl, hP, hw0, hNx⟩ := hv
  have hx := B.exec
  have hb := B.bytes
  have hr := B.returns
  have hts0 := atoms_spec (ws := .code y bytes maxL ret :: ab_tw) B.pre
  have hts : ∀ w ∈ ab_tb, w.before (as.map (ab_cv ad)).toArray s = true := by
    intro w hw
    have := (List.mem_filter.mp hw).2
    rcases Bool.or_eq_true_iff.mp this with hg | hg
    · exact hts0 w (List.mem_cons_of_mem _ (List.mem_filter.mpr ⟨hw, hg⟩))
    · exact va_Nw.use (ab_isN_on hg) (hNx w hw hg)
  have hown : s.vm.findClass y.cls = some m.cls := findClass_of_methodNamed B.named
  have hlocks := B.notSynchronized
  have hl := lv_entry (as.map (ab_cv ad)) (n := maxL) (by rw [ab_e0_len]; exact hen as M Po hf)
  rw [lg_entry_eq]
  generalize (lg_sl (as.map (ab_cv ad)) ++ List.replicate (maxL - (lg_sl (as.map (ab_cv ad))).length) Slot.unset).toArray = ls at hl ⊢
  have hlok : ab_lok ad maxL ls (ab_en maxL as) := by
    refine ⟨hl.1, hl.2.1, ?_, fun i v hi => ?_⟩
    · have := hen as M Po hf
      simp [ab_en]
      omega
    · have hi2 : (ab_e0 as)[i]? = some (some v) := by
        unfold ab_en at hi
        by_cases hlt : i < (ab_e0 as).length
        · rwa [List.getElem?_append_left hlt] at hi
        · rw [List.getElem?_append_right (by omega)] at hi
          have := List.eq_of_mem_replicate (List.mem_of_getElem? hi)
          cases this
      have := hl.2.2 _ (ab_e0_mem ad as 0 i v hi2)
      simpa using this
  have hC : ab_C p s m (as.map (ab_cv ad)).toArray c bytes y.cls D ad cA A maxL := ⟨hx, hb, hml, hown, hts, hw0⟩
  have hclo := ab_sound (l := l) (e := e) (R := ab_rm fr lo) (below := below) (meth := meth) (cells := 0) (slots := 0) (Q := MQ below (ab_Qc Po D ad cA A) (as.map (ab_cv ad)).toArray s 0 0 A) (X := X) (Post := Po) hC hfl hkl hgs
    (fun q ty n g hq => by
      rw [hro] at hq
      obtain ⟨⟨t, ht, rfl, rfl, rfl, rfl⟩, h2, h3⟩ := ab_ros_ok hq
      exact ⟨(hw0.2.2.2.2 t ht).2, h2, h3 ad⟩)
    (fun key n g hg => hcs key n g hg p e _ s m _ below meth c 0 0 _ bytes D ad cA A maxL hC (Nat.le_refl _) (Nat.le_refl _) (Nat.zero_le _) (Nat.zero_le _))
    (fun pc M2 H locs ls2 hP2 hS2 => by
      refine ⟨fun v hd hn hp => ?_, fun v hd hn hp => ?_, fun hd hn hp => ?_⟩
      · cases hrt : ret with
        | none => rw [hX, hrt] at hn; exact hn.elim
        | some ty =>
          refine W.zret (ty := ty) hx hb (by rw [hr, hrt]) ?_ (fun t ht hW => ⟨⟨some (.int v), M2, rfl, hp, by rw [ht]; exact hP2⟩, hS2.F ht⟩) hS2.2.2 hd
          rw [hX, hrt] at hn
          cases ty <;> first | exact hn.elim | rfl | (rcases hn with rfl | rfl <;> rfl)
      · exact W.lret hx hb (by rw [hr, ← hX, hn]) (fun t ht hW => ⟨⟨some (.long v), M2, rfl, hp, by rw [ht]; exact hP2⟩, hS2.F ht⟩) hS2.2.2 hd
      · exact W.vret hx hb (by rw [hr, ← hX, hn]) (fun t ht hW => ⟨⟨none, M2, rfl, hp, by rw [ht]; exact hP2⟩, hS2.F ht⟩) hS2.2.2 hd)
  exact hrun as M Po hf _ hclo s.heap [] ls hP va_S.rf hlok
end
section
/-! ROWS BY WHICH THE SMALL MACHINE RUNS -/
theorem ab_go {cc : ByteArray} {X : ab_X} {Po : ab_P} {G : ab_K} (h : ab_Clo cc X Po G) (cut : List Nat) : ∀ (n pc : Nat) (lv : ab_L) (st : List Value) (M : ab_M), ab_wp cc X Po G cut n pc lv st M → G pc lv st M
  | 0, _, _, _, _, hw => hw
  | n + 1, pc, lv, st, M, hw => by
    unfold ab_wp at hw
    split at hw
    · exact hw
    · exact h pc lv st M _ (fun a b c d => ab_go h cut n a b c d) hw
/-- a first step from a place that is a cut -/
theorem ab_go1 {cc : ByteArray} {X : ab_X} {Po : ab_P} {G : ab_K} (h : ab_Clo cc X Po G) (cut : List Nat) (n pc : Nat) (lv : ab_L) (st : List Value) (M : ab_M) (hw : ab_ds X Po (decode cc pc) pc lv st M (ab_wp cc X Po G cut n)) : G pc lv st M := h pc lv st M _ (fun a b c d => ab_go h cut n a b c d) hw
section ABE
variable {cc : ByteArray} {X : ab_X} {P : ab_P} {G : ab_K} {cut : List Nat} {n pc : Nat} {st : List Value} {M : ab_M} {k : ab_K} {x y : Int32} {u v : Int64} {q r : Nat} {off : Int} {lv t : ab_L} {c0 c1 c2 c3 c4 c5 c6 c7 : Option Value}
theorem ew_s : ab_wp cc X P G cut (n + 1) pc lv st M = if pc ∈ cut then G pc lv st M else ab_ds X P (decode cc pc) pc lv st M (ab_wp cc X P G cut n) := rfl
theorem ew_0 : ab_wp cc X P G cut 0 pc lv st M = G pc lv st M := rfl
theorem ew_n : ab_wp cc X P G [] (n + 1) pc lv st M = ab_ds X P (decode cc pc) pc lv st M (ab_wp cc X P G [] n) := by
  rw [ew_s, if_neg List.not_mem_nil]
theorem ew_c : ab_wp cc X P G (r :: cut) (n + 1) pc lv st M = if pc = r then G pc lv st M else ab_wp cc X P G (r :: cut) (n + 1) pc lv st M := by
  split
  · rename_i h
    rw [ew_s, if_pos (by rw [h]; exact List.mem_cons_self)]
  · rfl
theorem e_iload_n0 : ab_ds X P (.ok (.iload_n 0, 1)) pc (some (.int x) :: t) st M k = k (pc + 1) (some (.int x) :: t) (.int x :: st) M := by simp [ab_ds, ab_lo, ab_st, show ((3 : Fin 4) : Nat) = 3 from rfl]
theorem e_lload_n0 : ab_ds X P (.ok (.lload_n 0, 1)) pc (some (.long u) :: t) st M k = k (pc + 1) (some (.long u) :: t) (.long u :: st) M := by simp [ab_ds, ab_lo, ab_st, show ((3 : Fin 4) : Nat) = 3 from rfl]
theorem e_aload_n0 : ab_ds X P (.ok (.aload_n 0, 1)) pc (some (.ref q) :: t) st M k = k (pc + 1) (some (.ref q) :: t) (.ref q :: st) M := by simp [ab_ds, ab_lo, ab_st, show ((3 : Fin 4) : Nat) = 3 from rfl]
theorem e_iinc0 : ab_ds X P (.ok (.iinc 0 off, 3)) pc (some (.int x) :: t) st M k = k (pc + 3) (some (.int (x + Int32.ofInt off)) :: t) st M := by simp [ab_ds, ab_lo, ab_st, show ((3 : Fin 4) : Nat) = 3 from rfl]
theorem e_istore_n0 : ab_ds X P (.ok (.istore_n 0, 1)) pc (c0 :: t) (.int x :: st) M k = k (pc + 1) (some (.int x) :: t) st M := by simp [ab_ds, ab_lo, ab_st, ab_nl, show ((3 : Fin 4) : Nat) = 3 from rfl]
theorem e_astore_n0 : ab_ds X P (.ok (.astore_n 0, 1)) pc (c0 :: t) (.ref q :: st) M k = k (pc + 1) (some (.ref q) :: t) st M := by simp [ab_ds, ab_lo, ab_st, ab_nl, show ((3 : Fin 4) : Nat) = 3 from rfl]
theorem e_lstore0i : ab_ds X P (.ok (.lstore_n 0, 1)) pc (some (.int y) :: c1 :: t) (.long u :: st) M k = k (pc + 1) (some (.long u) :: none :: t) st M := by simp [ab_ds, ab_lo, ab_st, ab_nl, show ((3 : Fin 4) : Nat) = 3 from rfl]
theorem e_lstore0r : ab_ds X P (.ok (.lstore_n 0, 1)) pc (some (.ref r) :: c1 :: t) (.long u :: st) M k = k (pc + 1) (some (.long u) :: none :: t) st M := by simp [ab_ds, ab_lo, ab_st, ab_nl, show ((3 : Fin 4) : Nat) = 3 from rfl]
theorem e_lstore0n : ab_ds X P (.ok (.lstore_n 0, 1)) pc (none :: c1 :: t) (.long u :: st) M k = k (pc + 1) (some (.long u) :: none :: t) st M := by simp [ab_ds, ab_lo, ab_st, ab_nl, show ((3 : Fin 4) : Nat) = 3 from rfl]
theorem e_lstore0l : ab_ds X P (.ok (.lstore_n 0, 1)) pc (some (.long v) :: none :: t) (.long u :: st) M k = k (pc + 1) (some (.long u) :: none :: t) st M := by simp [ab_ds, ab_lo, ab_st, ab_nl, show ((3 : Fin 4) : Nat) = 3 from rfl]
theorem e_iload_n1 : ab_ds X P (.ok (.iload_n 1, 1)) pc (c0 :: some (.int x) :: t) st M k = k (pc + 1) (c0 :: some (.int x) :: t) (.int x :: st) M := by simp [ab_ds, ab_lo, ab_st, show ((3 : Fin 4) : Nat) = 3 from rfl]
theorem e_lload_n1 : ab_ds X P (.ok (.lload_n 1, 1)) pc (c0 :: some (.long u) :: t) st M k = k (pc + 1) (c0 :: some (.long u) :: t) (.long u :: st) M := by simp [ab_ds, ab_lo, ab_st, show ((3 : Fin 4) : Nat) = 3 from rfl]
theorem e_aload_n1 : ab_ds X P (.ok (.aload_n 1, 1)) pc (c0 :: some (.ref q) :: t) st M k = k (pc + 1) (c0 :: some (.ref q) :: t) (.ref q :: st) M := by simp [ab_ds, ab_lo, ab_st, show ((3 : Fin 4) : Nat) = 3 from rfl]
theorem e_iinc1 : ab_ds X P (.ok (.iinc 1 off, 3)) pc (c0 :: some (.int x) :: t) st M k = k (pc + 3) (c0 :: some (.int (x + Int32.ofInt off)) :: t) st M := by simp [ab_ds, ab_lo, ab_st, show ((3 : Fin 4) : Nat) = 3 from rfl]
theorem e_istore_n1i : ab_ds X P (.ok (.istore_n 1, 1)) pc (some (.int y) :: c1 :: t) (.int x :: st) M k = k (pc + 1) (some (.int y) :: some (.int x) :: t) st M := by simp [ab_ds, ab_lo, ab_st, ab_nl, show ((3 : Fin 4) : Nat) = 3 from rfl]
theorem e_astore_n1i : ab_ds X P (.ok (.astore_n 1, 1)) pc (some (.int y) :: c1 :: t) (.ref q :: st) M k = k (pc + 1) (some (.int y) :: some (.ref q) :: t) st M := by simp [ab_ds, ab_lo, ab_st, ab_nl, show ((3 : Fin 4) : Nat) = 3 from rfl]
theorem e_lstore1ii : ab_ds X P (.ok (.lstore_n 1, 1)) pc (some (.int y) :: some (.int y) :: c2 :: t) (.long u :: st) M k = k (pc + 1) (some (.int y) :: some (.long u) :: none :: t) st M := by simp [ab_ds, ab_lo, ab_st, ab_nl, show ((3 : Fin 4) : Nat) = 3 from rfl]
theorem e_lstore1ir : ab_ds X P (.ok (.lstore_n 1, 1)) pc (some (.int y) :: some (.ref r) :: c2 :: t) (.long u :: st) M k = k (pc + 1) (some (.int y) :: some (.long u) :: none :: t) st M := by simp [ab_ds, ab_lo, ab_st, ab_nl, show ((3 : Fin 4) : Nat) = 3 from rfl]
theorem e_lstore1in : ab_ds X P (.ok (.lstore_n 1, 1)) pc (some (.int y) :: none :: c2 :: t) (.long u :: st) M k = k (pc + 1) (some (.int y) :: some (.long u) :: none :: t) st M := by simp [ab_ds, ab_lo, ab_st, ab_nl, show ((3 : Fin 4) : Nat) = 3 from rfl]
theorem e_lstore1il : ab_ds X P (.ok (.lstore_n 1, 1)) pc (some (.int y) :: some (.long v) :: none :: t) (.long u :: st) M k = k (pc + 1) (some (.int y) :: some (.long u) :: none :: t) st M := by simp [ab_ds, ab_lo, ab_st, ab_nl, show ((3 : Fin 4) : Nat) = 3 from rfl]
theorem e_istore_n1r : ab_ds X P (.ok (.istore_n 1, 1)) pc (some (.ref r) :: c1 :: t) (.int x :: st) M k = k (pc + 1) (some (.ref r) :: some (.int x) :: t) st M := by simp [ab_ds, ab_lo, ab_st, ab_nl, show ((3 : Fin 4) : Nat) = 3 from rfl]
theorem e_astore_n1r : ab_ds X P (.ok (.astore_n 1, 1)) pc (some (.ref r) :: c1 :: t) (.ref q :: st) M k = k (pc + 1) (some (.ref r) :: some (.ref q) :: t) st M := by simp [ab_ds, ab_lo, ab_st, ab_nl, show ((3 : Fin 4) : Nat) = 3 from rfl]
theorem e_lstore1ri : ab_ds X P (.ok (.lstore_n 1, 1)) pc (some (.ref r) :: some (.int y) :: c2 :: t) (.long u :: st) M k = k (pc + 1) (some (.ref r) :: some (.long u) :: none :: t) st M := by simp [ab_ds, ab_lo, ab_st, ab_nl, show ((3 : Fin 4) : Nat) = 3 from rfl]
theorem e_lstore1rr : ab_ds X P (.ok (.lstore_n 1, 1)) pc (some (.ref r) :: some (.ref r) :: c2 :: t) (.long u :: st) M k = k (pc + 1) (some (.ref r) :: some (.long u) :: none :: t) st M := by simp [ab_ds, ab_lo, ab_st, ab_nl, show ((3 : Fin 4) : Nat) = 3 from rfl]
theorem e_lstore1rn : ab_ds X P (.ok (.lstore_n 1, 1)) pc (some (.ref r) :: none :: c2 :: t) (.long u :: st) M k = k (pc + 1) (some (.ref r) :: some (.long u) :: none :: t) st M := by simp [ab_ds, ab_lo, ab_st, ab_nl, show ((3 : Fin 4) : Nat) = 3 from rfl]
theorem e_lstore1rl : ab_ds X P (.ok (.lstore_n 1, 1)) pc (some (.ref r) :: some (.long v) :: none :: t) (.long u :: st) M k = k (pc + 1) (some (.ref r) :: some (.long u) :: none :: t) st M := by simp [ab_ds, ab_lo, ab_st, ab_nl, show ((3 : Fin 4) : Nat) = 3 from rfl]
theorem e_istore_n1n : ab_ds X P (.ok (.istore_n 1, 1)) pc (none :: c1 :: t) (.int x :: st) M k = k (pc + 1) (none :: some (.int x) :: t) st M := by simp [ab_ds, ab_lo, ab_st, ab_nl, show ((3 : Fin 4) : Nat) = 3 from rfl]
theorem e_astore_n1n : ab_ds X P (.ok (.astore_n 1, 1)) pc (none :: c1 :: t) (.ref q :: st) M k = k (pc + 1) (none :: some (.ref q) :: t) st M := by simp [ab_ds, ab_lo, ab_st, ab_nl, show ((3 : Fin 4) : Nat) = 3 from rfl]
theorem e_lstore1ni : ab_ds X P (.ok (.lstore_n 1, 1)) pc (none :: some (.int y) :: c2 :: t) (.long u :: st) M k = k (pc + 1) (none :: some (.long u) :: none :: t) st M := by simp [ab_ds, ab_lo, ab_st, ab_nl, show ((3 : Fin 4) : Nat) = 3 from rfl]
theorem e_lstore1nr : ab_ds X P (.ok (.lstore_n 1, 1)) pc (none :: some (.ref r) :: c2 :: t) (.long u :: st) M k = k (pc + 1) (none :: some (.long u) :: none :: t) st M := by simp [ab_ds, ab_lo, ab_st, ab_nl, show ((3 : Fin 4) : Nat) = 3 from rfl]
theorem e_lstore1nn : ab_ds X P (.ok (.lstore_n 1, 1)) pc (none :: none :: c2 :: t) (.long u :: st) M k = k (pc + 1) (none :: some (.long u) :: none :: t) st M := by simp [ab_ds, ab_lo, ab_st, ab_nl, show ((3 : Fin 4) : Nat) = 3 from rfl]
theorem e_lstore1nl : ab_ds X P (.ok (.lstore_n 1, 1)) pc (none :: some (.long v) :: none :: t) (.long u :: st) M k = k (pc + 1) (none :: some (.long u) :: none :: t) st M := by simp [ab_ds, ab_lo, ab_st, ab_nl, show ((3 : Fin 4) : Nat) = 3 from rfl]
theorem e_iload_n2 : ab_ds X P (.ok (.iload_n 2, 1)) pc (c0 :: c1 :: some (.int x) :: t) st M k = k (pc + 1) (c0 :: c1 :: some (.int x) :: t) (.int x :: st) M := by simp [ab_ds, ab_lo, ab_st, show ((3 : Fin 4) : Nat) = 3 from rfl]
theorem e_lload_n2 : ab_ds X P (.ok (.lload_n 2, 1)) pc (c0 :: c1 :: some (.long u) :: t) st M k = k (pc + 1) (c0 :: c1 :: some (.long u) :: t) (.long u :: st) M := by simp [ab_ds, ab_lo, ab_st, show ((3 : Fin 4) : Nat) = 3 from rfl]
theorem e_aload_n2 : ab_ds X P (.ok (.aload_n 2, 1)) pc (c0 :: c1 :: some (.ref q) :: t) st M k = k (pc + 1) (c0 :: c1 :: some (.ref q) :: t) (.ref q :: st) M := by simp [ab_ds, ab_lo, ab_st, show ((3 : Fin 4) : Nat) = 3 from rfl]
theorem e_iinc2 : ab_ds X P (.ok (.iinc 2 off, 3)) pc (c0 :: c1 :: some (.int x) :: t) st M k = k (pc + 3) (c0 :: c1 :: some (.int (x + Int32.ofInt off)) :: t) st M := by simp [ab_ds, ab_lo, ab_st, show ((3 : Fin 4) : Nat) = 3 from rfl]
theorem e_istore_n2i : ab_ds X P (.ok (.istore_n 2, 1)) pc (c0 :: some (.int y) :: c2 :: t) (.int x :: st) M k = k (pc + 1) (c0 :: some (.int y) :: some (.int x) :: t) st M := by simp [ab_ds, ab_lo, ab_st, ab_nl, show ((3 : Fin 4) : Nat) = 3 from rfl]
theorem e_astore_n2i : ab_ds X P (.ok (.astore_n 2, 1)) pc (c0 :: some (.int y) :: c2 :: t) (.ref q :: st) M k = k (pc + 1) (c0 :: some (.int y) :: some (.ref q) :: t) st M := by simp [ab_ds, ab_lo, ab_st, ab_nl, show ((3 : Fin 4) : Nat) = 3 from rfl]
theorem e_lstore2ii : ab_ds X P (.ok (.lstore_n 2, 1)) pc (c0 :: some (.int y) :: some (.int y) :: c3 :: t) (.long u :: st) M k = k (pc + 1) (c0 :: some (.int y) :: some (.long u) :: none :: t) st M := by simp [ab_ds, ab_lo, ab_st, ab_nl, show ((3 : Fin 4) : Nat) = 3 from rfl]
theorem e_lstore2ir : ab_ds X P (.ok (.lstore_n 2, 1)) pc (c0 :: some (.int y) :: some (.ref r) :: c3 :: t) (.long u :: st) M k = k (pc + 1) (c0 :: some (.int y) :: some (.long u) :: none :: t) st M := by simp [ab_ds, ab_lo, ab_st, ab_nl, show ((3 : Fin 4) : Nat) = 3 from rfl]
theorem e_lstore2in : ab_ds X P (.ok (.lstore_n 2, 1)) pc (c0 :: some (.int y) :: none :: c3 :: t) (.long u :: st) M k = k (pc + 1) (c0 :: some (.int y) :: some (.long u) :: none :: t) st M := by simp [ab_ds, ab_lo, ab_st, ab_nl, show ((3 : Fin 4) : Nat) = 3 from rfl]
theorem e_lstore2il : ab_ds X P (.ok (.lstore_n 2, 1)) pc (c0 :: some (.int y) :: some (.long v) :: none :: t) (.long u :: st) M k = k (pc + 1) (c0 :: some (.int y) :: some (.long u) :: none :: t) st M := by simp [ab_ds, ab_lo, ab_st, ab_nl, show ((3 : Fin 4) : Nat) = 3 from rfl]
theorem e_istore_n2r : ab_ds X P (.ok (.istore_n 2, 1)) pc (c0 :: some (.ref r) :: c2 :: t) (.int x :: st) M k = k (pc + 1) (c0 :: some (.ref r) :: some (.int x) :: t) st M := by simp [ab_ds, ab_lo, ab_st, ab_nl, show ((3 : Fin 4) : Nat) = 3 from rfl]
theorem e_astore_n2r : ab_ds X P (.ok (.astore_n 2, 1)) pc (c0 :: some (.ref r) :: c2 :: t) (.ref q :: st) M k = k (pc + 1) (c0 :: some (.ref r) :: some (.ref q) :: t) st M := by simp [ab_ds, ab_lo, ab_st, ab_nl, show ((3 : Fin 4) : Nat) = 3 from rfl]
theorem e_lstore2ri : ab_ds X P (.ok (.lstore_n 2, 1)) pc (c0 :: some (.ref r) :: some (.int y) :: c3 :: t) (.long u :: st) M k = k (pc + 1) (c0 :: some (.ref r) :: some (.long u) :: none :: t) st M := by simp [ab_ds, ab_lo, ab_st, ab_nl, show ((3 : Fin 4) : Nat) = 3 from rfl]
theorem e_lstore2rr : ab_ds X P (.ok (.lstore_n 2, 1)) pc (c0 :: some (.ref r) :: some (.ref r) :: c3 :: t) (.long u :: st) M k = k (pc + 1) (c0 :: some (.ref r) :: some (.long u) :: none :: t) st M := by simp [ab_ds, ab_lo, ab_st, ab_nl, show ((3 : Fin 4) : Nat) = 3 from rfl]
theorem e_lstore2rn : ab_ds X P (.ok (.lstore_n 2, 1)) pc (c0 :: some (.ref r) :: none :: c3 :: t) (.long u :: st) M k = k (pc + 1) (c0 :: some (.ref r) :: some (.long u) :: none :: t) st M := by simp [ab_ds, ab_lo, ab_st, ab_nl, show ((3 : Fin 4) : Nat) = 3 from rfl]
theorem e_lstore2rl : ab_ds X P (.ok (.lstore_n 2, 1)) pc (c0 :: some (.ref r) :: some (.long v) :: none :: t) (.long u :: st) M k = k (pc + 1) (c0 :: some (.ref r) :: some (.long u) :: none :: t) st M := by simp [ab_ds, ab_lo, ab_st, ab_nl, show ((3 : Fin 4) : Nat) = 3 from rfl]
theorem e_istore_n2n : ab_ds X P (.ok (.istore_n 2, 1)) pc (c0 :: none :: c2 :: t) (.int x :: st) M k = k (pc + 1) (c0 :: none :: some (.int x) :: t) st M := by simp [ab_ds, ab_lo, ab_st, ab_nl, show ((3 : Fin 4) : Nat) = 3 from rfl]
theorem e_astore_n2n : ab_ds X P (.ok (.astore_n 2, 1)) pc (c0 :: none :: c2 :: t) (.ref q :: st) M k = k (pc + 1) (c0 :: none :: some (.ref q) :: t) st M := by simp [ab_ds, ab_lo, ab_st, ab_nl, show ((3 : Fin 4) : Nat) = 3 from rfl]
theorem e_lstore2ni : ab_ds X P (.ok (.lstore_n 2, 1)) pc (c0 :: none :: some (.int y) :: c3 :: t) (.long u :: st) M k = k (pc + 1) (c0 :: none :: some (.long u) :: none :: t) st M := by simp [ab_ds, ab_lo, ab_st, ab_nl, show ((3 : Fin 4) : Nat) = 3 from rfl]
theorem e_lstore2nr : ab_ds X P (.ok (.lstore_n 2, 1)) pc (c0 :: none :: some (.ref r) :: c3 :: t) (.long u :: st) M k = k (pc + 1) (c0 :: none :: some (.long u) :: none :: t) st M := by simp [ab_ds, ab_lo, ab_st, ab_nl, show ((3 : Fin 4) : Nat) = 3 from rfl]
theorem e_lstore2nn : ab_ds X P (.ok (.lstore_n 2, 1)) pc (c0 :: none :: none :: c3 :: t) (.long u :: st) M k = k (pc + 1) (c0 :: none :: some (.long u) :: none :: t) st M := by simp [ab_ds, ab_lo, ab_st, ab_nl, show ((3 : Fin 4) : Nat) = 3 from rfl]
theorem e_lstore2nl : ab_ds X P (.ok (.lstore_n 2, 1)) pc (c0 :: none :: some (.long v) :: none :: t) (.long u :: st) M k = k (pc + 1) (c0 :: none :: some (.long u) :: none :: t) st M := by simp [ab_ds, ab_lo, ab_st, ab_nl, show ((3 : Fin 4) : Nat) = 3 from rfl]
theorem e_iload_n3 : ab_ds X P (.ok (.iload_n 3, 1)) pc (c0 :: c1 :: c2 :: some (.int x) :: t) st M k = k (pc + 1) (c0 :: c1 :: c2 :: some (.int x) :: t) (.int x :: st) M := by simp [ab_ds, ab_lo, ab_st, show ((3 : Fin 4) : Nat) = 3 from rfl]
theorem e_lload_n3 : ab_ds X P (.ok (.lload_n 3, 1)) pc (c0 :: c1 :: c2 :: some (.long u) :: t) st M k = k (pc + 1) (c0 :: c1 :: c2 :: some (.long u) :: t) (.long u :: st) M := by simp [ab_ds, ab_lo, ab_st, show ((3 : Fin 4) : Nat) = 3 from rfl]
theorem e_aload_n3 : ab_ds X P (.ok (.aload_n 3, 1)) pc (c0 :: c1 :: c2 :: some (.ref q) :: t) st M k = k (pc + 1) (c0 :: c1 :: c2 :: some (.ref q) :: t) (.ref q :: st) M := by simp [ab_ds, ab_lo, ab_st, show ((3 : Fin 4) : Nat) = 3 from rfl]
theorem e_iinc3 : ab_ds X P (.ok (.iinc 3 off, 3)) pc (c0 :: c1 :: c2 :: some (.int x) :: t) st M k = k (pc + 3) (c0 :: c1 :: c2 :: some (.int (x + Int32.ofInt off)) :: t) st M := by simp [ab_ds, ab_lo, ab_st, show ((3 : Fin 4) : Nat) = 3 from rfl]
theorem e_istore_n3i : ab_ds X P (.ok (.istore_n 3, 1)) pc (c0 :: c1 :: some (.int y) :: c3 :: t) (.int x :: st) M k = k (pc + 1) (c0 :: c1 :: some (.int y) :: some (.int x) :: t) st M := by simp [ab_ds, ab_lo, ab_st, ab_nl, show ((3 : Fin 4) : Nat) = 3 from rfl]
theorem e_astore_n3i : ab_ds X P (.ok (.astore_n 3, 1)) pc (c0 :: c1 :: some (.int y) :: c3 :: t) (.ref q :: st) M k = k (pc + 1) (c0 :: c1 :: some (.int y) :: some (.ref q) :: t) st M := by simp [ab_ds, ab_lo, ab_st, ab_nl, show ((3 : Fin 4) : Nat) = 3 from rfl]
theorem e_lstore3ii : ab_ds X P (.ok (.lstore_n 3, 1)) pc (c0 :: c1 :: some (.int y) :: some (.int y) :: c4 :: t) (.long u :: st) M k = k (pc + 1) (c0 :: c1 :: some (.int y) :: some (.long u) :: none :: t) st M := by simp [ab_ds, ab_lo, ab_st, ab_nl, show ((3 : Fin 4) : Nat) = 3 from rfl]
theorem e_lstore3ir : ab_ds X P (.ok (.lstore_n 3, 1)) pc (c0 :: c1 :: some (.int y) :: some (.ref r) :: c4 :: t) (.long u :: st) M k = k (pc + 1) (c0 :: c1 :: some (.int y) :: some (.long u) :: none :: t) st M := by simp [ab_ds, ab_lo, ab_st, ab_nl, show ((3 : Fin 4) : Nat) = 3 from rfl]
theorem e_lstore3in : ab_ds X P (.ok (.lstore_n 3, 1)) pc (c0 :: c1 :: some (.int y) :: none :: c4 :: t) (.long u :: st) M k = k (pc + 1) (c0 :: c1 :: some (.int y) :: some (.long u) :: none :: t) st M := by simp [ab_ds, ab_lo, ab_st, ab_nl, show ((3 : Fin 4) : Nat) = 3 from rfl]
theorem e_lstore3il : ab_ds X P (.ok (.lstore_n 3, 1)) pc (c0 :: c1 :: some (.int y) :: some (.long v) :: none :: t) (.long u :: st) M k = k (pc + 1) (c0 :: c1 :: some (.int y) :: some (.long u) :: none :: t) st M := by simp [ab_ds, ab_lo, ab_st, ab_nl, show ((3 : Fin 4) : Nat) = 3 from rfl]
theorem e_istore_n3r : ab_ds X P (.ok (.istore_n 3, 1)) pc (c0 :: c1 :: some (.ref r) :: c3 :: t) (.int x :: st) M k = k (pc + 1) (c0 :: c1 :: some (.ref r) :: some (.int x) :: t) st M := by simp [ab_ds, ab_lo, ab_st, ab_nl, show ((3 : Fin 4) : Nat) = 3 from rfl]
theorem e_astore_n3r : ab_ds X P (.ok (.astore_n 3, 1)) pc (c0 :: c1 :: some (.ref r) :: c3 :: t) (.ref q :: st) M k = k (pc + 1) (c0 :: c1 :: some (.ref r) :: some (.ref q) :: t) st M := by simp [ab_ds, ab_lo, ab_st, ab_nl, show ((3 : Fin 4) : Nat) = 3 from rfl]
theorem e_lstore3ri : ab_ds X P (.ok (.lstore_n 3, 1)) pc (c0 :: c1 :: some (.ref r) :: some (.int y) :: c4 :: t) (.long u :: st) M k = k (pc + 1) (c0 :: c1 :: some (.ref r) :: some (.long u) :: none :: t) st M := by simp [ab_ds, ab_lo, ab_st, ab_nl, show ((3 : Fin 4) : Nat) = 3 from rfl]
theorem e_lstore3rr : ab_ds X P (.ok (.lstore_n 3, 1)) pc (c0 :: c1 :: some (.ref r) :: some (.ref r) :: c4 :: t) (.long u :: st) M k = k (pc + 1) (c0 :: c1 :: some (.ref r) :: some (.long u) :: none :: t) st M := by simp [ab_ds, ab_lo, ab_st, ab_nl, show ((3 : Fin 4) : Nat) = 3 from rfl]
theorem e_lstore3rn : ab_ds X P (.ok (.lstore_n 3, 1)) pc (c0 :: c1 :: some (.ref r) :: none :: c4 :: t) (.long u :: st) M k = k (pc + 1) (c0 :: c1 :: some (.ref r) :: some (.long u) :: none :: t) st M := by simp [ab_ds, ab_lo, ab_st, ab_nl, show ((3 : Fin 4) : Nat) = 3 from rfl]
theorem e_lstore3rl : ab_ds X P (.ok (.lstore_n 3, 1)) pc (c0 :: c1 :: some (.ref r) :: some (.long v) :: none :: t) (.long u :: st) M k = k (pc + 1) (c0 :: c1 :: some (.ref r) :: some (.long u) :: none :: t) st M := by simp [ab_ds, ab_lo, ab_st, ab_nl, show ((3 : Fin 4) : Nat) = 3 from rfl]
theorem e_istore_n3n : ab_ds X P (.ok (.istore_n 3, 1)) pc (c0 :: c1 :: none :: c3 :: t) (.int x :: st) M k = k (pc + 1) (c0 :: c1 :: none :: some (.int x) :: t) st M := by simp [ab_ds, ab_lo, ab_st, ab_nl, show ((3 : Fin 4) : Nat) = 3 from rfl]
theorem e_astore_n3n : ab_ds X P (.ok (.astore_n 3, 1)) pc (c0 :: c1 :: none :: c3 :: t) (.ref q :: st) M k = k (pc + 1) (c0 :: c1 :: none :: some (.ref q) :: t) st M := by simp [ab_ds, ab_lo, ab_st, ab_nl, show ((3 : Fin 4) : Nat) = 3 from rfl]
theorem e_lstore3ni : ab_ds X P (.ok (.lstore_n 3, 1)) pc (c0 :: c1 :: none :: some (.int y) :: c4 :: t) (.long u :: st) M k = k (pc + 1) (c0 :: c1 :: none :: some (.long u) :: none :: t) st M := by simp [ab_ds, ab_lo, ab_st, ab_nl, show ((3 : Fin 4) : Nat) = 3 from rfl]
theorem e_lstore3nr : ab_ds X P (.ok (.lstore_n 3, 1)) pc (c0 :: c1 :: none :: some (.ref r) :: c4 :: t) (.long u :: st) M k = k (pc + 1) (c0 :: c1 :: none :: some (.long u) :: none :: t) st M := by simp [ab_ds, ab_lo, ab_st, ab_nl, show ((3 : Fin 4) : Nat) = 3 from rfl]
theorem e_lstore3nn : ab_ds X P (.ok (.lstore_n 3, 1)) pc (c0 :: c1 :: none :: none :: c4 :: t) (.long u :: st) M k = k (pc + 1) (c0 :: c1 :: none :: some (.long u) :: none :: t) st M := by simp [ab_ds, ab_lo, ab_st, ab_nl, show ((3 : Fin 4) : Nat) = 3 from rfl]
theorem e_lstore3nl : ab_ds X P (.ok (.lstore_n 3, 1)) pc (c0 :: c1 :: none :: some (.long v) :: none :: t) (.long u :: st) M k = k (pc + 1) (c0 :: c1 :: none :: some (.long u) :: none :: t) st M := by simp [ab_ds, ab_lo, ab_st, ab_nl, show ((3 : Fin 4) : Nat) = 3 from rfl]
theorem e_iload4 : ab_ds X P (.ok (.iload 4, 2)) pc (c0 :: c1 :: c2 :: c3 :: some (.int x) :: t) st M k = k (pc + 2) (c0 :: c1 :: c2 :: c3 :: some (.int x) :: t) (.int x :: st) M := by simp [ab_ds, ab_lo, ab_st, show ((3 : Fin 4) : Nat) = 3 from rfl]
theorem e_lload4 : ab_ds X P (.ok (.lload 4, 2)) pc (c0 :: c1 :: c2 :: c3 :: some (.long u) :: t) st M k = k (pc + 2) (c0 :: c1 :: c2 :: c3 :: some (.long u) :: t) (.long u :: st) M := by simp [ab_ds, ab_lo, ab_st, show ((3 : Fin 4) : Nat) = 3 from rfl]
theorem e_iinc4 : ab_ds X P (.ok (.iinc 4 off, 3)) pc (c0 :: c1 :: c2 :: c3 :: some (.int x) :: t) st M k = k (pc + 3) (c0 :: c1 :: c2 :: c3 :: some (.int (x + Int32.ofInt off)) :: t) st M := by simp [ab_ds, ab_lo, ab_st, show ((3 : Fin 4) : Nat) = 3 from rfl]
theorem e_istore4i : ab_ds X P (.ok (.istore 4, 2)) pc (c0 :: c1 :: c2 :: some (.int y) :: c4 :: t) (.int x :: st) M k = k (pc + 2) (c0 :: c1 :: c2 :: some (.int y) :: some (.int x) :: t) st M := by simp [ab_ds, ab_lo, ab_st, ab_nl, show ((3 : Fin 4) : Nat) = 3 from rfl]
theorem e_lstore4ii : ab_ds X P (.ok (.lstore 4, 2)) pc (c0 :: c1 :: c2 :: some (.int y) :: some (.int y) :: c5 :: t) (.long u :: st) M k = k (pc + 2) (c0 :: c1 :: c2 :: some (.int y) :: some (.long u) :: none :: t) st M := by simp [ab_ds, ab_lo, ab_st, ab_nl, show ((3 : Fin 4) : Nat) = 3 from rfl]
theorem e_lstore4ir : ab_ds X P (.ok (.lstore 4, 2)) pc (c0 :: c1 :: c2 :: some (.int y) :: some (.ref r) :: c5 :: t) (.long u :: st) M k = k (pc + 2) (c0 :: c1 :: c2 :: some (.int y) :: some (.long u) :: none :: t) st M := by simp [ab_ds, ab_lo, ab_st, ab_nl, show ((3 : Fin 4) : Nat) = 3 from rfl]
theorem e_lstore4in : ab_ds X P (.ok (.lstore 4, 2)) pc (c0 :: c1 :: c2 :: some (.int y) :: none :: c5 :: t) (.long u :: st) M k = k (pc + 2) (c0 :: c1 :: c2 :: some (.int y) :: some (.long u) :: none :: t) st M := by simp [ab_ds, ab_lo, ab_st, ab_nl, show ((3 : Fin 4) : Nat) = 3 from rfl]
theorem e_lstore4il : ab_ds X P (.ok (.lstore 4, 2)) pc (c0 :: c1 :: c2 :: some (.int y) :: some (.long v) :: none :: t) (.long u :: st) M k = k (pc + 2) (c0 :: c1 :: c2 :: some (.int y) :: some (.long u) :: none :: t) st M := by simp [ab_ds, ab_lo, ab_st, ab_nl, show ((3 : Fin 4) : Nat) = 3 from rfl]
theorem e_istore4r : ab_ds X P (.ok (.istore 4, 2)) pc (c0 :: c1 :: c2 :: some (.ref r) :: c4 :: t) (.int x :: st) M k = k (pc + 2) (c0 :: c1 :: c2 :: some (.ref r) :: some (.int x) :: t) st M := by simp [ab_ds, ab_lo, ab_st, ab_nl, show ((3 : Fin 4) : Nat) = 3 from rfl]
theorem e_lstore4ri : ab_ds X P (.ok (.lstore 4, 2)) pc (c0 :: c1 :: c2 :: some (.ref r) :: some (.int y) :: c5 :: t) (.long u :: st) M k = k (pc + 2) (c0 :: c1 :: c2 :: some (.ref r) :: some (.long u) :: none :: t) st M := by simp [ab_ds, ab_lo, ab_st, ab_nl, show ((3 : Fin 4) : Nat) = 3 from rfl]
theorem e_lstore4rr : ab_ds X P (.ok (.lstore 4, 2)) pc (c0 :: c1 :: c2 :: some (.ref r) :: some (.ref r) :: c5 :: t) (.long u :: st) M k = k (pc + 2) (c0 :: c1 :: c2 :: some (.ref r) :: some (.long u) :: none :: t) st M := by simp [ab_ds, ab_lo, ab_st, ab_nl, show ((3 : Fin 4) : Nat) = 3 from rfl]
theorem e_lstore4rn : ab_ds X P (.ok (.lstore 4, 2)) pc (c0 :: c1 :: c2 :: some (.ref r) :: none :: c5 :: t) (.long u :: st) M k = k (pc + 2) (c0 :: c1 :: c2 :: some (.ref r) :: some (.long u) :: none :: t) st M := by simp [ab_ds, ab_lo, ab_st, ab_nl, show ((3 : Fin 4) : Nat) = 3 from rfl]
theorem e_lstore4rl : ab_ds X P (.ok (.lstore 4, 2)) pc (c0 :: c1 :: c2 :: some (.ref r) :: some (.long v) :: none :: t) (.long u :: st) M k = k (pc + 2) (c0 :: c1 :: c2 :: some (.ref r) :: some (.long u) :: none :: t) st M := by simp [ab_ds, ab_lo, ab_st, ab_nl, show ((3 : Fin 4) : Nat) = 3 from rfl]
theorem e_istore4n : ab_ds X P (.ok (.istore 4, 2)) pc (c0 :: c1 :: c2 :: none :: c4 :: t) (.int x :: st) M k = k (pc + 2) (c0 :: c1 :: c2 :: none :: some (.int x) :: t) st M := by simp [ab_ds, ab_lo, ab_st, ab_nl, show ((3 : Fin 4) : Nat) = 3 from rfl]
theorem e_lstore4ni : ab_ds X P (.ok (.lstore 4, 2)) pc (c0 :: c1 :: c2 :: none :: some (.int y) :: c5 :: t) (.long u :: st) M k = k (pc + 2) (c0 :: c1 :: c2 :: none :: some (.long u) :: none :: t) st M := by simp [ab_ds, ab_lo, ab_st, ab_nl, show ((3 : Fin 4) : Nat) = 3 from rfl]
theorem e_lstore4nr : ab_ds X P (.ok (.lstore 4, 2)) pc (c0 :: c1 :: c2 :: none :: some (.ref r) :: c5 :: t) (.long u :: st) M k = k (pc + 2) (c0 :: c1 :: c2 :: none :: some (.long u) :: none :: t) st M := by simp [ab_ds, ab_lo, ab_st, ab_nl, show ((3 : Fin 4) : Nat) = 3 from rfl]
theorem e_lstore4nn : ab_ds X P (.ok (.lstore 4, 2)) pc (c0 :: c1 :: c2 :: none :: none :: c5 :: t) (.long u :: st) M k = k (pc + 2) (c0 :: c1 :: c2 :: none :: some (.long u) :: none :: t) st M := by simp [ab_ds, ab_lo, ab_st, ab_nl, show ((3 : Fin 4) : Nat) = 3 from rfl]
theorem e_lstore4nl : ab_ds X P (.ok (.lstore 4, 2)) pc (c0 :: c1 :: c2 :: none :: some (.long v) :: none :: t) (.long u :: st) M k = k (pc + 2) (c0 :: c1 :: c2 :: none :: some (.long u) :: none :: t) st M := by simp [ab_ds, ab_lo, ab_st, ab_nl, show ((3 : Fin 4) : Nat) = 3 from rfl]
theorem e_iload5 : ab_ds X P (.ok (.iload 5, 2)) pc (c0 :: c1 :: c2 :: c3 :: c4 :: some (.int x) :: t) st M k = k (pc + 2) (c0 :: c1 :: c2 :: c3 :: c4 :: some (.int x) :: t) (.int x :: st) M := by simp [ab_ds, ab_lo, ab_st, show ((3 : Fin 4) : Nat) = 3 from rfl]
theorem e_lload5 : ab_ds X P (.ok (.lload 5, 2)) pc (c0 :: c1 :: c2 :: c3 :: c4 :: some (.long u) :: t) st M k = k (pc + 2) (c0 :: c1 :: c2 :: c3 :: c4 :: some (.long u) :: t) (.long u :: st) M := by simp [ab_ds, ab_lo, ab_st, show ((3 : Fin 4) : Nat) = 3 from rfl]
theorem e_iinc5 : ab_ds X P (.ok (.iinc 5 off, 3)) pc (c0 :: c1 :: c2 :: c3 :: c4 :: some (.int x) :: t) st M k = k (pc + 3) (c0 :: c1 :: c2 :: c3 :: c4 :: some (.int (x + Int32.ofInt off)) :: t) st M := by simp [ab_ds, ab_lo, ab_st, show ((3 : Fin 4) : Nat) = 3 from rfl]
theorem e_istore5i : ab_ds X P (.ok (.istore 5, 2)) pc (c0 :: c1 :: c2 :: c3 :: some (.int y) :: c5 :: t) (.int x :: st) M k = k (pc + 2) (c0 :: c1 :: c2 :: c3 :: some (.int y) :: some (.int x) :: t) st M := by simp [ab_ds, ab_lo, ab_st, ab_nl, show ((3 : Fin 4) : Nat) = 3 from rfl]
theorem e_lstore5ii : ab_ds X P (.ok (.lstore 5, 2)) pc (c0 :: c1 :: c2 :: c3 :: some (.int y) :: some (.int y) :: c6 :: t) (.long u :: st) M k = k (pc + 2) (c0 :: c1 :: c2 :: c3 :: some (.int y) :: some (.long u) :: none :: t) st M := by simp [ab_ds, ab_lo, ab_st, ab_nl, show ((3 : Fin 4) : Nat) = 3 from rfl]
theorem e_lstore5ir : ab_ds X P (.ok (.lstore 5, 2)) pc (c0 :: c1 :: c2 :: c3 :: some (.int y) :: some (.ref r) :: c6 :: t) (.long u :: st) M k = k (pc + 2) (c0 :: c1 :: c2 :: c3 :: some (.int y) :: some (.long u) :: none :: t) st M := by simp [ab_ds, ab_lo, ab_st, ab_nl, show ((3 : Fin 4) : Nat) = 3 from rfl]
theorem e_lstore5in : ab_ds X P (.ok (.lstore 5, 2)) pc (c0 :: c1 :: c2 :: c3 :: some (.int y) :: none :: c6 :: t) (.long u :: st) M k = k (pc + 2) (c0 :: c1 :: c2 :: c3 :: some (.int y) :: some (.long u) :: none :: t) st M := by simp [ab_ds, ab_lo, ab_st, ab_nl, show ((3 : Fin 4) : Nat) = 3 from rfl]
theorem e_lstore5il : ab_ds X P (.ok (.lstore 5, 2)) pc (c0 :: c1 :: c2 :: c3 :: some (.int y) :: some (.long v) :: none :: t) (.long u :: st) M k = k (pc + 2) (c0 :: c1 :: c2 :: c3 :: some (.int y) :: some (.long u) :: none :: t) st M := by simp [ab_ds, ab_lo, ab_st, ab_nl, show ((3 : Fin 4) : Nat) = 3 from rfl]
theorem e_istore5r : ab_ds X P (.ok (.istore 5, 2)) pc (c0 :: c1 :: c2 :: c3 :: some (.ref r) :: c5 :: t) (.int x :: st) M k = k (pc + 2) (c0 :: c1 :: c2 :: c3 :: some (.ref r) :: some (.int x) :: t) st M := by simp [ab_ds, ab_lo, ab_st, ab_nl, show ((3 : Fin 4) : Nat) = 3 from rfl]
theorem e_lstore5ri : ab_ds X P (.ok (.lstore 5, 2)) pc (c0 :: c1 :: c2 :: c3 :: some (.ref r) :: some (.int y) :: c6 :: t) (.long u :: st) M k = k (pc + 2) (c0 :: c1 :: c2 :: c3 :: some (.ref r) :: some (.long u) :: none :: t) st M := by simp [ab_ds, ab_lo, ab_st, ab_nl, show ((3 : Fin 4) : Nat) = 3 from rfl]
theorem e_lstore5rr : ab_ds X P (.ok (.lstore 5, 2)) pc (c0 :: c1 :: c2 :: c3 :: some (.ref r) :: some (.ref r) :: c6 :: t) (.long u :: st) M k = k (pc + 2) (c0 :: c1 :: c2 :: c3 :: some (.ref r) :: some (.long u) :: none :: t) st M := by simp [ab_ds, ab_lo, ab_st, ab_nl, show ((3 : Fin 4) : Nat) = 3 from rfl]
theorem e_lstore5rn : ab_ds X P (.ok (.lstore 5, 2)) pc (c0 :: c1 :: c2 :: c3 :: some (.ref r) :: none :: c6 :: t) (.long u :: st) M k = k (pc + 2) (c0 :: c1 :: c2 :: c3 :: some (.ref r) :: some (.long u) :: none :: t) st M := by simp [ab_ds, ab_lo, ab_st, ab_nl, show ((3 : Fin 4) : Nat) = 3 from rfl]
theorem e_lstore5rl : ab_ds X P (.ok (.lstore 5, 2)) pc (c0 :: c1 :: c2 :: c3 :: some (.ref r) :: some (.long v) :: none :: t) (.long u :: st) M k = k (pc + 2) (c0 :: c1 :: c2 :: c3 :: some (.ref r) :: some (.long u) :: none :: t) st M := by simp [ab_ds, ab_lo, ab_st, ab_nl, show ((3 : Fin 4) : Nat) = 3 from rfl]
theorem e_istore5n : ab_ds X P (.ok (.istore 5, 2)) pc (c0 :: c1 :: c2 :: c3 :: none :: c5 :: t) (.int x :: st) M k = k (pc + 2) (c0 :: c1 :: c2 :: c3 :: none :: some (.int x) :: t) st M := by simp [ab_ds, ab_lo, ab_st, ab_nl, show ((3 : Fin 4) : Nat) = 3 from rfl]
theorem e_lstore5ni : ab_ds X P (.ok (.lstore 5, 2)) pc (c0 :: c1 :: c2 :: c3 :: none :: some (.int y) :: c6 :: t) (.long u :: st) M k = k (pc + 2) (c0 :: c1 :: c2 :: c3 :: none :: some (.long u) :: none :: t) st M := by simp [ab_ds, ab_lo, ab_st, ab_nl, show ((3 : Fin 4) : Nat) = 3 from rfl]
theorem e_lstore5nr : ab_ds X P (.ok (.lstore 5, 2)) pc (c0 :: c1 :: c2 :: c3 :: none :: some (.ref r) :: c6 :: t) (.long u :: st) M k = k (pc + 2) (c0 :: c1 :: c2 :: c3 :: none :: some (.long u) :: none :: t) st M := by simp [ab_ds, ab_lo, ab_st, ab_nl, show ((3 : Fin 4) : Nat) = 3 from rfl]
theorem e_lstore5nn : ab_ds X P (.ok (.lstore 5, 2)) pc (c0 :: c1 :: c2 :: c3 :: none :: none :: c6 :: t) (.long u :: st) M k = k (pc + 2) (c0 :: c1 :: c2 :: c3 :: none :: some (.long u) :: none :: t) st M := by simp [ab_ds, ab_lo, ab_st, ab_nl, show ((3 : Fin 4) : Nat) = 3 from rfl]
theorem e_lstore5nl : ab_ds X P (.ok (.lstore 5, 2)) pc (c0 :: c1 :: c2 :: c3 :: none :: some (.long v) :: none :: t) (.long u :: st) M k = k (pc + 2) (c0 :: c1 :: c2 :: c3 :: none :: some (.long u) :: none :: t) st M := by simp [ab_ds, ab_lo, ab_st, ab_nl, show ((3 : Fin 4) : Nat) = 3 from rfl]
theorem e_iload6 : ab_ds X P (.ok (.iload 6, 2)) pc (c0 :: c1 :: c2 :: c3 :: c4 :: c5 :: some (.int x) :: t) st M k = k (pc + 2) (c0 :: c1 :: c2 :: c3 :: c4 :: c5 :: some (.int x) :: t) (.int x :: st) M := by simp [ab_ds, ab_lo, ab_st, show ((3 : Fin 4) : Nat) = 3 from rfl]
theorem e_lload6 : ab_ds X P (.ok (.lload 6, 2)) pc (c0 :: c1 :: c2 :: c3 :: c4 :: c5 :: some (.long u) :: t) st M k = k (pc + 2) (c0 :: c1 :: c2 :: c3 :: c4 :: c5 :: some (.long u) :: t) (.long u :: st) M := by simp [ab_ds, ab_lo, ab_st, show ((3 : Fin 4) : Nat) = 3 from rfl]
theorem e_iinc6 : ab_ds X P (.ok (.iinc 6 off, 3)) pc (c0 :: c1 :: c2 :: c3 :: c4 :: c5 :: some (.int x) :: t) st M k = k (pc + 3) (c0 :: c1 :: c2 :: c3 :: c4 :: c5 :: some (.int (x + Int32.ofInt off)) :: t) st M := by simp [ab_ds, ab_lo, ab_st, show ((3 : Fin 4) : Nat) = 3 from rfl]
theorem e_istore6i : ab_ds X P (.ok (.istore 6, 2)) pc (c0 :: c1 :: c2 :: c3 :: c4 :: some (.int y) :: c6 :: t) (.int x :: st) M k = k (pc + 2) (c0 :: c1 :: c2 :: c3 :: c4 :: some (.int y) :: some (.int x) :: t) st M := by simp [ab_ds, ab_lo, ab_st, ab_nl, show ((3 : Fin 4) : Nat) = 3 from rfl]
theorem e_lstore6ii : ab_ds X P (.ok (.lstore 6, 2)) pc (c0 :: c1 :: c2 :: c3 :: c4 :: some (.int y) :: some (.int y) :: c7 :: t) (.long u :: st) M k = k (pc + 2) (c0 :: c1 :: c2 :: c3 :: c4 :: some (.int y) :: some (.long u) :: none :: t) st M := by simp [ab_ds, ab_lo, ab_st, ab_nl, show ((3 : Fin 4) : Nat) = 3 from rfl]
theorem e_lstore6ir : ab_ds X P (.ok (.lstore 6, 2)) pc (c0 :: c1 :: c2 :: c3 :: c4 :: some (.int y) :: some (.ref r) :: c7 :: t) (.long u :: st) M k = k (pc + 2) (c0 :: c1 :: c2 :: c3 :: c4 :: some (.int y) :: some (.long u) :: none :: t) st M := by simp [ab_ds, ab_lo, ab_st, ab_nl, show ((3 : Fin 4) : Nat) = 3 from rfl]
theorem e_lstore6in : ab_ds X P (.ok (.lstore 6, 2)) pc (c0 :: c1 :: c2 :: c3 :: c4 :: some (.int y) :: none :: c7 :: t) (.long u :: st) M k = k (pc + 2) (c0 :: c1 :: c2 :: c3 :: c4 :: some (.int y) :: some (.long u) :: none :: t) st M := by simp [ab_ds, ab_lo, ab_st, ab_nl, show ((3 : Fin 4) : Nat) = 3 from rfl]
theorem e_lstore6il : ab_ds X P (.ok (.lstore 6, 2)) pc (c0 :: c1 :: c2 :: c3 :: c4 :: some (.int y) :: some (.long v) :: none :: t) (.long u :: st) M k = k (pc + 2) (c0 :: c1 :: c2 :: c3 :: c4 :: some (.int y) :: some (.long u) :: none :: t) st M := by simp [ab_ds, ab_lo, ab_st, ab_nl, show ((3 : Fin 4) : Nat) = 3 from rfl]
theorem e_istore6r : ab_ds X P (.ok (.istore 6, 2)) pc (c0 :: c1 :: c2 :: c3 :: c4 :: some (.ref r) :: c6 :: t) (.int x :: st) M k = k (pc + 2) (c0 :: c1 :: c2 :: c3 :: c4 :: some (.ref r) :: some (.int x) :: t) st M := by simp [ab_ds, ab_lo, ab_st, ab_nl, show ((3 : Fin 4) : Nat) = 3 from rfl]
theorem e_lstore6ri : ab_ds X P (.ok (.lstore 6, 2)) pc (c0 :: c1 :: c2 :: c3 :: c4 :: some (.ref r) :: some (.int y) :: c7 :: t) (.long u :: st) M k = k (pc + 2) (c0 :: c1 :: c2 :: c3 :: c4 :: some (.ref r) :: some (.long u) :: none :: t) st M := by simp [ab_ds, ab_lo, ab_st, ab_nl, show ((3 : Fin 4) : Nat) = 3 from rfl]
theorem e_lstore6rr : ab_ds X P (.ok (.lstore 6, 2)) pc (c0 :: c1 :: c2 :: c3 :: c4 :: some (.ref r) :: some (.ref r) :: c7 :: t) (.long u :: st) M k = k (pc + 2) (c0 :: c1 :: c2 :: c3 :: c4 :: some (.ref r) :: some (.long u) :: none :: t) st M := by simp [ab_ds, ab_lo, ab_st, ab_nl, show ((3 : Fin 4) : Nat) = 3 from rfl]
theorem e_lstore6rn : ab_ds X P (.ok (.lstore 6, 2)) pc (c0 :: c1 :: c2 :: c3 :: c4 :: some (.ref r) :: none :: c7 :: t) (.long u :: st) M k = k (pc + 2) (c0 :: c1 :: c2 :: c3 :: c4 :: some (.ref r) :: some (.long u) :: none :: t) st M := by simp [ab_ds, ab_lo, ab_st, ab_nl, show ((3 : Fin 4) : Nat) = 3 from rfl]
theorem e_lstore6rl : ab_ds X P (.ok (.lstore 6, 2)) pc (c0 :: c1 :: c2 :: c3 :: c4 :: some (.ref r) :: some (.long v) :: none :: t) (.long u :: st) M k = k (pc + 2) (c0 :: c1 :: c2 :: c3 :: c4 :: some (.ref r) :: some (.long u) :: none :: t) st M := by simp [ab_ds, ab_lo, ab_st, ab_nl, show ((3 : Fin 4) : Nat) = 3 from rfl]
theorem e_istore6n : ab_ds X P (.ok (.istore 6, 2)) pc (c0 :: c1 :: c2 :: c3 :: c4 :: none :: c6 :: t) (.int x :: st) M k = k (pc + 2) (c0 :: c1 :: c2 :: c3 :: c4 :: none :: some (.int x) :: t) st M := by simp [ab_ds, ab_lo, ab_st, ab_nl, show ((3 : Fin 4) : Nat) = 3 from rfl]
theorem e_lstore6ni : ab_ds X P (.ok (.lstore 6, 2)) pc (c0 :: c1 :: c2 :: c3 :: c4 :: none :: some (.int y) :: c7 :: t) (.long u :: st) M k = k (pc + 2) (c0 :: c1 :: c2 :: c3 :: c4 :: none :: some (.long u) :: none :: t) st M := by simp [ab_ds, ab_lo, ab_st, ab_nl, show ((3 : Fin 4) : Nat) = 3 from rfl]
theorem e_lstore6nr : ab_ds X P (.ok (.lstore 6, 2)) pc (c0 :: c1 :: c2 :: c3 :: c4 :: none :: some (.ref r) :: c7 :: t) (.long u :: st) M k = k (pc + 2) (c0 :: c1 :: c2 :: c3 :: c4 :: none :: some (.long u) :: none :: t) st M := by simp [ab_ds, ab_lo, ab_st, ab_nl, show ((3 : Fin 4) : Nat) = 3 from rfl]
theorem e_lstore6nn : ab_ds X P (.ok (.lstore 6, 2)) pc (c0 :: c1 :: c2 :: c3 :: c4 :: none :: none :: c7 :: t) (.long u :: st) M k = k (pc + 2) (c0 :: c1 :: c2 :: c3 :: c4 :: none :: some (.long u) :: none :: t) st M := by simp [ab_ds, ab_lo, ab_st, ab_nl, show ((3 : Fin 4) : Nat) = 3 from rfl]
theorem e_lstore6nl : ab_ds X P (.ok (.lstore 6, 2)) pc (c0 :: c1 :: c2 :: c3 :: c4 :: none :: some (.long v) :: none :: t) (.long u :: st) M k = k (pc + 2) (c0 :: c1 :: c2 :: c3 :: c4 :: none :: some (.long u) :: none :: t) st M := by simp [ab_ds, ab_lo, ab_st, ab_nl, show ((3 : Fin 4) : Nat) = 3 from rfl]
theorem e_iload7 : ab_ds X P (.ok (.iload 7, 2)) pc (c0 :: c1 :: c2 :: c3 :: c4 :: c5 :: c6 :: some (.int x) :: t) st M k = k (pc + 2) (c0 :: c1 :: c2 :: c3 :: c4 :: c5 :: c6 :: some (.int x) :: t) (.int x :: st) M := by simp [ab_ds, ab_lo, ab_st, show ((3 : Fin 4) : Nat) = 3 from rfl]
theorem e_lload7 : ab_ds X P (.ok (.lload 7, 2)) pc (c0 :: c1 :: c2 :: c3 :: c4 :: c5 :: c6 :: some (.long u) :: t) st M k = k (pc + 2) (c0 :: c1 :: c2 :: c3 :: c4 :: c5 :: c6 :: some (.long u) :: t) (.long u :: st) M := by simp [ab_ds, ab_lo, ab_st, show ((3 : Fin 4) : Nat) = 3 from rfl]
theorem e_iinc7 : ab_ds X P (.ok (.iinc 7 off, 3)) pc (c0 :: c1 :: c2 :: c3 :: c4 :: c5 :: c6 :: some (.int x) :: t) st M k = k (pc + 3) (c0 :: c1 :: c2 :: c3 :: c4 :: c5 :: c6 :: some (.int (x + Int32.ofInt off)) :: t) st M := by simp [ab_ds, ab_lo, ab_st, show ((3 : Fin 4) : Nat) = 3 from rfl]
theorem e_istore7i : ab_ds X P (.ok (.istore 7, 2)) pc (c0 :: c1 :: c2 :: c3 :: c4 :: c5 :: some (.int y) :: c7 :: t) (.int x :: st) M k = k (pc + 2) (c0 :: c1 :: c2 :: c3 :: c4 :: c5 :: some (.int y) :: some (.int x) :: t) st M := by simp [ab_ds, ab_lo, ab_st, ab_nl, show ((3 : Fin 4) : Nat) = 3 from rfl]
theorem e_istore7r : ab_ds X P (.ok (.istore 7, 2)) pc (c0 :: c1 :: c2 :: c3 :: c4 :: c5 :: some (.ref r) :: c7 :: t) (.int x :: st) M k = k (pc + 2) (c0 :: c1 :: c2 :: c3 :: c4 :: c5 :: some (.ref r) :: some (.int x) :: t) st M := by simp [ab_ds, ab_lo, ab_st, ab_nl, show ((3 : Fin 4) : Nat) = 3 from rfl]
theorem e_istore7n : ab_ds X P (.ok (.istore 7, 2)) pc (c0 :: c1 :: c2 :: c3 :: c4 :: c5 :: none :: c7 :: t) (.int x :: st) M k = k (pc + 2) (c0 :: c1 :: c2 :: c3 :: c4 :: c5 :: none :: some (.int x) :: t) st M := by simp [ab_ds, ab_lo, ab_st, ab_nl, show ((3 : Fin 4) : Nat) = 3 from rfl]
theorem e_iconst : ab_ds X P (.ok (.iconst off, 1)) pc lv st M k = k (pc + 1) lv (.int (Int32.ofInt off) :: st) M := by simp [ab_ds, ab_lo, ab_st, show ((3 : Fin 4) : Nat) = 3 from rfl]
theorem e_bipush : ab_ds X P (.ok (.bipush off, 2)) pc lv st M k = k (pc + 2) lv (.int (Int8.ofInt off).toInt32 :: st) M := by simp [ab_ds, ab_lo, ab_st, show ((3 : Fin 4) : Nat) = 3 from rfl]
theorem e_sipush : ab_ds X P (.ok (.sipush off, 3)) pc lv st M k = k (pc + 3) lv (.int (Int16.ofInt off).toInt32 :: st) M := by simp [ab_ds, ab_lo, ab_st, show ((3 : Fin 4) : Nat) = 3 from rfl]
theorem e_lconst0 : ab_ds X P (.ok (.lconst 0, 1)) pc lv st M k = k (pc + 1) lv (.long 0 :: st) M := by simp [ab_ds, ab_lo, ab_st] <;> rfl
theorem e_lconst1 : ab_ds X P (.ok (.lconst 1, 1)) pc lv st M k = k (pc + 1) lv (.long 1 :: st) M := by simp [ab_ds, ab_lo, ab_st] <;> rfl
theorem e_iadd : ab_ds X P (.ok (.iadd, 1)) pc lv (.int y :: .int x :: st) M k = k (pc + 1) lv (.int (x + y) :: st) M := by simp only [ab_ds, ab_lo, ab_st, true_and]
theorem e_isub : ab_ds X P (.ok (.isub, 1)) pc lv (.int y :: .int x :: st) M k = k (pc + 1) lv (.int (x - y) :: st) M := by simp only [ab_ds, ab_lo, ab_st, true_and]
theorem e_imul : ab_ds X P (.ok (.imul, 1)) pc lv (.int y :: .int x :: st) M k = k (pc + 1) lv (.int (x * y) :: st) M := by simp only [ab_ds, ab_lo, ab_st, true_and]
theorem e_iand : ab_ds X P (.ok (.iand, 1)) pc lv (.int y :: .int x :: st) M k = k (pc + 1) lv (.int (x &&& y) :: st) M := by simp only [ab_ds, ab_lo, ab_st, true_and]
theorem e_ior : ab_ds X P (.ok (.ior, 1)) pc lv (.int y :: .int x :: st) M k = k (pc + 1) lv (.int (x ||| y) :: st) M := by simp only [ab_ds, ab_lo, ab_st, true_and]
theorem e_ixor : ab_ds X P (.ok (.ixor, 1)) pc lv (.int y :: .int x :: st) M k = k (pc + 1) lv (.int (x ^^^ y) :: st) M := by simp only [ab_ds, ab_lo, ab_st, true_and]
theorem e_ishl : ab_ds X P (.ok (.ishl, 1)) pc lv (.int y :: .int x :: st) M k = k (pc + 1) lv (.int (x <<< (y &&& 31)) :: st) M := by simp only [ab_ds, ab_lo, ab_st, true_and]
theorem e_ishr : ab_ds X P (.ok (.ishr, 1)) pc lv (.int y :: .int x :: st) M k = k (pc + 1) lv (.int (x >>> (y &&& 31)) :: st) M := by simp only [ab_ds, ab_lo, ab_st, true_and]
theorem e_iushr : ab_ds X P (.ok (.iushr, 1)) pc lv (.int y :: .int x :: st) M k = k (pc + 1) lv (.int ((x.toUInt32 >>> (y.toUInt32 &&& Int32.toUInt32 31)).toInt32) :: st) M := by simp only [ab_ds, ab_lo, ab_st, true_and]
theorem e_idiv : ab_ds X P (.ok (.idiv, 1)) pc lv (.int y :: .int x :: st) M k = (¬ y = 0 ∧ k (pc + 1) lv (.int (x / y) :: st) M) := by simp only [ab_ds, ab_lo, ab_st, true_and]
theorem e_irem : ab_ds X P (.ok (.irem, 1)) pc lv (.int y :: .int x :: st) M k = (¬ y = 0 ∧ k (pc + 1) lv (.int (x - x / y * y) :: st) M) := by simp only [ab_ds, ab_lo, ab_st, true_and]
theorem e_ladd : ab_ds X P (.ok (.ladd, 1)) pc lv (.long v :: .long u :: st) M k = k (pc + 1) lv (.long (u + v) :: st) M := by simp only [ab_ds, ab_lo, ab_st, true_and]
theorem e_lsub : ab_ds X P (.ok (.lsub, 1)) pc lv (.long v :: .long u :: st) M k = k (pc + 1) lv (.long (u - v) :: st) M := by simp only [ab_ds, ab_lo, ab_st, true_and]
theorem e_lmul : ab_ds X P (.ok (.lmul, 1)) pc lv (.long v :: .long u :: st) M k = k (pc + 1) lv (.long (u * v) :: st) M := by simp only [ab_ds, ab_lo, ab_st, true_and]
theorem e_land : ab_ds X P (.ok (.land, 1)) pc lv (.long v :: .long u :: st) M k = k (pc + 1) lv (.long (u &&& v) :: st) M := by simp only [ab_ds, ab_lo, ab_st, true_and]
theorem e_lor : ab_ds X P (.ok (.lor, 1)) pc lv (.long v :: .long u :: st) M k = k (pc + 1) lv (.long (u ||| v) :: st) M := by simp only [ab_ds, ab_lo, ab_st, true_and]
theorem e_ldiv : ab_ds X P (.ok (.ldiv, 1)) pc lv (.long v :: .long u :: st) M k = (¬ v = 0 ∧ k (pc + 1) lv (.long (u / v) :: st) M) := by simp only [ab_ds, ab_lo, ab_st, true_and]
theorem e_lrem : ab_ds X P (.ok (.lrem, 1)) pc lv (.long v :: .long u :: st) M k = (¬ v = 0 ∧ k (pc + 1) lv (.long (u - u / v * v) :: st) M) := by simp only [ab_ds, ab_lo, ab_st, true_and]
theorem e_lcmp : ab_ds X P (.ok (.lcmp, 1)) pc lv (.long v :: .long u :: st) M k = k (pc + 1) lv (.int (lg_cmp u v) :: st) M := by simp only [ab_ds, ab_lo, ab_st, true_and]
theorem e_lshl : ab_ds X P (.ok (.lshl, 1)) pc lv (.int y :: .long u :: st) M k = k (pc + 1) lv (.long (u <<< (y.toInt64 &&& 63)) :: st) M := by simp only [ab_ds, ab_lo, ab_st, true_and]
theorem e_lushr : ab_ds X P (.ok (.lushr, 1)) pc lv (.int y :: .long u :: st) M k = k (pc + 1) lv (.long (u.toUInt64 >>> (y.toInt64.toUInt64 &&& Int64.toUInt64 63)).toInt64 :: st) M := by simp only [ab_ds, ab_lo, ab_st, true_and]
theorem e_ineg : ab_ds X P (.ok (.ineg, 1)) pc lv (.int x :: st) M k = k (pc + 1) lv (.int (-x) :: st) M := by simp only [ab_ds, ab_lo, ab_st, true_and]
theorem e_i2l : ab_ds X P (.ok (.i2l, 1)) pc lv (.int x :: st) M k = k (pc + 1) lv (.long x.toInt64 :: st) M := by simp only [ab_ds, ab_lo, ab_st, true_and]
theorem e_l2i : ab_ds X P (.ok (.l2i, 1)) pc lv (.long u :: st) M k = k (pc + 1) lv (.int u.toInt32 :: st) M := by simp only [ab_ds, ab_lo, ab_st, true_and]
theorem e_dupi : ab_ds X P (.ok (.dup, 1)) pc lv (.int x :: st) M k = k (pc + 1) lv (.int x :: .int x :: st) M := by simp only [ab_ds, ab_lo, ab_st, true_and]
theorem e_dupr : ab_ds X P (.ok (.dup, 1)) pc lv (.ref q :: st) M k = k (pc + 1) lv (.ref q :: .ref q :: st) M := by simp only [ab_ds, ab_lo, ab_st, true_and]
theorem e_pop : ab_ds X P (.ok (.pop, 1)) pc lv (.int x :: st) M k = k (pc + 1) lv st M := by simp only [ab_ds, ab_lo, ab_st, true_and]
theorem e_dup2 : ab_ds X P (.ok (.dup2, 1)) pc lv (.int x :: .ref q :: st) M k = k (pc + 1) lv (.int x :: .ref q :: .int x :: .ref q :: st) M := by simp only [ab_ds, ab_lo, ab_st, true_and]
theorem e_goto : ab_ds X P (.ok (.goto off, 3)) pc lv st M k = (0 ≤ (pc : Int) + off ∧ k ((pc : Int) + off).toNat lv st M) := by simp only [ab_ds, ab_lo, ab_st, true_and, ab_j]
theorem e_if_eq : ab_ds X P (.ok (.ifCond .eq off, 3)) pc lv (.int x :: st) M k = (0 ≤ (pc : Int) + off ∧ if x = 0 then k ((pc : Int) + off).toNat lv st M else k (pc + 3) lv st M) := by simp only [ab_ds, ab_lo, ab_st, true_and]
theorem e_if_ne : ab_ds X P (.ok (.ifCond .ne off, 3)) pc lv (.int x :: st) M k = (0 ≤ (pc : Int) + off ∧ if x = 0 then k (pc + 3) lv st M else k ((pc : Int) + off).toNat lv st M) := by simp only [ab_ds, ab_lo, ab_st, true_and]
theorem e_if_lt : ab_ds X P (.ok (.ifCond .lt off, 3)) pc lv (.int x :: st) M k = (0 ≤ (pc : Int) + off ∧ if x < 0 then k ((pc : Int) + off).toNat lv st M else k (pc + 3) lv st M) := by simp only [ab_ds, ab_lo, ab_st, true_and]
theorem e_if_ge : ab_ds X P (.ok (.ifCond .ge off, 3)) pc lv (.int x :: st) M k = (0 ≤ (pc : Int) + off ∧ if x < 0 then k (pc + 3) lv st M else k ((pc : Int) + off).toNat lv st M) := by simp only [ab_ds, ab_lo, ab_st, true_and]
theorem e_if_gt : ab_ds X P (.ok (.ifCond .gt off, 3)) pc lv (.int x :: st) M k = (0 ≤ (pc : Int) + off ∧ if 0 < x then k ((pc : Int) + off).toNat lv st M else k (pc + 3) lv st M) := by simp only [ab_ds, ab_lo, ab_st, true_and]
theorem e_if_le : ab_ds X P (.ok (.ifCond .le off, 3)) pc lv (.int x :: st) M k = (0 ≤ (pc : Int) + off ∧ if 0 < x then k (pc + 3) lv st M else k ((pc : Int) + off).toNat lv st M) := by simp only [ab_ds, ab_lo, ab_st, true_and]
theorem e_icmp_eq : ab_ds X P (.ok (.if_icmp .eq off, 3)) pc lv (.int y :: .int x :: st) M k = (0 ≤ (pc : Int) + off ∧ if x = y then k ((pc : Int) + off).toNat lv st M else k (pc + 3) lv st M) := by simp only [ab_ds, ab_lo, ab_st, true_and]
theorem e_icmp_ne : ab_ds X P (.ok (.if_icmp .ne off, 3)) pc lv (.int y :: .int x :: st) M k = (0 ≤ (pc : Int) + off ∧ if x = y then k (pc + 3) lv st M else k ((pc : Int) + off).toNat lv st M) := by simp only [ab_ds, ab_lo, ab_st, true_and]
theorem e_icmp_lt : ab_ds X P (.ok (.if_icmp .lt off, 3)) pc lv (.int y :: .int x :: st) M k = (0 ≤ (pc : Int) + off ∧ if x < y then k ((pc : Int) + off).toNat lv st M else k (pc + 3) lv st M) := by simp only [ab_ds, ab_lo, ab_st, true_and]
theorem e_icmp_ge : ab_ds X P (.ok (.if_icmp .ge off, 3)) pc lv (.int y :: .int x :: st) M k = (0 ≤ (pc : Int) + off ∧ if x < y then k (pc + 3) lv st M else k ((pc : Int) + off).toNat lv st M) := by simp only [ab_ds, ab_lo, ab_st, true_and]
theorem e_icmp_gt : ab_ds X P (.ok (.if_icmp .gt off, 3)) pc lv (.int y :: .int x :: st) M k = (0 ≤ (pc : Int) + off ∧ if y < x then k ((pc : Int) + off).toNat lv st M else k (pc + 3) lv st M) := by simp only [ab_ds, ab_lo, ab_st, true_and]
theorem e_icmp_le : ab_ds X P (.ok (.if_icmp .le off, 3)) pc lv (.int y :: .int x :: st) M k = (0 ≤ (pc : Int) + off ∧ if y < x then k (pc + 3) lv st M else k ((pc : Int) + off).toNat lv st M) := by simp only [ab_ds, ab_lo, ab_st, true_and]
theorem e_tsw {d lo hi : Int} {offs : Array Int} {len : Nat} : ab_ds X P (.ok (.tableswitch d lo hi offs, len)) pc lv (.int x :: st) M k = ((offs.size : Int) = hi - lo + 1 ∧ ab_tsw pc x (fun t => k t lv st M) d lo offs.toList) := by simp only [ab_ds, ab_lo, ab_st, true_and]
theorem e_iaload : ab_ds X P (.ok (.iaload, 1)) pc lv (.int x :: .ref q :: st) M k = ab_ia X M q x (fun v => k (pc + 1) lv (v :: st) M) := by simp only [ab_ds, ab_lo, ab_st, true_and]
theorem e_laload : ab_ds X P (.ok (.laload, 1)) pc lv (.int x :: .ref q :: st) M k = ab_la X M q x (fun v => k (pc + 1) lv (v :: st) M) := by simp only [ab_ds, ab_lo, ab_st, true_and]
theorem e_baload : ab_ds X P (.ok (.baload, 1)) pc lv (.int x :: .ref q :: st) M k = ab_za M q x (fun v => k (pc + 1) lv (v :: st) M) := by simp only [ab_ds, ab_lo, ab_st, true_and]
theorem e_iastore : ab_ds X P (.ok (.iastore, 1)) pc lv (.int y :: .int x :: .ref q :: st) M k = ab_is M q x y (fun M => k (pc + 1) lv st M) := by simp only [ab_ds, ab_lo, ab_st, true_and]
theorem e_bastore : ab_ds X P (.ok (.bastore, 1)) pc lv (.int y :: .int x :: .ref q :: st) M k = ab_zs M q x y (fun M => k (pc + 1) lv st M) := by simp only [ab_ds, ab_lo, ab_st, true_and]
theorem e_lastore : ab_ds X P (.ok (.lastore, 1)) pc lv (.long u :: .int x :: .ref q :: st) M k = ab_ls M q x u (fun M => k (pc + 1) lv st M) := by simp only [ab_ds, ab_lo, ab_st, true_and]
theorem e_alen : ab_ds X P (.ok (.arraylength, 1)) pc lv (.ref q :: st) M k = ab_len X q (fun n => k (pc + 1) lv (.int n :: st) M) := by simp only [ab_ds, ab_lo, ab_st, true_and]
theorem e_getfield : ab_ds X P (.ok (.getfield r, 3)) pc lv (.ref q :: st) M k = ab_gf X r q M (fun v => k (pc + 3) lv (v :: st) M) := by simp only [ab_ds, ab_lo, ab_st, true_and]
theorem e_putfield {w : Value} : ab_ds X P (.ok (.putfield r, 3)) pc lv (w :: .ref q :: st) M k = ab_pf X r q w M (fun M => k (pc + 3) lv st M) := by simp only [ab_ds, ab_lo, ab_st, true_and]
theorem e_callv : ab_ds X P (.ok (.invokevirtual r, 3)) pc lv st M k = ab_ca X (2 * r) st M (fun st M => k (pc + 3) lv st M) := by simp only [ab_ds, ab_lo, ab_st, true_and]
theorem e_calls : ab_ds X P (.ok (.invokestatic r, 3)) pc lv st M k = ab_ca X (2 * r + 1) st M (fun st M => k (pc + 3) lv st M) := by simp only [ab_ds, ab_lo, ab_st, true_and]
theorem e_ireturn : ab_ds X P (.ok (.ireturn, 1)) pc lv [.int x] M k = (ab_rn X.1 x ∧ P (some (.int x)) M) := by simp only [ab_ds, ab_lo, ab_st, true_and]
theorem e_lreturn : ab_ds X P (.ok (.lreturn, 1)) pc lv [.long u] M k = (X.1 = some .long ∧ P (some (.long u)) M) := by simp only [ab_ds, ab_lo, ab_st, true_and]
theorem e_return : ab_ds X P (.ok (.return_, 1)) pc lv [] M k = (X.1 = none ∧ P none M) := by simp only [ab_ds, ab_lo, ab_st, true_and]
theorem el_2 {f : Int32 → Prop} : ab_len X 2 f = f 48 := rfl
theorem ea_2 {f : Value → Prop} : ab_ia X M 2 x f = ((0 ≤ x ∧ x < 48) ∧ f (.int (M.1 2 x.toNatClampNeg))) := by simp only [ab_ia, show ab_al 2 = some (.int, 48) from rfl, true_and] <;> rfl
theorem es_2 {f : ab_M → Prop} : ab_is M 2 x y f = ((0 ≤ x ∧ x < 48) ∧ f (ab_si M 2 x.toNatClampNeg y)) := by simp only [ab_is, show ab_al 2 = some (.int, 48) from rfl, true_and] <;> rfl
theorem el_4 {f : Int32 → Prop} : ab_len X 4 f = f 8 := rfl
theorem ea_4 {f : Value → Prop} : ab_ia X M 4 x f = ((0 ≤ x ∧ x < 8) ∧ f (.int (M.1 4 x.toNatClampNeg))) := by simp only [ab_ia, show ab_al 4 = some (.int, 8) from rfl, true_and] <;> rfl
theorem es_4 {f : ab_M → Prop} : ab_is M 4 x y f = ((0 ≤ x ∧ x < 8) ∧ f (ab_si M 4 x.toNatClampNeg y)) := by simp only [ab_is, show ab_al 4 = some (.int, 8) from rfl, true_and] <;> rfl
theorem el_5 {f : Int32 → Prop} : ab_len X 5 f = f 8 := rfl
theorem ea_5 {f : Value → Prop} : ab_ia X M 5 x f = ((0 ≤ x ∧ x < 8) ∧ f (.int (M.1 5 x.toNatClampNeg))) := by simp only [ab_ia, show ab_al 5 = some (.int, 8) from rfl, true_and] <;> rfl
theorem es_5 {f : ab_M → Prop} : ab_is M 5 x y f = ((0 ≤ x ∧ x < 8) ∧ f (ab_si M 5 x.toNatClampNeg y)) := by simp only [ab_is, show ab_al 5 = some (.int, 8) from rfl, true_and] <;> rfl
theorem el_6 {f : Int32 → Prop} : ab_len X 6 f = f 8 := rfl
theorem ea_6 {f : Value → Prop} : ab_ia X M 6 x f = ((0 ≤ x ∧ x < 8) ∧ f (.int (M.1 6 x.toNatClampNeg))) := by simp only [ab_ia, show ab_al 6 = some (.int, 8) from rfl, true_and] <;> rfl
theorem es_6 {f : ab_M → Prop} : ab_is M 6 x y f = ((0 ≤ x ∧ x < 8) ∧ f (ab_si M 6 x.toNatClampNeg y)) := by simp only [ab_is, show ab_al 6 = some (.int, 8) from rfl, true_and] <;> rfl
theorem el_7 {f : Int32 → Prop} : ab_len X 7 f = f 72 := rfl
theorem ea_7 {f : Value → Prop} : ab_ia X M 7 x f = ((0 ≤ x ∧ x < 72) ∧ f (.int (M.1 7 x.toNatClampNeg))) := by simp only [ab_ia, show ab_al 7 = some (.int, 72) from rfl, true_and] <;> rfl
theorem es_7 {f : ab_M → Prop} : ab_is M 7 x y f = ((0 ≤ x ∧ x < 72) ∧ f (ab_si M 7 x.toNatClampNeg y)) := by simp only [ab_is, show ab_al 7 = some (.int, 72) from rfl, true_and] <;> rfl
theorem el_9 {f : Int32 → Prop} : ab_len X 9 f = f 5 := rfl
theorem ea_9 {f : Value → Prop} : ab_ia X M 9 x f = ((0 ≤ x ∧ x < 5) ∧ f (.int (M.1 9 x.toNatClampNeg))) := by simp only [ab_ia, show ab_al 9 = some (.int, 5) from rfl, true_and] <;> rfl
theorem es_9 {f : ab_M → Prop} : ab_is M 9 x y f = ((0 ≤ x ∧ x < 5) ∧ f (ab_si M 9 x.toNatClampNeg y)) := by simp only [ab_is, show ab_al 9 = some (.int, 5) from rfl, true_and] <;> rfl
theorem el_10 {f : Int32 → Prop} : ab_len X 10 f = f 5 := rfl
theorem ea_10 {f : Value → Prop} : ab_ia X M 10 x f = ((0 ≤ x ∧ x < 5) ∧ f (.int (M.1 10 x.toNatClampNeg))) := by simp only [ab_ia, show ab_al 10 = some (.int, 5) from rfl, true_and] <;> rfl
theorem es_10 {f : ab_M → Prop} : ab_is M 10 x y f = ((0 ≤ x ∧ x < 5) ∧ f (ab_si M 10 x.toNatClampNeg y)) := by simp only [ab_is, show ab_al 10 = some (.int, 5) from rfl, true_and] <;> rfl
theorem el_11 {f : Int32 → Prop} : ab_len X 11 f = f 5 := rfl
theorem ea_11 {f : Value → Prop} : ab_ia X M 11 x f = ((0 ≤ x ∧ x < 5) ∧ f (.int (M.1 11 x.toNatClampNeg))) := by simp only [ab_ia, show ab_al 11 = some (.int, 5) from rfl, true_and] <;> rfl
theorem es_11 {f : ab_M → Prop} : ab_is M 11 x y f = ((0 ≤ x ∧ x < 5) ∧ f (ab_si M 11 x.toNatClampNeg y)) := by simp only [ab_is, show ab_al 11 = some (.int, 5) from rfl, true_and] <;> rfl
theorem el_13 {f : Int32 → Prop} : ab_len X 13 f = f 5 := rfl
theorem ea_13 {f : Value → Prop} : ab_ia X M 13 x f = ((0 ≤ x ∧ x < 5) ∧ f (.int (M.1 13 x.toNatClampNeg))) := by simp only [ab_ia, show ab_al 13 = some (.int, 5) from rfl, true_and] <;> rfl
theorem es_13 {f : ab_M → Prop} : ab_is M 13 x y f = ((0 ≤ x ∧ x < 5) ∧ f (ab_si M 13 x.toNatClampNeg y)) := by simp only [ab_is, show ab_al 13 = some (.int, 5) from rfl, true_and] <;> rfl
theorem el_15 {f : Int32 → Prop} : ab_len X 15 f = f 14 := rfl
theorem ea_15 {f : Value → Prop} : ab_la X M 15 x f = ((0 ≤ x ∧ x < 14) ∧ f (.long (M.2 15 x.toNatClampNeg))) := by simp only [ab_la, show ab_al 15 = some (.long, 14) from rfl, true_and] <;> rfl
theorem es_15 {f : ab_M → Prop} : ab_ls M 15 x u f = ((0 ≤ x ∧ x < 14) ∧ f (ab_sl M 15 x.toNatClampNeg u)) := by simp only [ab_ls, show ab_al 15 = some (.long, 14) from rfl, true_and] <;> rfl
theorem el_17 {f : Int32 → Prop} : ab_len X 17 f = f 4 := rfl
theorem ea_17 {f : Value → Prop} : ab_ia X M 17 x f = ((0 ≤ x ∧ x < 4) ∧ f (.int (M.1 17 x.toNatClampNeg))) := by simp only [ab_ia, show ab_al 17 = some (.int, 4) from rfl, true_and] <;> rfl
theorem es_17 {f : ab_M → Prop} : ab_is M 17 x y f = ((0 ≤ x ∧ x < 4) ∧ f (ab_si M 17 x.toNatClampNeg y)) := by simp only [ab_is, show ab_al 17 = some (.int, 4) from rfl, true_and] <;> rfl
theorem el_19 {f : Int32 → Prop} : ab_len X 19 f = f 5 := rfl
theorem ea_19 {f : Value → Prop} : ab_ia X M 19 x f = ((0 ≤ x ∧ x < 5) ∧ f (.int (M.1 19 x.toNatClampNeg))) := by simp only [ab_ia, show ab_al 19 = some (.int, 5) from rfl, true_and] <;> rfl
theorem es_19 {f : ab_M → Prop} : ab_is M 19 x y f = ((0 ≤ x ∧ x < 5) ∧ f (ab_si M 19 x.toNatClampNeg y)) := by simp only [ab_is, show ab_al 19 = some (.int, 5) from rfl, true_and] <;> rfl
theorem el_21 {f : Int32 → Prop} : ab_len X 21 f = f 4 := rfl
theorem ea_21 {f : Value → Prop} : ab_ia X M 21 x f = ((0 ≤ x ∧ x < 4) ∧ f (.int (M.1 21 x.toNatClampNeg))) := by simp only [ab_ia, show ab_al 21 = some (.int, 4) from rfl, true_and] <;> rfl
theorem es_21 {f : ab_M → Prop} : ab_is M 21 x y f = ((0 ≤ x ∧ x < 4) ∧ f (ab_si M 21 x.toNatClampNeg y)) := by simp only [ab_is, show ab_al 21 = some (.int, 4) from rfl, true_and] <;> rfl
theorem el_22 {f : Int32 → Prop} : ab_len X 22 f = f 4 := rfl
theorem ea_22 {f : Value → Prop} : ab_ia X M 22 x f = ((0 ≤ x ∧ x < 4) ∧ f (.int (M.1 22 x.toNatClampNeg))) := by simp only [ab_ia, show ab_al 22 = some (.int, 4) from rfl, true_and] <;> rfl
theorem es_22 {f : ab_M → Prop} : ab_is M 22 x y f = ((0 ≤ x ∧ x < 4) ∧ f (ab_si M 22 x.toNatClampNeg y)) := by simp only [ab_is, show ab_al 22 = some (.int, 4) from rfl, true_and] <;> rfl
theorem el_24 {f : Int32 → Prop} : ab_len X 24 f = f 5 := rfl
theorem ea_24 {f : Value → Prop} : ab_ia X M 24 x f = ((0 ≤ x ∧ x < 5) ∧ f (.int (M.1 24 x.toNatClampNeg))) := by simp only [ab_ia, show ab_al 24 = some (.int, 5) from rfl, true_and] <;> rfl
theorem es_24 {f : ab_M → Prop} : ab_is M 24 x y f = ((0 ≤ x ∧ x < 5) ∧ f (ab_si M 24 x.toNatClampNeg y)) := by simp only [ab_is, show ab_al 24 = some (.int, 5) from rfl, true_and] <;> rfl
theorem el_26 {f : Int32 → Prop} : ab_len X 26 f = f 6 := rfl
theorem ea_26 {f : Value → Prop} : ab_ia X M 26 x f = ((0 ≤ x ∧ x < 6) ∧ f (.int (M.1 26 x.toNatClampNeg))) := by simp only [ab_ia, show ab_al 26 = some (.int, 6) from rfl, true_and] <;> rfl
theorem es_26 {f : ab_M → Prop} : ab_is M 26 x y f = ((0 ≤ x ∧ x < 6) ∧ f (ab_si M 26 x.toNatClampNeg y)) := by simp only [ab_is, show ab_al 26 = some (.int, 6) from rfl, true_and] <;> rfl
theorem el_27 {f : Int32 → Prop} : ab_len X 27 f = f 6 := rfl
theorem ea_27 {f : Value → Prop} : ab_ia X M 27 x f = ((0 ≤ x ∧ x < 6) ∧ f (.int (M.1 27 x.toNatClampNeg))) := by simp only [ab_ia, show ab_al 27 = some (.int, 6) from rfl, true_and] <;> rfl
theorem es_27 {f : ab_M → Prop} : ab_is M 27 x y f = ((0 ≤ x ∧ x < 6) ∧ f (ab_si M 27 x.toNatClampNeg y)) := by simp only [ab_is, show ab_al 27 = some (.int, 6) from rfl, true_and] <;> rfl
theorem el_28 {f : Int32 → Prop} : ab_len X 28 f = f 6 := rfl
theorem ea_28 {f : Value → Prop} : ab_za M 28 x f = ((0 ≤ x ∧ x < 6) ∧ f (.int (M.1 28 x.toNatClampNeg))) := by simp only [ab_za, show ab_al 28 = some (.boolean, 6) from rfl, true_and] <;> rfl
theorem es_28 {f : ab_M → Prop} : ab_zs M 28 x y f = ((0 ≤ x ∧ x < 6) ∧ f (ab_si M 28 x.toNatClampNeg (vp_nar .boolean y))) := by simp only [ab_zs, show ab_al 28 = some (.boolean, 6) from rfl, true_and] <;> rfl
theorem el_29 {f : Int32 → Prop} : ab_len X 29 f = f 2 := rfl
theorem ea_29 {f : Value → Prop} : ab_la X M 29 x f = ((0 ≤ x ∧ x < 2) ∧ f (.long (M.2 29 x.toNatClampNeg))) := by simp only [ab_la, show ab_al 29 = some (.long, 2) from rfl, true_and] <;> rfl
theorem es_29 {f : ab_M → Prop} : ab_ls M 29 x u f = ((0 ≤ x ∧ x < 2) ∧ f (ab_sl M 29 x.toNatClampNeg u)) := by simp only [ab_ls, show ab_al 29 = some (.long, 2) from rfl, true_and] <;> rfl
theorem el_31 {f : Int32 → Prop} : ab_len X 31 f = f 48 := rfl
theorem ea_31 {f : Value → Prop} : ab_ia X M 31 x f = ((0 ≤ x ∧ x < 48) ∧ f (.int (M.1 31 x.toNatClampNeg))) := by simp only [ab_ia, show ab_al 31 = some (.int, 48) from rfl, true_and] <;> rfl
theorem es_31 {f : ab_M → Prop} : ab_is M 31 x y f = ((0 ≤ x ∧ x < 48) ∧ f (ab_si M 31 x.toNatClampNeg y)) := by simp only [ab_is, show ab_al 31 = some (.int, 48) from rfl, true_and] <;> rfl
theorem el_32 {f : Int32 → Prop} : ab_len X 32 f = f 8 := rfl
theorem ea_32 {f : Value → Prop} : ab_ia X M 32 x f = ((0 ≤ x ∧ x < 8) ∧ f (.int (M.1 32 x.toNatClampNeg))) := by simp only [ab_ia, show ab_al 32 = some (.int, 8) from rfl, true_and] <;> rfl
theorem es_32 {f : ab_M → Prop} : ab_is M 32 x y f = ((0 ≤ x ∧ x < 8) ∧ f (ab_si M 32 x.toNatClampNeg y)) := by simp only [ab_is, show ab_al 32 = some (.int, 8) from rfl, true_and] <;> rfl
theorem el_33 {f : Int32 → Prop} : ab_len X 33 f = f 8 := rfl
theorem ea_33 {f : Value → Prop} : ab_ia X M 33 x f = ((0 ≤ x ∧ x < 8) ∧ f (.int (M.1 33 x.toNatClampNeg))) := by simp only [ab_ia, show ab_al 33 = some (.int, 8) from rfl, true_and] <;> rfl
theorem es_33 {f : ab_M → Prop} : ab_is M 33 x y f = ((0 ≤ x ∧ x < 8) ∧ f (ab_si M 33 x.toNatClampNeg y)) := by simp only [ab_is, show ab_al 33 = some (.int, 8) from rfl, true_and] <;> rfl
theorem el_34 {f : Int32 → Prop} : ab_len X 34 f = f 5 := rfl
theorem ea_34 {f : Value → Prop} : ab_ia X M 34 x f = ((0 ≤ x ∧ x < 5) ∧ f (.int (M.1 34 x.toNatClampNeg))) := by simp only [ab_ia, show ab_al 34 = some (.int, 5) from rfl, true_and] <;> rfl
theorem es_34 {f : ab_M → Prop} : ab_is M 34 x y f = ((0 ≤ x ∧ x < 5) ∧ f (ab_si M 34 x.toNatClampNeg y)) := by simp only [ab_is, show ab_al 34 = some (.int, 5) from rfl, true_and] <;> rfl
theorem el_35 {f : Int32 → Prop} : ab_len X 35 f = f 5 := rfl
theorem ea_35 {f : Value → Prop} : ab_ia X M 35 x f = ((0 ≤ x ∧ x < 5) ∧ f (.int (M.1 35 x.toNatClampNeg))) := by simp only [ab_ia, show ab_al 35 = some (.int, 5) from rfl, true_and] <;> rfl
theorem es_35 {f : ab_M → Prop} : ab_is M 35 x y f = ((0 ≤ x ∧ x < 5) ∧ f (ab_si M 35 x.toNatClampNeg y)) := by simp only [ab_is, show ab_al 35 = some (.int, 5) from rfl, true_and] <;> rfl
theorem el_36 {f : Int32 → Prop} : ab_len X 36 f = f 16 := rfl
theorem ea_36 {f : Value → Prop} : ab_ia X M 36 x f = ((0 ≤ x ∧ x < 16) ∧ f (.int (M.1 36 x.toNatClampNeg))) := by simp only [ab_ia, show ab_al 36 = some (.int, 16) from rfl, true_and] <;> rfl
theorem es_36 {f : ab_M → Prop} : ab_is M 36 x y f = ((0 ≤ x ∧ x < 16) ∧ f (ab_si M 36 x.toNatClampNeg y)) := by simp only [ab_is, show ab_al 36 = some (.int, 16) from rfl, true_and] <;> rfl
theorem el_37 {f : Int32 → Prop} : ab_len X 37 f = f 15 := rfl
theorem ea_37 {f : Value → Prop} : ab_ia X M 37 x f = ((0 ≤ x ∧ x < 15) ∧ f (.int (M.1 37 x.toNatClampNeg))) := by simp only [ab_ia, show ab_al 37 = some (.int, 15) from rfl, true_and] <;> rfl
theorem es_37 {f : ab_M → Prop} : ab_is M 37 x y f = ((0 ≤ x ∧ x < 15) ∧ f (ab_si M 37 x.toNatClampNeg y)) := by simp only [ab_is, show ab_al 37 = some (.int, 15) from rfl, true_and] <;> rfl
theorem el_38 {f : Int32 → Prop} : ab_len X 38 f = f 7 := rfl
theorem ea_38 {f : Value → Prop} : ab_ia X M 38 x f = ((0 ≤ x ∧ x < 7) ∧ f (.int (M.1 38 x.toNatClampNeg))) := by simp only [ab_ia, show ab_al 38 = some (.int, 7) from rfl, true_and] <;> rfl
theorem es_38 {f : ab_M → Prop} : ab_is M 38 x y f = ((0 ≤ x ∧ x < 7) ∧ f (ab_si M 38 x.toNatClampNeg y)) := by simp only [ab_is, show ab_al 38 = some (.int, 7) from rfl, true_and] <;> rfl
theorem el_39 {f : Int32 → Prop} : ab_len X 39 f = f 7 := rfl
theorem ea_39 {f : Value → Prop} : ab_ia X M 39 x f = ((0 ≤ x ∧ x < 7) ∧ f (.int (M.1 39 x.toNatClampNeg))) := by simp only [ab_ia, show ab_al 39 = some (.int, 7) from rfl, true_and] <;> rfl
theorem es_39 {f : ab_M → Prop} : ab_is M 39 x y f = ((0 ≤ x ∧ x < 7) ∧ f (ab_si M 39 x.toNatClampNeg y)) := by simp only [ab_is, show ab_al 39 = some (.int, 7) from rfl, true_and] <;> rfl
theorem el_40 {f : Int32 → Prop} : ab_len X 40 f = f 7 := rfl
theorem ea_40 {f : Value → Prop} : ab_ia X M 40 x f = ((0 ≤ x ∧ x < 7) ∧ f (.int (M.1 40 x.toNatClampNeg))) := by simp only [ab_ia, show ab_al 40 = some (.int, 7) from rfl, true_and] <;> rfl
theorem es_40 {f : ab_M → Prop} : ab_is M 40 x y f = ((0 ≤ x ∧ x < 7) ∧ f (ab_si M 40 x.toNatClampNeg y)) := by simp only [ab_is, show ab_al 40 = some (.int, 7) from rfl, true_and] <;> rfl
theorem el_41 {f : Int32 → Prop} : ab_len X 41 f = f 98 := rfl
theorem ea_41 {f : Value → Prop} : ab_ia X M 41 x f = ((0 ≤ x ∧ x < 98) ∧ f (.int (M.1 41 x.toNatClampNeg))) := by simp only [ab_ia, show ab_al 41 = some (.int, 98) from rfl, true_and] <;> rfl
theorem es_41 {f : ab_M → Prop} : ab_is M 41 x y f = ((0 ≤ x ∧ x < 98) ∧ f (ab_si M 41 x.toNatClampNeg y)) := by simp only [ab_is, show ab_al 41 = some (.int, 98) from rfl, true_and] <;> rfl
theorem el_42 {f : Int32 → Prop} : ab_len X 42 f = f 14 := rfl
theorem ea_42 {f : Value → Prop} : ab_ia X M 42 x f = ((0 ≤ x ∧ x < 14) ∧ f (.int (M.1 42 x.toNatClampNeg))) := by simp only [ab_ia, show ab_al 42 = some (.int, 14) from rfl, true_and] <;> rfl
theorem es_42 {f : ab_M → Prop} : ab_is M 42 x y f = ((0 ≤ x ∧ x < 14) ∧ f (ab_si M 42 x.toNatClampNeg y)) := by simp only [ab_is, show ab_al 42 = some (.int, 14) from rfl, true_and] <;> rfl
theorem el_43 {f : Int32 → Prop} : ab_len X 43 f = f 2 := rfl
theorem ea_43 {f : Value → Prop} : ab_za M 43 x f = ((0 ≤ x ∧ x < 2) ∧ f (.int (M.1 43 x.toNatClampNeg))) := by simp only [ab_za, show ab_al 43 = some (.boolean, 2) from rfl, true_and] <;> rfl
theorem es_43 {f : ab_M → Prop} : ab_zs M 43 x y f = ((0 ≤ x ∧ x < 2) ∧ f (ab_si M 43 x.toNatClampNeg (vp_nar .boolean y))) := by simp only [ab_zs, show ab_al 43 = some (.boolean, 2) from rfl, true_and] <;> rfl
theorem el_44 {f : Int32 → Prop} : ab_len X 44 f = f 6 := rfl
theorem ea_44 {f : Value → Prop} : ab_ia X M 44 x f = ((0 ≤ x ∧ x < 6) ∧ f (.int (M.1 44 x.toNatClampNeg))) := by simp only [ab_ia, show ab_al 44 = some (.int, 6) from rfl, true_and] <;> rfl
theorem es_44 {f : ab_M → Prop} : ab_is M 44 x y f = ((0 ≤ x ∧ x < 6) ∧ f (ab_si M 44 x.toNatClampNeg y)) := by simp only [ab_is, show ab_al 44 = some (.int, 6) from rfl, true_and] <;> rfl
theorem el_45 {f : Int32 → Prop} : ab_len X 45 f = f 6 := rfl
theorem ea_45 {f : Value → Prop} : ab_ia X M 45 x f = ((0 ≤ x ∧ x < 6) ∧ f (.int (M.1 45 x.toNatClampNeg))) := by simp only [ab_ia, show ab_al 45 = some (.int, 6) from rfl, true_and] <;> rfl
theorem es_45 {f : ab_M → Prop} : ab_is M 45 x y f = ((0 ≤ x ∧ x < 6) ∧ f (ab_si M 45 x.toNatClampNeg y)) := by simp only [ab_is, show ab_al 45 = some (.int, 6) from rfl, true_and] <;> rfl
theorem el_46 {f : Int32 → Prop} : ab_len X 46 f = f 6 := rfl
theorem ea_46 {f : Value → Prop} : ab_ia X M 46 x f = ((0 ≤ x ∧ x < 6) ∧ f (.int (M.1 46 x.toNatClampNeg))) := by simp only [ab_ia, show ab_al 46 = some (.int, 6) from rfl, true_and] <;> rfl
theorem es_46 {f : ab_M → Prop} : ab_is M 46 x y f = ((0 ≤ x ∧ x < 6) ∧ f (ab_si M 46 x.toNatClampNeg y)) := by simp only [ab_is, show ab_al 46 = some (.int, 6) from rfl, true_and] <;> rfl
theorem el_47 {f : Int32 → Prop} : ab_len X 47 f = f 8 := rfl
theorem ea_47 {f : Value → Prop} : ab_ia X M 47 x f = ((0 ≤ x ∧ x < 8) ∧ f (.int (M.1 47 x.toNatClampNeg))) := by simp only [ab_ia, show ab_al 47 = some (.int, 8) from rfl, true_and] <;> rfl
theorem es_47 {f : ab_M → Prop} : ab_is M 47 x y f = ((0 ≤ x ∧ x < 8) ∧ f (ab_si M 47 x.toNatClampNeg y)) := by simp only [ab_is, show ab_al 47 = some (.int, 8) from rfl, true_and] <;> rfl
theorem el_48 {f : Int32 → Prop} : ab_len X 48 f = f 32 := rfl
theorem ea_48 {f : Value → Prop} : ab_ia X M 48 x f = ((0 ≤ x ∧ x < 32) ∧ f (.int (M.1 48 x.toNatClampNeg))) := by simp only [ab_ia, show ab_al 48 = some (.int, 32) from rfl, true_and] <;> rfl
theorem es_48 {f : ab_M → Prop} : ab_is M 48 x y f = ((0 ≤ x ∧ x < 32) ∧ f (ab_si M 48 x.toNatClampNeg y)) := by simp only [ab_is, show ab_al 48 = some (.int, 32) from rfl, true_and] <;> rfl
variable {a : Option FieldType} {b : List (Nat × Nat × Nat)} {c : List (Nat × Nat × ab_Sem)} {d : List (Nat × Int64)} {g : List (Nat × Nat)}
theorem el_100 {f : Int32 → Prop} : ab_len (a, b, c, d, g, ab_ros) 100 f = f 4 := rfl
theorem ea_100 {f : Value → Prop} : ab_ia (a, b, c, d, g, ab_ros) M 100 x f = ((0 ≤ x ∧ x < 4) ∧ f (ab_tab [2, 1, 3, 2] x.toNatClampNeg)) := by simp only [ab_ia, show ab_al 100 = none from rfl, show ab_lk ab_ros 100 = some (.int, 4, ab_tab [2, 1, 3, 2]) from rfl, true_and] <;> rfl
theorem el_101 {f : Int32 → Prop} : ab_len (a, b, c, d, g, ab_ros) 101 f = f 6 := rfl
theorem ea_101 {f : Value → Prop} : ab_ia (a, b, c, d, g, ab_ros) M 101 x f = ((0 ≤ x ∧ x < 6) ∧ f (ab_tab [1, 1, 2, 6, 24, 120] x.toNatClampNeg)) := by simp only [ab_ia, show ab_al 101 = none from rfl, show ab_lk ab_ros 101 = some (.int, 6, ab_tab [1, 1, 2, 6, 24, 120]) from rfl, true_and] <;> rfl
theorem el_102 {f : Int32 → Prop} : ab_len (a, b, c, d, g, ab_ros) 102 f = f 4 := rfl
theorem ea_102 {f : Value → Prop} : ab_la (a, b, c, d, g, ab_ros) M 102 x f = ((0 ≤ x ∧ x < 4) ∧ f (ab_tabL [1000, 1000000, 1000000000, 1000000000000] x.toNatClampNeg)) := by simp only [ab_la, show ab_al 102 = none from rfl, show ab_lk ab_ros 102 = some (.long, 4, ab_tabL [1000, 1000000, 1000000000, 1000000000000]) from rfl, true_and] <;> rfl
theorem el_103 {f : Int32 → Prop} : ab_len (a, b, c, d, g, ab_ros) 103 f = f 2 := rfl
theorem ea_103 {f : Value → Prop} : ab_ia (a, b, c, d, g, ab_ros) M 103 x f = ((0 ≤ x ∧ x < 2) ∧ f (ab_tab [1, 0] x.toNatClampNeg)) := by simp only [ab_ia, show ab_al 103 = none from rfl, show ab_lk ab_ros 103 = some (.int, 2, ab_tab [1, 0]) from rfl, true_and] <;> rfl
theorem el_104 {f : Int32 → Prop} : ab_len (a, b, c, d, g, ab_ros) 104 f = f 2 := rfl
theorem ea_104 {f : Value → Prop} : ab_ia (a, b, c, d, g, ab_ros) M 104 x f = ((0 ≤ x ∧ x < 2) ∧ f (ab_tab [9, 3] x.toNatClampNeg)) := by simp only [ab_ia, show ab_al 104 = none from rfl, show ab_lk ab_ros 104 = some (.int, 2, ab_tab [9, 3]) from rfl, true_and] <;> rfl
theorem el_105 {f : Int32 → Prop} : ab_len (a, b, c, d, g, ab_ros) 105 f = f 3 := rfl
theorem ea_105 {f : Value → Prop} : ab_ia (a, b, c, d, g, ab_ros) M 105 x f = ((0 ≤ x ∧ x < 3) ∧ f (ab_tab [1, 0, 0] x.toNatClampNeg)) := by simp only [ab_ia, show ab_al 105 = none from rfl, show ab_lk ab_ros 105 = some (.int, 3, ab_tab [1, 0, 0]) from rfl, true_and] <;> rfl
theorem el_106 {f : Int32 → Prop} : ab_len (a, b, c, d, g, ab_ros) 106 f = f 3 := rfl
theorem ea_106 {f : Value → Prop} : ab_ia (a, b, c, d, g, ab_ros) M 106 x f = ((0 ≤ x ∧ x < 3) ∧ f (ab_tab [9, 3, 9] x.toNatClampNeg)) := by simp only [ab_ia, show ab_al 106 = none from rfl, show ab_lk ab_ros 106 = some (.int, 3, ab_tab [9, 3, 9]) from rfl, true_and] <;> rfl
end ABE
end
section
/-! LINKS OF THE CLASSES, METHODS' WORDS -/
theorem ab_flok_nil {own : String} : ab_flok own [] := fun _ _ _ h => by cases h
theorem ab_flok_cons {own : String} {i ci k : Nat} {t : List (Nat × Nat × Nat)} (C : String) (T : u_T) (N : Nat) (hc : vwCl[ci]? = some (C, T, N)) (hk : k < N) (hl : Cond.fieldLink own i (T k).1 (T k).2.1 (T k).2.2.1 ∈ ab_tb) (ht : ab_flok own t) : ab_flok own ((i, ci, k) :: t) := by
  intro idx ci' k' h
  unfold ab_lk at h
  split at h
  · rename_i e
    cases h
    subst e
    exact ⟨C, T, N, hc, hk, hl⟩
  · exact ht idx ci' k' h
/-- a method's own words, for a call of it -/
def ab_vi (y : MethodName) (bytes : ByteArray) (maxL : Nat) (ret : Option FieldType) (n : Nat) : Prop := Cond.instanceMethod y ∈ ab_tb ∧ Cond.selects y.cls y y ∈ ab_tb ∧ Cond.initialized y.cls ∈ ab_tb ∧ Cond.code y bytes maxL ret ∈ ab_tb ∧ y.cls ≠ "java/lang/invoke/MethodHandle" ∧ y.cls ≠ "java/lang/invoke/VarHandle" ∧ (parseMethodDescriptor y.desc).map (fun d => d.parameters.length) = some n
def ab_vs (y : MethodName) (bytes : ByteArray) (maxL : Nat) (ret : Option FieldType) (n : Nat) : Prop := Cond.static y ∈ ab_tb ∧ Cond.initialized y.cls ∈ ab_tb ∧ Cond.code y bytes maxL ret ∈ ab_tb ∧ y.cls ≠ "java/lang/invoke/MethodHandle" ∧ y.cls ≠ "java/lang/invoke/VarHandle" ∧ (parseMethodDescriptor y.desc).map (fun d => d.parameters.length) = some n
theorem ab_kV {l : Launch} {own : String} {fr lo : Nat} {y : MethodName} {bytes : ByteArray} {maxL : Nat} {ret : Option FieldType} {fr' lo' n : Nat} {f : ab_Sem} {idx : Nat} (hM : ab_ctr l y bytes maxL ret fr' lo' f) (hlink : Cond.methodLink own idx y ∈ ab_tb) (hv : ab_vi y bytes maxL ret n) (hR : Nat.ble (fr' + 1) fr = true ∧ Nat.ble (8 + (maxL + 11) + lo') lo = true)
    (hrec : ∀ (as : List Value) (M : ab_M) (Po : ab_P), f as M Po → ∃ (q : Nat) (as' : List Value) (ci : Nat) (T : u_T) (N : Nat) (fs : List ab_F), as = .ref q :: as' ∧ ab_sh[q]? = some (.inl (ci, fs)) ∧ vwCl[ci]? = some (y.cls, T, N)) : ab_cok l own fr lo (2 * idx) (n + 1) f := ab_cV idx hM hlink hv.1 hv.2.1 hv.2.2.1 hv.2.2.2.1 hv.2.2.2.2 ⟨Nat.le_of_ble_eq_true hR.1, Nat.le_of_ble_eq_true hR.2⟩ hrec
theorem ab_kS {l : Launch} {own : String} {fr lo : Nat} {y : MethodName} {bytes : ByteArray} {maxL : Nat} {ret : Option FieldType} {fr' lo' n : Nat} {f : ab_Sem} {idx : Nat} (hM : ab_ctr l y bytes maxL ret fr' lo' f) (hlink : Cond.methodLink own idx y ∈ ab_tb) (hv : ab_vs y bytes maxL ret n) (hR : Nat.ble (fr' + 1) fr = true ∧ Nat.ble (8 + (maxL + 11) + lo') lo = true) : ab_cok l own fr lo (2 * idx + 1) n f := ab_cS idx hM hlink hv.1 hv.2.1 hv.2.2.1 hv.2.2.2 ⟨Nat.le_of_ble_eq_true hR.1, Nat.le_of_ble_eq_true hR.2⟩
theorem ab_kN {l : Launch} {own host : String} {fr lo : Nat} {y : MethodName} {bytes : ByteArray} {maxL : Nat} {ret : Option FieldType} {fr' lo' n : Nat} {f : ab_Sem} {idx : Nat} (hM : ab_ctr l y bytes maxL ret fr' lo' f) (hlink : Cond.methodLinkNest own idx y host ∈ ab_tb) (hv : ab_vs y bytes maxL ret n) (hR : Nat.ble (fr' + 1) fr = true ∧ Nat.ble (8 + (maxL + 11) + lo') lo = true) : ab_cok l own fr lo (2 * idx + 1) n f := ab_cN idx hM hlink hv.1 hv.2.1 hv.2.2.1 hv.2.2.2 ⟨Nat.le_of_ble_eq_true hR.1, Nat.le_of_ble_eq_true hR.2⟩
theorem ab_cs_nil {P : Nat → Nat → ab_Sem → Prop} : ∀ (key n : Nat) (g : ab_Sem), ab_lk ([] : List (Nat × Nat × ab_Sem)) key = some (n, g) → P key n g := fun _ _ _ h => by cases h
theorem ab_cs_cons {P : Nat → Nat → ab_Sem → Prop} {k0 n0 : Nat} {f0 : ab_Sem} {t : List (Nat × Nat × ab_Sem)} (h0 : P k0 n0 f0) (ht : ∀ (key n : Nat) (g : ab_Sem), ab_lk t key = some (n, g) → P key n g) : ∀ (key n : Nat) (g : ab_Sem), ab_lk ((k0, n0, f0) :: t) key = some (n, g) → P key n g := by
  intro key n g h
  unfold ab_lk at h
  split at h
  · rename_i e
    cases h
    subst e
    exact h0
  · exact ht key n g h
theorem ab_kl_nil {own : String} : ∀ (idx : Nat) (v : Int64), ab_lk ([] : List (Nat × Int64)) idx = some v → (idx < 100000 → Cond.constantLong own idx v ∈ ab_tb) ∧ ∀ j, idx = j + 100000 → Cond.constant own j v.toInt32 ∈ ab_tb := fun _ _ h => by cases h
theorem ab_kl_L {own : String} {i : Nat} {x : Int64} {t : List (Nat × Int64)} (hi : i < 100000) (h0 : Cond.constantLong own i x ∈ ab_tb) (ht : ∀ (idx : Nat) (v : Int64), ab_lk t idx = some v → (idx < 100000 → Cond.constantLong own idx v ∈ ab_tb) ∧ ∀ j, idx = j + 100000 → Cond.constant own j v.toInt32 ∈ ab_tb) : ∀ (idx : Nat) (v : Int64), ab_lk ((i, x) :: t) idx = some v → (idx < 100000 → Cond.constantLong own idx v ∈ ab_tb) ∧ ∀ j, idx = j + 100000 → Cond.constant own j v.toInt32 ∈ ab_tb := by
  intro idx v h
  unfold ab_lk at h
  split at h
  · rename_i e
    cases h
    subst e
    exact ⟨fun _ => h0, fun j e => by omega⟩
  · exact ht idx v h
theorem ab_kl_I {own : String} {i j : Nat} {x : Int64} {t : List (Nat × Int64)} (hi : i = j + 100000) (h0 : Cond.constant own j x.toInt32 ∈ ab_tb) (ht : ∀ (idx : Nat) (v : Int64), ab_lk t idx = some v → (idx < 100000 → Cond.constantLong own idx v ∈ ab_tb) ∧ ∀ j, idx = j + 100000 → Cond.constant own j v.toInt32 ∈ ab_tb) : ∀ (idx : Nat) (v : Int64), ab_lk ((i, x) :: t) idx = some v → (idx < 100000 → Cond.constantLong own idx v ∈ ab_tb) ∧ ∀ j, idx = j + 100000 → Cond.constant own j v.toInt32 ∈ ab_tb := by
  intro idx v h
  unfold ab_lk at h
  split at h
  · rename_i e
    cases h
    subst e
    exact ⟨fun _ => by omega, fun j' e => by
      have : j' = j := by omega
      subst this
      exact h0⟩
  · exact ht idx v h
theorem ab_gs_nil {own : String} : ∀ (idx r : Nat), ab_lk ([] : List (Nat × Nat)) idx = some r → ∃ t ∈ ab_sts, t.2.2.1 = r ∧ (Cond.fieldLink own idx "LameLead" t.1 t.2.1 ∈ ab_tb ∨ Cond.fieldLinkNest own idx "LameLead" t.1 t.2.1 "LameLead" ∈ ab_tb) := fun _ _ h => by cases h
theorem ab_gs_cons {own : String} {i r0 : Nat} {tl : List (Nat × Nat)} (h0 : ∃ t ∈ ab_sts, t.2.2.1 = r0 ∧ (Cond.fieldLink own i "LameLead" t.1 t.2.1 ∈ ab_tb ∨ Cond.fieldLinkNest own i "LameLead" t.1 t.2.1 "LameLead" ∈ ab_tb)) (ht : ∀ (idx r : Nat), ab_lk tl idx = some r → ∃ t ∈ ab_sts, t.2.2.1 = r ∧ (Cond.fieldLink own idx "LameLead" t.1 t.2.1 ∈ ab_tb ∨ Cond.fieldLinkNest own idx "LameLead" t.1 t.2.1 "LameLead" ∈ ab_tb)) : ∀ (idx r : Nat), ab_lk ((i, r0) :: tl) idx = some r → ∃ t ∈ ab_sts, t.2.2.1 = r ∧ (Cond.fieldLink own idx "LameLead" t.1 t.2.1 ∈ ab_tb ∨ Cond.fieldLinkNest own idx "LameLead" t.1 t.2.1 "LameLead" ∈ ab_tb) := by
  intro idx r h
  unfold ab_lk at h
  split at h
  · rename_i e
    cases h
    subst e
    exact h0
  · exact ht idx r h
def fl_X0 : List (Nat × Nat × Nat) := [(9, 0, 0), (15, 0, 1)]
theorem fo_X0 : ab_flok RX0 fl_X0 := (ab_flok_cons RX0 TX0 2 rfl (by decide) (ab_mem 147 (by decide +kernel) rfl) (ab_flok_cons RX0 TX0 2 rfl (by decide) (ab_mem 148 (by decide +kernel) rfl) ab_flok_nil))
theorem gf_X0_9_14 {a : Option FieldType} {b : List (Nat × Nat × ab_Sem) × List (Nat × Int64) × List (Nat × Nat) × ab_R} {M : ab_M} {k : Value → Prop} : ab_gf (a, fl_X0, b) 9 14 M k = k (.ref 15) := rfl
theorem gf_X0_15_14 {a : Option FieldType} {b : List (Nat × Nat × ab_Sem) × List (Nat × Int64) × List (Nat × Nat) × ab_R} {M : ab_M} {k : Value → Prop} : ab_gf (a, fl_X0, b) 15 14 M k = k (.int (M.1 14 1)) := rfl
theorem pf_X0_15_14 {a : Option FieldType} {b : List (Nat × Nat × ab_Sem) × List (Nat × Int64) × List (Nat × Nat) × ab_R} {M : ab_M} {k : ab_M → Prop} {x : Int32} : ab_pf (a, fl_X0, b) 15 14 (.int x) M k = k (ab_si M 14 1 x) := rfl
def fl_X1 : List (Nat × Nat × Nat) := [(9, 1, 2), (15, 1, 3), (18, 1, 0), (22, 1, 1)]
theorem fo_X1 : ab_flok RX1 fl_X1 := (ab_flok_cons RX1 TX1 4 rfl (by decide) (ab_mem 179 (by decide +kernel) rfl) (ab_flok_cons RX1 TX1 4 rfl (by decide) (ab_mem 180 (by decide +kernel) rfl) (ab_flok_cons RX1 TX1 4 rfl (by decide) (ab_mem 177 (by decide +kernel) rfl) (ab_flok_cons RX1 TX1 4 rfl (by decide) (ab_mem 178 (by decide +kernel) rfl) ab_flok_nil))))
theorem gf_X1_9_20 {a : Option FieldType} {b : List (Nat × Nat × ab_Sem) × List (Nat × Int64) × List (Nat × Nat) × ab_R} {M : ab_M} {k : Value → Prop} : ab_gf (a, fl_X1, b) 9 20 M k = k (.ref 21) := rfl
theorem gf_X1_15_20 {a : Option FieldType} {b : List (Nat × Nat × ab_Sem) × List (Nat × Int64) × List (Nat × Nat) × ab_R} {M : ab_M} {k : Value → Prop} : ab_gf (a, fl_X1, b) 15 20 M k = k (.ref 22) := rfl
theorem gf_X1_18_20 {a : Option FieldType} {b : List (Nat × Nat × ab_Sem) × List (Nat × Int64) × List (Nat × Nat) × ab_R} {M : ab_M} {k : Value → Prop} : ab_gf (a, fl_X1, b) 18 20 M k = k (.ref 12) := rfl
theorem gf_X1_22_20 {a : Option FieldType} {b : List (Nat × Nat × ab_Sem) × List (Nat × Int64) × List (Nat × Nat) × ab_R} {M : ab_M} {k : Value → Prop} : ab_gf (a, fl_X1, b) 22 20 M k = k (.ref 23) := rfl
def fl_X2 : List (Nat × Nat × Nat) := [(9, 2, 2), (15, 2, 5), (19, 2, 0), (23, 2, 1), (27, 2, 3), (30, 2, 4)]
theorem fo_X2 : ab_flok RX2 fl_X2 := (ab_flok_cons RX2 TX2 6 rfl (by decide) (ab_mem 124 (by decide +kernel) rfl) (ab_flok_cons RX2 TX2 6 rfl (by decide) (ab_mem 127 (by decide +kernel) rfl) (ab_flok_cons RX2 TX2 6 rfl (by decide) (ab_mem 122 (by decide +kernel) rfl) (ab_flok_cons RX2 TX2 6 rfl (by decide) (ab_mem 123 (by decide +kernel) rfl) (ab_flok_cons RX2 TX2 6 rfl (by decide) (ab_mem 125 (by decide +kernel) rfl) (ab_flok_cons RX2 TX2 6 rfl (by decide) (ab_mem 126 (by decide +kernel) rfl) ab_flok_nil))))))
theorem gf_X2_9_12 {a : Option FieldType} {b : List (Nat × Nat × ab_Sem) × List (Nat × Int64) × List (Nat × Nat) × ab_R} {M : ab_M} {k : Value → Prop} : ab_gf (a, fl_X2, b) 9 12 M k = k (.ref 13) := rfl
theorem gf_X2_9_18 {a : Option FieldType} {b : List (Nat × Nat × ab_Sem) × List (Nat × Int64) × List (Nat × Nat) × ab_R} {M : ab_M} {k : Value → Prop} : ab_gf (a, fl_X2, b) 9 18 M k = k (.ref 19) := rfl
theorem gf_X2_9_23 {a : Option FieldType} {b : List (Nat × Nat × ab_Sem) × List (Nat × Int64) × List (Nat × Nat) × ab_R} {M : ab_M} {k : Value → Prop} : ab_gf (a, fl_X2, b) 9 23 M k = k (.ref 24) := rfl
theorem gf_X2_15_12 {a : Option FieldType} {b : List (Nat × Nat × ab_Sem) × List (Nat × Int64) × List (Nat × Nat) × ab_R} {M : ab_M} {k : Value → Prop} : ab_gf (a, fl_X2, b) 15 12 M k = k (.int (M.1 12 5)) := rfl
theorem pf_X2_15_12 {a : Option FieldType} {b : List (Nat × Nat × ab_Sem) × List (Nat × Int64) × List (Nat × Nat) × ab_R} {M : ab_M} {k : ab_M → Prop} {x : Int32} : ab_pf (a, fl_X2, b) 15 12 (.int x) M k = k (ab_si M 12 5 x) := rfl
theorem gf_X2_15_18 {a : Option FieldType} {b : List (Nat × Nat × ab_Sem) × List (Nat × Int64) × List (Nat × Nat) × ab_R} {M : ab_M} {k : Value → Prop} : ab_gf (a, fl_X2, b) 15 18 M k = k (.int (M.1 18 5)) := rfl
theorem pf_X2_15_18 {a : Option FieldType} {b : List (Nat × Nat × ab_Sem) × List (Nat × Int64) × List (Nat × Nat) × ab_R} {M : ab_M} {k : ab_M → Prop} {x : Int32} : ab_pf (a, fl_X2, b) 15 18 (.int x) M k = k (ab_si M 18 5 x) := rfl
theorem gf_X2_15_23 {a : Option FieldType} {b : List (Nat × Nat × ab_Sem) × List (Nat × Int64) × List (Nat × Nat) × ab_R} {M : ab_M} {k : Value → Prop} : ab_gf (a, fl_X2, b) 15 23 M k = k (.int (M.1 23 5)) := rfl
theorem pf_X2_15_23 {a : Option FieldType} {b : List (Nat × Nat × ab_Sem) × List (Nat × Int64) × List (Nat × Nat) × ab_R} {M : ab_M} {k : ab_M → Prop} {x : Int32} : ab_pf (a, fl_X2, b) 15 23 (.int x) M k = k (ab_si M 23 5 x) := rfl
theorem gf_X2_19_12 {a : Option FieldType} {b : List (Nat × Nat × ab_Sem) × List (Nat × Int64) × List (Nat × Nat) × ab_R} {M : ab_M} {k : Value → Prop} : ab_gf (a, fl_X2, b) 19 12 M k = k (.ref 3) := rfl
theorem gf_X2_19_18 {a : Option FieldType} {b : List (Nat × Nat × ab_Sem) × List (Nat × Int64) × List (Nat × Nat) × ab_R} {M : ab_M} {k : Value → Prop} : ab_gf (a, fl_X2, b) 19 18 M k = k (.ref 3) := rfl
theorem gf_X2_19_23 {a : Option FieldType} {b : List (Nat × Nat × ab_Sem) × List (Nat × Int64) × List (Nat × Nat) × ab_R} {M : ab_M} {k : Value → Prop} : ab_gf (a, fl_X2, b) 19 23 M k = k (.ref 3) := rfl
theorem gf_X2_23_12 {a : Option FieldType} {b : List (Nat × Nat × ab_Sem) × List (Nat × Int64) × List (Nat × Nat) × ab_R} {M : ab_M} {k : Value → Prop} : ab_gf (a, fl_X2, b) 23 12 M k = k (.ref 8) := rfl
theorem gf_X2_23_18 {a : Option FieldType} {b : List (Nat × Nat × ab_Sem) × List (Nat × Int64) × List (Nat × Nat) × ab_R} {M : ab_M} {k : Value → Prop} : ab_gf (a, fl_X2, b) 23 18 M k = k (.ref 8) := rfl
theorem gf_X2_23_23 {a : Option FieldType} {b : List (Nat × Nat × ab_Sem) × List (Nat × Int64) × List (Nat × Nat) × ab_R} {M : ab_M} {k : Value → Prop} : ab_gf (a, fl_X2, b) 23 23 M k = k (.ref 8) := rfl
theorem gf_X2_27_12 {a : Option FieldType} {b : List (Nat × Nat × ab_Sem) × List (Nat × Int64) × List (Nat × Nat) × ab_R} {M : ab_M} {k : Value → Prop} : ab_gf (a, fl_X2, b) 27 12 M k = k (.int (M.1 12 3)) := rfl
theorem pf_X2_27_12 {a : Option FieldType} {b : List (Nat × Nat × ab_Sem) × List (Nat × Int64) × List (Nat × Nat) × ab_R} {M : ab_M} {k : ab_M → Prop} {x : Int32} : ab_pf (a, fl_X2, b) 27 12 (.int x) M k = k (ab_si M 12 3 x) := rfl
theorem gf_X2_27_18 {a : Option FieldType} {b : List (Nat × Nat × ab_Sem) × List (Nat × Int64) × List (Nat × Nat) × ab_R} {M : ab_M} {k : Value → Prop} : ab_gf (a, fl_X2, b) 27 18 M k = k (.int (M.1 18 3)) := rfl
theorem pf_X2_27_18 {a : Option FieldType} {b : List (Nat × Nat × ab_Sem) × List (Nat × Int64) × List (Nat × Nat) × ab_R} {M : ab_M} {k : ab_M → Prop} {x : Int32} : ab_pf (a, fl_X2, b) 27 18 (.int x) M k = k (ab_si M 18 3 x) := rfl
theorem gf_X2_27_23 {a : Option FieldType} {b : List (Nat × Nat × ab_Sem) × List (Nat × Int64) × List (Nat × Nat) × ab_R} {M : ab_M} {k : Value → Prop} : ab_gf (a, fl_X2, b) 27 23 M k = k (.int (M.1 23 3)) := rfl
theorem pf_X2_27_23 {a : Option FieldType} {b : List (Nat × Nat × ab_Sem) × List (Nat × Int64) × List (Nat × Nat) × ab_R} {M : ab_M} {k : ab_M → Prop} {x : Int32} : ab_pf (a, fl_X2, b) 27 23 (.int x) M k = k (ab_si M 23 3 x) := rfl
theorem gf_X2_30_12 {a : Option FieldType} {b : List (Nat × Nat × ab_Sem) × List (Nat × Int64) × List (Nat × Nat) × ab_R} {M : ab_M} {k : Value → Prop} : ab_gf (a, fl_X2, b) 30 12 M k = k (.int (M.1 12 4)) := rfl
theorem pf_X2_30_12 {a : Option FieldType} {b : List (Nat × Nat × ab_Sem) × List (Nat × Int64) × List (Nat × Nat) × ab_R} {M : ab_M} {k : ab_M → Prop} {x : Int32} : ab_pf (a, fl_X2, b) 30 12 (.int x) M k = k (ab_si M 12 4 x) := rfl
theorem gf_X2_30_18 {a : Option FieldType} {b : List (Nat × Nat × ab_Sem) × List (Nat × Int64) × List (Nat × Nat) × ab_R} {M : ab_M} {k : Value → Prop} : ab_gf (a, fl_X2, b) 30 18 M k = k (.int (M.1 18 4)) := rfl
theorem pf_X2_30_18 {a : Option FieldType} {b : List (Nat × Nat × ab_Sem) × List (Nat × Int64) × List (Nat × Nat) × ab_R} {M : ab_M} {k : ab_M → Prop} {x : Int32} : ab_pf (a, fl_X2, b) 30 18 (.int x) M k = k (ab_si M 18 4 x) := rfl
theorem gf_X2_30_23 {a : Option FieldType} {b : List (Nat × Nat × ab_Sem) × List (Nat × Int64) × List (Nat × Nat) × ab_R} {M : ab_M} {k : Value → Prop} : ab_gf (a, fl_X2, b) 30 23 M k = k (.int (M.1 23 4)) := rfl
theorem pf_X2_30_23 {a : Option FieldType} {b : List (Nat × Nat × ab_Sem) × List (Nat × Int64) × List (Nat × Nat) × ab_R} {M : ab_M} {k : ab_M → Prop} {x : Int32} : ab_pf (a, fl_X2, b) 30 23 (.int x) M k = k (ab_si M 23 4 x) := rfl
def fl_X3 : List (Nat × Nat × Nat) := [(9, 3, 2), (15, 3, 0), (19, 3, 1)]
theorem fo_X3 : ab_flok RX3 fl_X3 := (ab_flok_cons RX3 TX3 3 rfl (by decide) (ab_mem 163 (by decide +kernel) rfl) (ab_flok_cons RX3 TX3 3 rfl (by decide) (ab_mem 161 (by decide +kernel) rfl) (ab_flok_cons RX3 TX3 3 rfl (by decide) (ab_mem 162 (by decide +kernel) rfl) ab_flok_nil)))
theorem gf_X3_9_16 {a : Option FieldType} {b : List (Nat × Nat × ab_Sem) × List (Nat × Int64) × List (Nat × Nat) × ab_R} {M : ab_M} {k : Value → Prop} : ab_gf (a, fl_X3, b) 9 16 M k = k (.ref 17) := rfl
theorem gf_X3_15_16 {a : Option FieldType} {b : List (Nat × Nat × ab_Sem) × List (Nat × Int64) × List (Nat × Nat) × ab_R} {M : ab_M} {k : Value → Prop} : ab_gf (a, fl_X3, b) 15 16 M k = k (.ref 12) := rfl
theorem gf_X3_19_16 {a : Option FieldType} {b : List (Nat × Nat × ab_Sem) × List (Nat × Int64) × List (Nat × Nat) × ab_R} {M : ab_M} {k : Value → Prop} : ab_gf (a, fl_X3, b) 19 16 M k = k (.ref 18) := rfl
def fl_X4 : List (Nat × Nat × Nat) := [(9, 4, 0), (15, 4, 1), (18, 4, 2), (21, 4, 3), (24, 4, 4), (28, 4, 5)]
theorem fo_X4 : ab_flok RX4 fl_X4 := (ab_flok_cons RX4 TX4 6 rfl (by decide) (ab_mem 78 (by decide +kernel) rfl) (ab_flok_cons RX4 TX4 6 rfl (by decide) (ab_mem 79 (by decide +kernel) rfl) (ab_flok_cons RX4 TX4 6 rfl (by decide) (ab_mem 80 (by decide +kernel) rfl) (ab_flok_cons RX4 TX4 6 rfl (by decide) (ab_mem 81 (by decide +kernel) rfl) (ab_flok_cons RX4 TX4 6 rfl (by decide) (ab_mem 82 (by decide +kernel) rfl) (ab_flok_cons RX4 TX4 6 rfl (by decide) (ab_mem 83 (by decide +kernel) rfl) ab_flok_nil))))))
theorem gf_X4_9_3 {a : Option FieldType} {b : List (Nat × Nat × ab_Sem) × List (Nat × Int64) × List (Nat × Nat) × ab_R} {M : ab_M} {k : Value → Prop} : ab_gf (a, fl_X4, b) 9 3 M k = k (.ref 4) := rfl
theorem gf_X4_15_3 {a : Option FieldType} {b : List (Nat × Nat × ab_Sem) × List (Nat × Int64) × List (Nat × Nat) × ab_R} {M : ab_M} {k : Value → Prop} : ab_gf (a, fl_X4, b) 15 3 M k = k (.ref 5) := rfl
theorem gf_X4_18_3 {a : Option FieldType} {b : List (Nat × Nat × ab_Sem) × List (Nat × Int64) × List (Nat × Nat) × ab_R} {M : ab_M} {k : Value → Prop} : ab_gf (a, fl_X4, b) 18 3 M k = k (.ref 6) := rfl
theorem gf_X4_21_3 {a : Option FieldType} {b : List (Nat × Nat × ab_Sem) × List (Nat × Int64) × List (Nat × Nat) × ab_R} {M : ab_M} {k : Value → Prop} : ab_gf (a, fl_X4, b) 21 3 M k = k (.ref 7) := rfl
theorem gf_X4_24_3 {a : Option FieldType} {b : List (Nat × Nat × ab_Sem) × List (Nat × Int64) × List (Nat × Nat) × ab_R} {M : ab_M} {k : Value → Prop} : ab_gf (a, fl_X4, b) 24 3 M k = k (.int (M.1 3 4)) := rfl
theorem pf_X4_24_3 {a : Option FieldType} {b : List (Nat × Nat × ab_Sem) × List (Nat × Int64) × List (Nat × Nat) × ab_R} {M : ab_M} {k : ab_M → Prop} {x : Int32} : ab_pf (a, fl_X4, b) 24 3 (.int x) M k = k (ab_si M 3 4 x) := rfl
theorem gf_X4_28_3 {a : Option FieldType} {b : List (Nat × Nat × ab_Sem) × List (Nat × Int64) × List (Nat × Nat) × ab_R} {M : ab_M} {k : Value → Prop} : ab_gf (a, fl_X4, b) 28 3 M k = k (.int (M.1 3 5)) := rfl
theorem pf_X4_28_3 {a : Option FieldType} {b : List (Nat × Nat × ab_Sem) × List (Nat × Int64) × List (Nat × Nat) × ab_R} {M : ab_M} {k : ab_M → Prop} {x : Int32} : ab_pf (a, fl_X4, b) 28 3 (.int x) M k = k (ab_si M 3 5 x) := rfl
def fl_X5 : List (Nat × Nat × Nat) := [(9, 5, 0), (15, 5, 1)]
theorem fo_X5 : ab_flok RX5 fl_X5 := (ab_flok_cons RX5 TX5 2 rfl (by decide) (ab_mem 64 (by decide +kernel) rfl) (ab_flok_cons RX5 TX5 2 rfl (by decide) (ab_mem 65 (by decide +kernel) rfl) ab_flok_nil))
theorem gf_X5_9_1 {a : Option FieldType} {b : List (Nat × Nat × ab_Sem) × List (Nat × Int64) × List (Nat × Nat) × ab_R} {M : ab_M} {k : Value → Prop} : ab_gf (a, fl_X5, b) 9 1 M k = k (.ref 2) := rfl
theorem gf_X5_15_1 {a : Option FieldType} {b : List (Nat × Nat × ab_Sem) × List (Nat × Int64) × List (Nat × Nat) × ab_R} {M : ab_M} {k : Value → Prop} : ab_gf (a, fl_X5, b) 15 1 M k = k (.int (M.1 1 1)) := rfl
theorem pf_X5_15_1 {a : Option FieldType} {b : List (Nat × Nat × ab_Sem) × List (Nat × Int64) × List (Nat × Nat) × ab_R} {M : ab_M} {k : ab_M → Prop} {x : Int32} : ab_pf (a, fl_X5, b) 15 1 (.int x) M k = k (ab_si M 1 1 x) := rfl
def fl_X6 : List (Nat × Nat × Nat) := [(9, 6, 0), (15, 6, 1), (18, 6, 2), (22, 6, 3)]
theorem fo_X6 : ab_flok RX6 fl_X6 := (ab_flok_cons RX6 TX6 4 rfl (by decide) (ab_mem 196 (by decide +kernel) rfl) (ab_flok_cons RX6 TX6 4 rfl (by decide) (ab_mem 197 (by decide +kernel) rfl) (ab_flok_cons RX6 TX6 4 rfl (by decide) (ab_mem 198 (by decide +kernel) rfl) (ab_flok_cons RX6 TX6 4 rfl (by decide) (ab_mem 199 (by decide +kernel) rfl) ab_flok_nil))))
theorem gf_X6_9_25 {a : Option FieldType} {b : List (Nat × Nat × ab_Sem) × List (Nat × Int64) × List (Nat × Nat) × ab_R} {M : ab_M} {k : Value → Prop} : ab_gf (a, fl_X6, b) 9 25 M k = k (.ref 26) := rfl
theorem gf_X6_15_25 {a : Option FieldType} {b : List (Nat × Nat × ab_Sem) × List (Nat × Int64) × List (Nat × Nat) × ab_R} {M : ab_M} {k : Value → Prop} : ab_gf (a, fl_X6, b) 15 25 M k = k (.ref 27) := rfl
theorem gf_X6_18_25 {a : Option FieldType} {b : List (Nat × Nat × ab_Sem) × List (Nat × Int64) × List (Nat × Nat) × ab_R} {M : ab_M} {k : Value → Prop} : ab_gf (a, fl_X6, b) 18 25 M k = k (.ref 28) := rfl
theorem gf_X6_22_25 {a : Option FieldType} {b : List (Nat × Nat × ab_Sem) × List (Nat × Int64) × List (Nat × Nat) × ab_R} {M : ab_M} {k : Value → Prop} : ab_gf (a, fl_X6, b) 22 25 M k = k (.int (M.1 25 3)) := rfl
theorem pf_X6_22_25 {a : Option FieldType} {b : List (Nat × Nat × ab_Sem) × List (Nat × Int64) × List (Nat × Nat) × ab_R} {M : ab_M} {k : ab_M → Prop} {x : Int32} : ab_pf (a, fl_X6, b) 22 25 (.int x) M k = k (ab_si M 25 3 x) := rfl
def fl_X7 : List (Nat × Nat × Nat) := [(9, 7, 0), (15, 7, 1), (18, 7, 2), (21, 7, 3)]
theorem fo_X7 : ab_flok RX7 fl_X7 := (ab_flok_cons RX7 TX7 4 rfl (by decide) (ab_mem 103 (by decide +kernel) rfl) (ab_flok_cons RX7 TX7 4 rfl (by decide) (ab_mem 104 (by decide +kernel) rfl) (ab_flok_cons RX7 TX7 4 rfl (by decide) (ab_mem 105 (by decide +kernel) rfl) (ab_flok_cons RX7 TX7 4 rfl (by decide) (ab_mem 106 (by decide +kernel) rfl) ab_flok_nil))))
theorem gf_X7_9_8 {a : Option FieldType} {b : List (Nat × Nat × ab_Sem) × List (Nat × Int64) × List (Nat × Nat) × ab_R} {M : ab_M} {k : Value → Prop} : ab_gf (a, fl_X7, b) 9 8 M k = k (.ref 9) := rfl
theorem gf_X7_15_8 {a : Option FieldType} {b : List (Nat × Nat × ab_Sem) × List (Nat × Int64) × List (Nat × Nat) × ab_R} {M : ab_M} {k : Value → Prop} : ab_gf (a, fl_X7, b) 15 8 M k = k (.ref 10) := rfl
theorem gf_X7_18_8 {a : Option FieldType} {b : List (Nat × Nat × ab_Sem) × List (Nat × Int64) × List (Nat × Nat) × ab_R} {M : ab_M} {k : Value → Prop} : ab_gf (a, fl_X7, b) 18 8 M k = k (.ref 11) := rfl
theorem gf_X7_21_8 {a : Option FieldType} {b : List (Nat × Nat × ab_Sem) × List (Nat × Int64) × List (Nat × Nat) × ab_R} {M : ab_M} {k : Value → Prop} : ab_gf (a, fl_X7, b) 21 8 M k = k (.int (M.1 8 3)) := rfl
theorem pf_X7_21_8 {a : Option FieldType} {b : List (Nat × Nat × ab_Sem) × List (Nat × Int64) × List (Nat × Nat) × ab_R} {M : ab_M} {k : ab_M → Prop} {x : Int32} : ab_pf (a, fl_X7, b) 21 8 (.int x) M k = k (ab_si M 8 3 x) := rfl
def fl_X8 : List (Nat × Nat × Nat) := [(10, 8, 0), (19, 8, 1), (26, 8, 2), (35, 8, 3), (42, 8, 4), (51, 8, 5), (58, 8, 6), (65, 8, 7), (71, 8, 8), (75, 8, 9)]
theorem fo_X8 : ab_flok RX8 fl_X8 := (ab_flok_cons RX8 TX8 10 rfl (by decide) (ab_mem 211 (by decide +kernel) rfl) (ab_flok_cons RX8 TX8 10 rfl (by decide) (ab_mem 212 (by decide +kernel) rfl) (ab_flok_cons RX8 TX8 10 rfl (by decide) (ab_mem 213 (by decide +kernel) rfl) (ab_flok_cons RX8 TX8 10 rfl (by decide) (ab_mem 214 (by decide +kernel) rfl) (ab_flok_cons RX8 TX8 10 rfl (by decide) (ab_mem 215 (by decide +kernel) rfl) (ab_flok_cons RX8 TX8 10 rfl (by decide) (ab_mem 216 (by decide +kernel) rfl) (ab_flok_cons RX8 TX8 10 rfl (by decide) (ab_mem 217 (by decide +kernel) rfl) (ab_flok_cons RX8 TX8 10 rfl (by decide) (ab_mem 218 (by decide +kernel) rfl) (ab_flok_cons RX8 TX8 10 rfl (by decide) (ab_mem 219 (by decide +kernel) rfl) (ab_flok_cons RX8 TX8 10 rfl (by decide) (ab_mem 220 (by decide +kernel) rfl) ab_flok_nil))))))))))
theorem gf_X8_10_0 {a : Option FieldType} {b : List (Nat × Nat × ab_Sem) × List (Nat × Int64) × List (Nat × Nat) × ab_R} {M : ab_M} {k : Value → Prop} : ab_gf (a, fl_X8, b) 10 0 M k = k (.ref 1) := rfl
theorem gf_X8_19_0 {a : Option FieldType} {b : List (Nat × Nat × ab_Sem) × List (Nat × Int64) × List (Nat × Nat) × ab_R} {M : ab_M} {k : Value → Prop} : ab_gf (a, fl_X8, b) 19 0 M k = k (.ref 3) := rfl
theorem gf_X8_26_0 {a : Option FieldType} {b : List (Nat × Nat × ab_Sem) × List (Nat × Int64) × List (Nat × Nat) × ab_R} {M : ab_M} {k : Value → Prop} : ab_gf (a, fl_X8, b) 26 0 M k = k (.ref 8) := rfl
theorem gf_X8_35_0 {a : Option FieldType} {b : List (Nat × Nat × ab_Sem) × List (Nat × Int64) × List (Nat × Nat) × ab_R} {M : ab_M} {k : Value → Prop} : ab_gf (a, fl_X8, b) 35 0 M k = k (.ref 12) := rfl
theorem gf_X8_42_0 {a : Option FieldType} {b : List (Nat × Nat × ab_Sem) × List (Nat × Int64) × List (Nat × Nat) × ab_R} {M : ab_M} {k : Value → Prop} : ab_gf (a, fl_X8, b) 42 0 M k = k (.ref 14) := rfl
theorem gf_X8_51_0 {a : Option FieldType} {b : List (Nat × Nat × ab_Sem) × List (Nat × Int64) × List (Nat × Nat) × ab_R} {M : ab_M} {k : Value → Prop} : ab_gf (a, fl_X8, b) 51 0 M k = k (.ref 16) := rfl
theorem gf_X8_58_0 {a : Option FieldType} {b : List (Nat × Nat × ab_Sem) × List (Nat × Int64) × List (Nat × Nat) × ab_R} {M : ab_M} {k : Value → Prop} : ab_gf (a, fl_X8, b) 58 0 M k = k (.ref 20) := rfl
theorem gf_X8_65_0 {a : Option FieldType} {b : List (Nat × Nat × ab_Sem) × List (Nat × Int64) × List (Nat × Nat) × ab_R} {M : ab_M} {k : Value → Prop} : ab_gf (a, fl_X8, b) 65 0 M k = k (.ref 25) := rfl
theorem gf_X8_71_0 {a : Option FieldType} {b : List (Nat × Nat × ab_Sem) × List (Nat × Int64) × List (Nat × Nat) × ab_R} {M : ab_M} {k : Value → Prop} : ab_gf (a, fl_X8, b) 71 0 M k = k (.ref 29) := rfl
theorem gf_X8_75_0 {a : Option FieldType} {b : List (Nat × Nat × ab_Sem) × List (Nat × Int64) × List (Nat × Nat) × ab_R} {M : ab_M} {k : Value → Prop} : ab_gf (a, fl_X8, b) 75 0 M k = k (.long (M.2 0 9)) := rfl
theorem pf_X8_75_0 {a : Option FieldType} {b : List (Nat × Nat × ab_Sem) × List (Nat × Int64) × List (Nat × Nat) × ab_R} {M : ab_M} {k : ab_M → Prop} {x : Int64} : ab_pf (a, fl_X8, b) 75 0 (.long x) M k = k (ab_sl M 0 9 x) := rfl
def fl_X9 : List (Nat × Nat × Nat) := [(7, 9, 1), (13, 9, 5), (16, 9, 6), (19, 9, 8), (22, 9, 9), (25, 9, 12), (28, 9, 14), (31, 9, 15), (34, 9, 16), (37, 9, 17), (40, 9, 18), (43, 9, 20), (46, 9, 21), (50, 9, 23), (53, 9, 24), (56, 9, 25), (59, 9, 33), (62, 9, 34), (65, 9, 0), (69, 9, 7), (78, 9, 2), (81, 9, 3), (88, 9, 11), (91, 9, 13), (108, 9, 4), (111, 9, 10), (114, 9, 19), (151, 9, 22), (179, 9, 27), (182, 9, 28), (188, 9, 35), (234, 9, 29), (237, 9, 30), (240, 9, 31), (243, 9, 32), (248, 9, 26)]
theorem fo_X9 : ab_flok RX9 fl_X9 := (ab_flok_cons RX9 TX9 36 rfl (by decide) (ab_mem 799 (by decide +kernel) rfl) (ab_flok_cons RX9 TX9 36 rfl (by decide) (ab_mem 803 (by decide +kernel) rfl) (ab_flok_cons RX9 TX9 36 rfl (by decide) (ab_mem 804 (by decide +kernel) rfl) (ab_flok_cons RX9 TX9 36 rfl (by decide) (ab_mem 806 (by decide +kernel) rfl) (ab_flok_cons RX9 TX9 36 rfl (by decide) (ab_mem 807 (by decide +kernel) rfl) (ab_flok_cons RX9 TX9 36 rfl (by decide) (ab_mem 810 (by decide +kernel) rfl) (ab_flok_cons RX9 TX9 36 rfl (by decide) (ab_mem 812 (by decide +kernel) rfl) (ab_flok_cons RX9 TX9 36 rfl (by decide) (ab_mem 813 (by decide +kernel) rfl) (ab_flok_cons RX9 TX9 36 rfl (by decide) (ab_mem 814 (by decide +kernel) rfl) (ab_flok_cons RX9 TX9 36 rfl (by decide) (ab_mem 815 (by decide +kernel) rfl) (ab_flok_cons RX9 TX9 36 rfl (by decide) (ab_mem 816 (by decide +kernel) rfl) (ab_flok_cons RX9 TX9 36 rfl (by decide) (ab_mem 818 (by decide +kernel) rfl) (ab_flok_cons RX9 TX9 36 rfl (by decide) (ab_mem 819 (by decide +kernel) rfl) (ab_flok_cons RX9 TX9 36 rfl (by decide) (ab_mem 821 (by decide +kernel) rfl) (ab_flok_cons RX9 TX9 36 rfl (by decide) (ab_mem 822 (by decide +kernel) rfl) (ab_flok_cons RX9 TX9 36 rfl (by decide) (ab_mem 823 (by decide +kernel) rfl) (ab_flok_cons RX9 TX9 36 rfl (by decide) (ab_mem 831 (by decide +kernel) rfl) (ab_flok_cons RX9 TX9 36 rfl (by decide) (ab_mem 832 (by decide +kernel) rfl) (ab_flok_cons RX9 TX9 36 rfl (by decide) (ab_mem 798 (by decide +kernel) rfl) (ab_flok_cons RX9 TX9 36 rfl (by decide) (ab_mem 805 (by decide +kernel) rfl) (ab_flok_cons RX9 TX9 36 rfl (by decide) (ab_mem 800 (by decide +kernel) rfl) (ab_flok_cons RX9 TX9 36 rfl (by decide) (ab_mem 801 (by decide +kernel) rfl) (ab_flok_cons RX9 TX9 36 rfl (by decide) (ab_mem 809 (by decide +kernel) rfl) (ab_flok_cons RX9 TX9 36 rfl (by decide) (ab_mem 811 (by decide +kernel) rfl) (ab_flok_cons RX9 TX9 36 rfl (by decide) (ab_mem 802 (by decide +kernel) rfl) (ab_flok_cons RX9 TX9 36 rfl (by decide) (ab_mem 808 (by decide +kernel) rfl) (ab_flok_cons RX9 TX9 36 rfl (by decide) (ab_mem 817 (by decide +kernel) rfl) (ab_flok_cons RX9 TX9 36 rfl (by decide) (ab_mem 820 (by decide +kernel) rfl) (ab_flok_cons RX9 TX9 36 rfl (by decide) (ab_mem 825 (by decide +kernel) rfl) (ab_flok_cons RX9 TX9 36 rfl (by decide) (ab_mem 826 (by decide +kernel) rfl) (ab_flok_cons RX9 TX9 36 rfl (by decide) (ab_mem 833 (by decide +kernel) rfl) (ab_flok_cons RX9 TX9 36 rfl (by decide) (ab_mem 827 (by decide +kernel) rfl) (ab_flok_cons RX9 TX9 36 rfl (by decide) (ab_mem 828 (by decide +kernel) rfl) (ab_flok_cons RX9 TX9 36 rfl (by decide) (ab_mem 829 (by decide +kernel) rfl) (ab_flok_cons RX9 TX9 36 rfl (by decide) (ab_mem 830 (by decide +kernel) rfl) (ab_flok_cons RX9 TX9 36 rfl (by decide) (ab_mem 824 (by decide +kernel) rfl) ab_flok_nil))))))))))))))))))))))))))))))))))))
theorem gf_X9_7_30 {a : Option FieldType} {b : List (Nat × Nat × ab_Sem) × List (Nat × Int64) × List (Nat × Nat) × ab_R} {M : ab_M} {k : Value → Prop} : ab_gf (a, fl_X9, b) 7 30 M k = k (.ref 31) := rfl
theorem gf_X9_13_30 {a : Option FieldType} {b : List (Nat × Nat × ab_Sem) × List (Nat × Int64) × List (Nat × Nat) × ab_R} {M : ab_M} {k : Value → Prop} : ab_gf (a, fl_X9, b) 13 30 M k = k (.ref 32) := rfl
theorem gf_X9_16_30 {a : Option FieldType} {b : List (Nat × Nat × ab_Sem) × List (Nat × Int64) × List (Nat × Nat) × ab_R} {M : ab_M} {k : Value → Prop} : ab_gf (a, fl_X9, b) 16 30 M k = k (.ref 33) := rfl
theorem gf_X9_19_30 {a : Option FieldType} {b : List (Nat × Nat × ab_Sem) × List (Nat × Int64) × List (Nat × Nat) × ab_R} {M : ab_M} {k : Value → Prop} : ab_gf (a, fl_X9, b) 19 30 M k = k (.ref 34) := rfl
theorem gf_X9_22_30 {a : Option FieldType} {b : List (Nat × Nat × ab_Sem) × List (Nat × Int64) × List (Nat × Nat) × ab_R} {M : ab_M} {k : Value → Prop} : ab_gf (a, fl_X9, b) 22 30 M k = k (.ref 35) := rfl
theorem gf_X9_25_30 {a : Option FieldType} {b : List (Nat × Nat × ab_Sem) × List (Nat × Int64) × List (Nat × Nat) × ab_R} {M : ab_M} {k : Value → Prop} : ab_gf (a, fl_X9, b) 25 30 M k = k (.ref 36) := rfl
theorem gf_X9_28_30 {a : Option FieldType} {b : List (Nat × Nat × ab_Sem) × List (Nat × Int64) × List (Nat × Nat) × ab_R} {M : ab_M} {k : Value → Prop} : ab_gf (a, fl_X9, b) 28 30 M k = k (.ref 37) := rfl
theorem gf_X9_31_30 {a : Option FieldType} {b : List (Nat × Nat × ab_Sem) × List (Nat × Int64) × List (Nat × Nat) × ab_R} {M : ab_M} {k : Value → Prop} : ab_gf (a, fl_X9, b) 31 30 M k = k (.ref 38) := rfl
theorem gf_X9_34_30 {a : Option FieldType} {b : List (Nat × Nat × ab_Sem) × List (Nat × Int64) × List (Nat × Nat) × ab_R} {M : ab_M} {k : Value → Prop} : ab_gf (a, fl_X9, b) 34 30 M k = k (.ref 39) := rfl
theorem gf_X9_37_30 {a : Option FieldType} {b : List (Nat × Nat × ab_Sem) × List (Nat × Int64) × List (Nat × Nat) × ab_R} {M : ab_M} {k : Value → Prop} : ab_gf (a, fl_X9, b) 37 30 M k = k (.ref 40) := rfl
theorem gf_X9_40_30 {a : Option FieldType} {b : List (Nat × Nat × ab_Sem) × List (Nat × Int64) × List (Nat × Nat) × ab_R} {M : ab_M} {k : Value → Prop} : ab_gf (a, fl_X9, b) 40 30 M k = k (.ref 41) := rfl
theorem gf_X9_43_30 {a : Option FieldType} {b : List (Nat × Nat × ab_Sem) × List (Nat × Int64) × List (Nat × Nat) × ab_R} {M : ab_M} {k : Value → Prop} : ab_gf (a, fl_X9, b) 43 30 M k = k (.ref 42) := rfl
theorem gf_X9_46_30 {a : Option FieldType} {b : List (Nat × Nat × ab_Sem) × List (Nat × Int64) × List (Nat × Nat) × ab_R} {M : ab_M} {k : Value → Prop} : ab_gf (a, fl_X9, b) 46 30 M k = k (.ref 43) := rfl
theorem gf_X9_50_30 {a : Option FieldType} {b : List (Nat × Nat × ab_Sem) × List (Nat × Int64) × List (Nat × Nat) × ab_R} {M : ab_M} {k : Value → Prop} : ab_gf (a, fl_X9, b) 50 30 M k = k (.ref 44) := rfl
theorem gf_X9_53_30 {a : Option FieldType} {b : List (Nat × Nat × ab_Sem) × List (Nat × Int64) × List (Nat × Nat) × ab_R} {M : ab_M} {k : Value → Prop} : ab_gf (a, fl_X9, b) 53 30 M k = k (.ref 45) := rfl
theorem gf_X9_56_30 {a : Option FieldType} {b : List (Nat × Nat × ab_Sem) × List (Nat × Int64) × List (Nat × Nat) × ab_R} {M : ab_M} {k : Value → Prop} : ab_gf (a, fl_X9, b) 56 30 M k = k (.ref 46) := rfl
theorem gf_X9_59_30 {a : Option FieldType} {b : List (Nat × Nat × ab_Sem) × List (Nat × Int64) × List (Nat × Nat) × ab_R} {M : ab_M} {k : Value → Prop} : ab_gf (a, fl_X9, b) 59 30 M k = k (.ref 47) := rfl
theorem gf_X9_62_30 {a : Option FieldType} {b : List (Nat × Nat × ab_Sem) × List (Nat × Int64) × List (Nat × Nat) × ab_R} {M : ab_M} {k : Value → Prop} : ab_gf (a, fl_X9, b) 62 30 M k = k (.ref 48) := rfl
theorem gf_X9_65_30 {a : Option FieldType} {b : List (Nat × Nat × ab_Sem) × List (Nat × Int64) × List (Nat × Nat) × ab_R} {M : ab_M} {k : Value → Prop} : ab_gf (a, fl_X9, b) 65 30 M k = k (.int (M.1 30 0)) := rfl
theorem pf_X9_65_30 {a : Option FieldType} {b : List (Nat × Nat × ab_Sem) × List (Nat × Int64) × List (Nat × Nat) × ab_R} {M : ab_M} {k : ab_M → Prop} {x : Int32} : ab_pf (a, fl_X9, b) 65 30 (.int x) M k = k (ab_si M 30 0 x) := rfl
theorem gf_X9_69_30 {a : Option FieldType} {b : List (Nat × Nat × ab_Sem) × List (Nat × Int64) × List (Nat × Nat) × ab_R} {M : ab_M} {k : Value → Prop} : ab_gf (a, fl_X9, b) 69 30 M k = k (.int (M.1 30 7)) := rfl
theorem pf_X9_69_30 {a : Option FieldType} {b : List (Nat × Nat × ab_Sem) × List (Nat × Int64) × List (Nat × Nat) × ab_R} {M : ab_M} {k : ab_M → Prop} {x : Int32} : ab_pf (a, fl_X9, b) 69 30 (.int x) M k = k (ab_si M 30 7 x) := rfl
theorem gf_X9_78_30 {a : Option FieldType} {b : List (Nat × Nat × ab_Sem) × List (Nat × Int64) × List (Nat × Nat) × ab_R} {M : ab_M} {k : Value → Prop} : ab_gf (a, fl_X9, b) 78 30 M k = k (.int (M.1 30 2)) := rfl
theorem pf_X9_78_30 {a : Option FieldType} {b : List (Nat × Nat × ab_Sem) × List (Nat × Int64) × List (Nat × Nat) × ab_R} {M : ab_M} {k : ab_M → Prop} {x : Int32} : ab_pf (a, fl_X9, b) 78 30 (.int x) M k = k (ab_si M 30 2 x) := rfl
theorem gf_X9_81_30 {a : Option FieldType} {b : List (Nat × Nat × ab_Sem) × List (Nat × Int64) × List (Nat × Nat) × ab_R} {M : ab_M} {k : Value → Prop} : ab_gf (a, fl_X9, b) 81 30 M k = k (.int (M.1 30 3)) := rfl
theorem pf_X9_81_30 {a : Option FieldType} {b : List (Nat × Nat × ab_Sem) × List (Nat × Int64) × List (Nat × Nat) × ab_R} {M : ab_M} {k : ab_M → Prop} {x : Int32} : ab_pf (a, fl_X9, b) 81 30 (.int x) M k = k (ab_si M 30 3 x) := rfl
theorem gf_X9_88_30 {a : Option FieldType} {b : List (Nat × Nat × ab_Sem) × List (Nat × Int64) × List (Nat × Nat) × ab_R} {M : ab_M} {k : Value → Prop} : ab_gf (a, fl_X9, b) 88 30 M k = k (.int (M.1 30 11)) := rfl
theorem pf_X9_88_30 {a : Option FieldType} {b : List (Nat × Nat × ab_Sem) × List (Nat × Int64) × List (Nat × Nat) × ab_R} {M : ab_M} {k : ab_M → Prop} {x : Int32} : ab_pf (a, fl_X9, b) 88 30 (.int x) M k = k (ab_si M 30 11 x) := rfl
theorem gf_X9_91_30 {a : Option FieldType} {b : List (Nat × Nat × ab_Sem) × List (Nat × Int64) × List (Nat × Nat) × ab_R} {M : ab_M} {k : Value → Prop} : ab_gf (a, fl_X9, b) 91 30 M k = k (.int (M.1 30 13)) := rfl
theorem pf_X9_91_30 {a : Option FieldType} {b : List (Nat × Nat × ab_Sem) × List (Nat × Int64) × List (Nat × Nat) × ab_R} {M : ab_M} {k : ab_M → Prop} {x : Int32} : ab_pf (a, fl_X9, b) 91 30 (.int x) M k = k (ab_si M 30 13 x) := rfl
theorem gf_X9_108_30 {a : Option FieldType} {b : List (Nat × Nat × ab_Sem) × List (Nat × Int64) × List (Nat × Nat) × ab_R} {M : ab_M} {k : Value → Prop} : ab_gf (a, fl_X9, b) 108 30 M k = k (.int (M.1 30 4)) := rfl
theorem pf_X9_108_30 {a : Option FieldType} {b : List (Nat × Nat × ab_Sem) × List (Nat × Int64) × List (Nat × Nat) × ab_R} {M : ab_M} {k : ab_M → Prop} {x : Int32} : ab_pf (a, fl_X9, b) 108 30 (.int x) M k = k (ab_si M 30 4 x) := rfl
theorem gf_X9_111_30 {a : Option FieldType} {b : List (Nat × Nat × ab_Sem) × List (Nat × Int64) × List (Nat × Nat) × ab_R} {M : ab_M} {k : Value → Prop} : ab_gf (a, fl_X9, b) 111 30 M k = k (.int (M.1 30 10)) := rfl
theorem pf_X9_111_30 {a : Option FieldType} {b : List (Nat × Nat × ab_Sem) × List (Nat × Int64) × List (Nat × Nat) × ab_R} {M : ab_M} {k : ab_M → Prop} {x : Int32} : ab_pf (a, fl_X9, b) 111 30 (.int x) M k = k (ab_si M 30 10 x) := rfl
theorem gf_X9_114_30 {a : Option FieldType} {b : List (Nat × Nat × ab_Sem) × List (Nat × Int64) × List (Nat × Nat) × ab_R} {M : ab_M} {k : Value → Prop} : ab_gf (a, fl_X9, b) 114 30 M k = k (.int (M.1 30 19)) := rfl
theorem pf_X9_114_30 {a : Option FieldType} {b : List (Nat × Nat × ab_Sem) × List (Nat × Int64) × List (Nat × Nat) × ab_R} {M : ab_M} {k : ab_M → Prop} {x : Int32} : ab_pf (a, fl_X9, b) 114 30 (.int x) M k = k (ab_si M 30 19 x) := rfl
theorem gf_X9_151_30 {a : Option FieldType} {b : List (Nat × Nat × ab_Sem) × List (Nat × Int64) × List (Nat × Nat) × ab_R} {M : ab_M} {k : Value → Prop} : ab_gf (a, fl_X9, b) 151 30 M k = k (.int (M.1 30 22)) := rfl
theorem pf_X9_151_30 {a : Option FieldType} {b : List (Nat × Nat × ab_Sem) × List (Nat × Int64) × List (Nat × Nat) × ab_R} {M : ab_M} {k : ab_M → Prop} {x : Int32} : ab_pf (a, fl_X9, b) 151 30 (.int x) M k = k (ab_si M 30 22 x) := rfl
theorem gf_X9_179_30 {a : Option FieldType} {b : List (Nat × Nat × ab_Sem) × List (Nat × Int64) × List (Nat × Nat) × ab_R} {M : ab_M} {k : Value → Prop} : ab_gf (a, fl_X9, b) 179 30 M k = k (.int (M.1 30 27)) := rfl
theorem pf_X9_179_30 {a : Option FieldType} {b : List (Nat × Nat × ab_Sem) × List (Nat × Int64) × List (Nat × Nat) × ab_R} {M : ab_M} {k : ab_M → Prop} {x : Int32} : ab_pf (a, fl_X9, b) 179 30 (.int x) M k = k (ab_si M 30 27 x) := rfl
theorem gf_X9_182_30 {a : Option FieldType} {b : List (Nat × Nat × ab_Sem) × List (Nat × Int64) × List (Nat × Nat) × ab_R} {M : ab_M} {k : Value → Prop} : ab_gf (a, fl_X9, b) 182 30 M k = k (.int (M.1 30 28)) := rfl
theorem pf_X9_182_30 {a : Option FieldType} {b : List (Nat × Nat × ab_Sem) × List (Nat × Int64) × List (Nat × Nat) × ab_R} {M : ab_M} {k : ab_M → Prop} {x : Int32} : ab_pf (a, fl_X9, b) 182 30 (.int x) M k = k (ab_si M 30 28 x) := rfl
theorem gf_X9_188_30 {a : Option FieldType} {b : List (Nat × Nat × ab_Sem) × List (Nat × Int64) × List (Nat × Nat) × ab_R} {M : ab_M} {k : Value → Prop} : ab_gf (a, fl_X9, b) 188 30 M k = k (.int (M.1 30 35)) := rfl
theorem pf_X9_188_30 {a : Option FieldType} {b : List (Nat × Nat × ab_Sem) × List (Nat × Int64) × List (Nat × Nat) × ab_R} {M : ab_M} {k : ab_M → Prop} {x : Int32} : ab_pf (a, fl_X9, b) 188 30 (.int x) M k = k (ab_si M 30 35 x) := rfl
theorem gf_X9_234_30 {a : Option FieldType} {b : List (Nat × Nat × ab_Sem) × List (Nat × Int64) × List (Nat × Nat) × ab_R} {M : ab_M} {k : Value → Prop} : ab_gf (a, fl_X9, b) 234 30 M k = k (.int (M.1 30 29)) := rfl
theorem pf_X9_234_30 {a : Option FieldType} {b : List (Nat × Nat × ab_Sem) × List (Nat × Int64) × List (Nat × Nat) × ab_R} {M : ab_M} {k : ab_M → Prop} {x : Int32} : ab_pf (a, fl_X9, b) 234 30 (.int x) M k = k (ab_si M 30 29 x) := rfl
theorem gf_X9_237_30 {a : Option FieldType} {b : List (Nat × Nat × ab_Sem) × List (Nat × Int64) × List (Nat × Nat) × ab_R} {M : ab_M} {k : Value → Prop} : ab_gf (a, fl_X9, b) 237 30 M k = k (.int (M.1 30 30)) := rfl
theorem pf_X9_237_30 {a : Option FieldType} {b : List (Nat × Nat × ab_Sem) × List (Nat × Int64) × List (Nat × Nat) × ab_R} {M : ab_M} {k : ab_M → Prop} {x : Int32} : ab_pf (a, fl_X9, b) 237 30 (.int x) M k = k (ab_si M 30 30 x) := rfl
theorem gf_X9_240_30 {a : Option FieldType} {b : List (Nat × Nat × ab_Sem) × List (Nat × Int64) × List (Nat × Nat) × ab_R} {M : ab_M} {k : Value → Prop} : ab_gf (a, fl_X9, b) 240 30 M k = k (.int (M.1 30 31)) := rfl
theorem pf_X9_240_30 {a : Option FieldType} {b : List (Nat × Nat × ab_Sem) × List (Nat × Int64) × List (Nat × Nat) × ab_R} {M : ab_M} {k : ab_M → Prop} {x : Int32} : ab_pf (a, fl_X9, b) 240 30 (.int x) M k = k (ab_si M 30 31 x) := rfl
theorem gf_X9_243_30 {a : Option FieldType} {b : List (Nat × Nat × ab_Sem) × List (Nat × Int64) × List (Nat × Nat) × ab_R} {M : ab_M} {k : Value → Prop} : ab_gf (a, fl_X9, b) 243 30 M k = k (.int (M.1 30 32)) := rfl
theorem pf_X9_243_30 {a : Option FieldType} {b : List (Nat × Nat × ab_Sem) × List (Nat × Int64) × List (Nat × Nat) × ab_R} {M : ab_M} {k : ab_M → Prop} {x : Int32} : ab_pf (a, fl_X9, b) 243 30 (.int x) M k = k (ab_si M 30 32 x) := rfl
theorem gf_X9_248_30 {a : Option FieldType} {b : List (Nat × Nat × ab_Sem) × List (Nat × Int64) × List (Nat × Nat) × ab_R} {M : ab_M} {k : Value → Prop} : ab_gf (a, fl_X9, b) 248 30 M k = k (.long (M.2 30 26)) := rfl
theorem pf_X9_248_30 {a : Option FieldType} {b : List (Nat × Nat × ab_Sem) × List (Nat × Int64) × List (Nat × Nat) × ab_R} {M : ab_M} {k : ab_M → Prop} {x : Int64} : ab_pf (a, fl_X9, b) 248 30 (.long x) M k = k (ab_sl M 30 26 x) := rfl
end
section
/-! WORDS OF METHODS AND CALLS -/
theorem v_X0_count : ab_vi yX0_count cX0_count 1 (some .int) 0 := ⟨(ab_mem 394 (by decide +kernel) rfl), (ab_mem 395 (by decide +kernel) rfl), (ab_mem 43 (by decide +kernel) rfl), (ab_mem 396 (by decide +kernel) rfl), (by decide +kernel), (by decide +kernel), (by decide +kernel)⟩
theorem v_X0_forgetAll : ab_vi yX0_forgetAll cX0_forgetAll 1 none 0 := ⟨(ab_mem 327 (by decide +kernel) rfl), (ab_mem 328 (by decide +kernel) rfl), (ab_mem 43 (by decide +kernel) rfl), (ab_mem 329 (by decide +kernel) rfl), (by decide +kernel), (by decide +kernel), (by decide +kernel)⟩
theorem v_X0_remember : ab_vi yX0_remember cX0_remember 3 none 1 := ⟨(ab_mem 440 (by decide +kernel) rfl), (ab_mem 441 (by decide +kernel) rfl), (ab_mem 43 (by decide +kernel) rfl), (ab_mem 442 (by decide +kernel) rfl), (by decide +kernel), (by decide +kernel), (by decide +kernel)⟩
theorem v_X0_forgetFirst : ab_vi yX0_forgetFirst cX0_forgetFirst 2 none 0 := ⟨(ab_mem 445 (by decide +kernel) rfl), (ab_mem 3 (by decide +kernel) rfl), (ab_mem 43 (by decide +kernel) rfl), (ab_mem 446 (by decide +kernel) rfl), (by decide +kernel), (by decide +kernel), (by decide +kernel)⟩
theorem v_X0_takeLast : ab_vi yX0_takeLast cX0_takeLast 1 (some .long) 0 := ⟨(ab_mem 510 (by decide +kernel) rfl), (ab_mem 511 (by decide +kernel) rfl), (ab_mem 43 (by decide +kernel) rfl), (ab_mem 512 (by decide +kernel) rfl), (by decide +kernel), (by decide +kernel), (by decide +kernel)⟩
theorem v_X1_weighPairs : ab_vi yX1_weighPairs cX1_weighPairs 8 none 2 := ⟨(ab_mem 725 (by decide +kernel) rfl), (ab_mem 726 (by decide +kernel) rfl), (ab_mem 45 (by decide +kernel) rfl), (ab_mem 727 (by decide +kernel) rfl), (by decide +kernel), (by decide +kernel), (by decide +kernel)⟩
theorem v_X1_isRest : ab_vi yX1_isRest cX1_isRest 2 (some .boolean) 1 := ⟨(ab_mem 739 (by decide +kernel) rfl), (ab_mem 13 (by decide +kernel) rfl), (ab_mem 45 (by decide +kernel) rfl), (ab_mem 740 (by decide +kernel) rfl), (by decide +kernel), (by decide +kernel), (by decide +kernel)⟩
theorem v_X1_restCount : ab_vi yX1_restCount cX1_restCount 3 (some .int) 0 := ⟨(ab_mem 734 (by decide +kernel) rfl), (ab_mem 735 (by decide +kernel) rfl), (ab_mem 45 (by decide +kernel) rfl), (ab_mem 736 (by decide +kernel) rfl), (by decide +kernel), (by decide +kernel), (by decide +kernel)⟩
theorem v_X1_firstRest : ab_vi yX1_firstRest cX1_firstRest 2 (some .int) 0 := ⟨(ab_mem 742 (by decide +kernel) rfl), (ab_mem 743 (by decide +kernel) rfl), (ab_mem 45 (by decide +kernel) rfl), (ab_mem 744 (by decide +kernel) rfl), (by decide +kernel), (by decide +kernel), (by decide +kernel)⟩
theorem v_X1_weightInTime : ab_vi yX1_weightInTime cX1_weightInTime 8 (some .int) 2 := ⟨(ab_mem 751 (by decide +kernel) rfl), (ab_mem 752 (by decide +kernel) rfl), (ab_mem 45 (by decide +kernel) rfl), (ab_mem 753 (by decide +kernel) rfl), (by decide +kernel), (by decide +kernel), (by decide +kernel)⟩
theorem v_X1_isInTimePricked : ab_vi yX1_isInTimePricked cX1_isInTimePricked 4 (some .boolean) 2 := ⟨(ab_mem 759 (by decide +kernel) rfl), (ab_mem 14 (by decide +kernel) rfl), (ab_mem 45 (by decide +kernel) rfl), (ab_mem 760 (by decide +kernel) rfl), (by decide +kernel), (by decide +kernel), (by decide +kernel)⟩
theorem v_X1_setOut : ab_vi yX1_setOut cX1_setOut 1 none 0 := ⟨(ab_mem 771 (by decide +kernel) rfl), (ab_mem 772 (by decide +kernel) rfl), (ab_mem 45 (by decide +kernel) rfl), (ab_mem 773 (by decide +kernel) rfl), (by decide +kernel), (by decide +kernel), (by decide +kernel)⟩
theorem v_X1_mileBehindLot : ab_vi yX1_mileBehindLot cX1_mileBehindLot 2 (some .int) 1 := ⟨(ab_mem 778 (by decide +kernel) rfl), (ab_mem 779 (by decide +kernel) rfl), (ab_mem 45 (by decide +kernel) rfl), (ab_mem 780 (by decide +kernel) rfl), (by decide +kernel), (by decide +kernel), (by decide +kernel)⟩
theorem v_X2_mile : ab_vi yX2_mile cX2_mile 1 (some .int) 0 := ⟨(ab_mem 347 (by decide +kernel) rfl), (ab_mem 348 (by decide +kernel) rfl), (ab_mem 42 (by decide +kernel) rfl), (ab_mem 349 (by decide +kernel) rfl), (by decide +kernel), (by decide +kernel), (by decide +kernel)⟩
theorem v_X2_dayNumber : ab_vi yX2_dayNumber cX2_dayNumber 1 (some .int) 0 := ⟨(ab_mem 351 (by decide +kernel) rfl), (ab_mem 352 (by decide +kernel) rfl), (ab_mem 42 (by decide +kernel) rfl), (ab_mem 353 (by decide +kernel) rfl), (by decide +kernel), (by decide +kernel), (by decide +kernel)⟩
theorem v_X2_end : ab_vi yX2_end cX2_end 1 (some .int) 0 := ⟨(ab_mem 670 (by decide +kernel) rfl), (ab_mem 671 (by decide +kernel) rfl), (ab_mem 42 (by decide +kernel) rfl), (ab_mem 672 (by decide +kernel) rfl), (by decide +kernel), (by decide +kernel), (by decide +kernel)⟩
theorem v_X2_menCount : ab_vi yX2_menCount cX2_menCount 1 (some .int) 0 := ⟨(ab_mem 575 (by decide +kernel) rfl), (ab_mem 576 (by decide +kernel) rfl), (ab_mem 42 (by decide +kernel) rfl), (ab_mem 577 (by decide +kernel) rfl), (by decide +kernel), (by decide +kernel), (by decide +kernel)⟩
theorem v_X2_isThere : ab_vi yX2_isThere cX2_isThere 1 (some .boolean) 0 := ⟨(ab_mem 452 (by decide +kernel) rfl), (ab_mem 453 (by decide +kernel) rfl), (ab_mem 42 (by decide +kernel) rfl), (ab_mem 454 (by decide +kernel) rfl), (by decide +kernel), (by decide +kernel), (by decide +kernel)⟩
theorem v_X2_begin : ab_vi yX2_begin cX2_begin 2 none 0 := ⟨(ab_mem 315 (by decide +kernel) rfl), (ab_mem 316 (by decide +kernel) rfl), (ab_mem 42 (by decide +kernel) rfl), (ab_mem 317 (by decide +kernel) rfl), (by decide +kernel), (by decide +kernel), (by decide +kernel)⟩
theorem v_X2_follow : ab_vi yX2_follow cX2_follow 3 none 1 := ⟨(ab_mem 531 (by decide +kernel) rfl), (ab_mem 532 (by decide +kernel) rfl), (ab_mem 42 (by decide +kernel) rfl), (ab_mem 533 (by decide +kernel) rfl), (by decide +kernel), (by decide +kernel), (by decide +kernel)⟩
theorem v_X2_followWith : ab_vi yX2_followWith cX2_followWith 3 none 2 := ⟨(ab_mem 674 (by decide +kernel) rfl), (ab_mem 675 (by decide +kernel) rfl), (ab_mem 42 (by decide +kernel) rfl), (ab_mem 676 (by decide +kernel) rfl), (by decide +kernel), (by decide +kernel), (by decide +kernel)⟩
theorem v_X2_packed : ab_vi yX2_packed cX2_packed 4 (some .long) 0 := ⟨(ab_mem 436 (by decide +kernel) rfl), (ab_mem 437 (by decide +kernel) rfl), (ab_mem 42 (by decide +kernel) rfl), (ab_mem 438 (by decide +kernel) rfl), (by decide +kernel), (by decide +kernel), (by decide +kernel)⟩
theorem v_X2_unpack : ab_vi yX2_unpack cX2_unpack 6 none 1 := ⟨(ab_mem 514 (by decide +kernel) rfl), (ab_mem 515 (by decide +kernel) rfl), (ab_mem 42 (by decide +kernel) rfl), (ab_mem 516 (by decide +kernel) rfl), (by decide +kernel), (by decide +kernel), (by decide +kernel)⟩
theorem v_X2_thornsOf : ab_vi yX2_thornsOf cX2_thornsOf 2 (some .int) 1 := ⟨(ab_mem 382 (by decide +kernel) rfl), (ab_mem 383 (by decide +kernel) rfl), (ab_mem 42 (by decide +kernel) rfl), (ab_mem 384 (by decide +kernel) rfl), (by decide +kernel), (by decide +kernel), (by decide +kernel)⟩
theorem v_X2_allThorns : ab_vi yX2_allThorns cX2_allThorns 3 (some .int) 0 := ⟨(ab_mem 390 (by decide +kernel) rfl), (ab_mem 391 (by decide +kernel) rfl), (ab_mem 42 (by decide +kernel) rfl), (ab_mem 392 (by decide +kernel) rfl), (by decide +kernel), (by decide +kernel), (by decide +kernel)⟩
theorem v_X2_speedOf : ab_vi yX2_speedOf cX2_speedOf 2 (some .int) 1 := ⟨(ab_mem 378 (by decide +kernel) rfl), (ab_mem 379 (by decide +kernel) rfl), (ab_mem 42 (by decide +kernel) rfl), (ab_mem 380 (by decide +kernel) rfl), (by decide +kernel), (by decide +kernel), (by decide +kernel)⟩
theorem v_X2_leader : ab_vi yX2_leader cX2_leader 6 (some .int) 0 := ⟨(ab_mem 355 (by decide +kernel) rfl), (ab_mem 356 (by decide +kernel) rfl), (ab_mem 42 (by decide +kernel) rfl), (ab_mem 357 (by decide +kernel) rfl), (by decide +kernel), (by decide +kernel), (by decide +kernel)⟩
theorem v_X2_leaderSpeed : ab_vi yX2_leaderSpeed cX2_leaderSpeed 2 (some .int) 0 := ⟨(ab_mem 373 (by decide +kernel) rfl), (ab_mem 374 (by decide +kernel) rfl), (ab_mem 42 (by decide +kernel) rfl), (ab_mem 375 (by decide +kernel) rfl), (by decide +kernel), (by decide +kernel), (by decide +kernel)⟩
theorem v_X2_canPrick : ab_vi yX2_canPrick cX2_canPrick 2 (some .boolean) 1 := ⟨(ab_mem 489 (by decide +kernel) rfl), (ab_mem 490 (by decide +kernel) rfl), (ab_mem 42 (by decide +kernel) rfl), (ab_mem 491 (by decide +kernel) rfl), (by decide +kernel), (by decide +kernel), (by decide +kernel)⟩
theorem v_X2_prick : ab_vi yX2_prick cX2_prick 2 none 1 := ⟨(ab_mem 468 (by decide +kernel) rfl), (ab_mem 469 (by decide +kernel) rfl), (ab_mem 42 (by decide +kernel) rfl), (ab_mem 470 (by decide +kernel) rfl), (by decide +kernel), (by decide +kernel), (by decide +kernel)⟩
theorem v_X2_canEase : ab_vi yX2_canEase cX2_canEase 2 (some .boolean) 1 := ⟨(ab_mem 498 (by decide +kernel) rfl), (ab_mem 499 (by decide +kernel) rfl), (ab_mem 42 (by decide +kernel) rfl), (ab_mem 500 (by decide +kernel) rfl), (by decide +kernel), (by decide +kernel), (by decide +kernel)⟩
theorem v_X2_ease : ab_vi yX2_ease cX2_ease 2 none 1 := ⟨(ab_mem 502 (by decide +kernel) rfl), (ab_mem 503 (by decide +kernel) rfl), (ab_mem 42 (by decide +kernel) rfl), (ab_mem 504 (by decide +kernel) rfl), (by decide +kernel), (by decide +kernel), (by decide +kernel)⟩
theorem v_X2_easeTimes : ab_vi yX2_easeTimes cX2_easeTimes 4 none 2 := ⟨(ab_mem 613 (by decide +kernel) rfl), (ab_mem 614 (by decide +kernel) rfl), (ab_mem 42 (by decide +kernel) rfl), (ab_mem 615 (by decide +kernel) rfl), (by decide +kernel), (by decide +kernel), (by decide +kernel)⟩
theorem v_X2_goDay : ab_vi yX2_goDay cX2_goDay 4 (some .int) 0 := ⟨(ab_mem 448 (by decide +kernel) rfl), (ab_mem 449 (by decide +kernel) rfl), (ab_mem 42 (by decide +kernel) rfl), (ab_mem 450 (by decide +kernel) rfl), (by decide +kernel), (by decide +kernel), (by decide +kernel)⟩
theorem v_X2_milesOver : ab_vs yX2_milesOver cX2_milesOver 2 (some .int) 2 := ⟨(ab_mem 459 (by decide +kernel) rfl), (ab_mem 42 (by decide +kernel) rfl), (ab_mem 460 (by decide +kernel) rfl), (by decide +kernel), (by decide +kernel), (by decide +kernel)⟩
theorem v_X2_goDays : ab_vi yX2_goDays cX2_goDays 3 none 1 := ⟨(ab_mem 535 (by decide +kernel) rfl), (ab_mem 536 (by decide +kernel) rfl), (ab_mem 42 (by decide +kernel) rfl), (ab_mem 537 (by decide +kernel) rfl), (by decide +kernel), (by decide +kernel), (by decide +kernel)⟩
theorem v_X2_goToEnd : ab_vi yX2_goToEnd cX2_goToEnd 3 (some .int) 1 := ⟨(ab_mem 554 (by decide +kernel) rfl), (ab_mem 555 (by decide +kernel) rfl), (ab_mem 42 (by decide +kernel) rfl), (ab_mem 556 (by decide +kernel) rfl), (by decide +kernel), (by decide +kernel), (by decide +kernel)⟩
theorem v_X2_stay : ab_vi yX2_stay cX2_stay 1 none 0 := ⟨(ab_mem 481 (by decide +kernel) rfl), (ab_mem 482 (by decide +kernel) rfl), (ab_mem 42 (by decide +kernel) rfl), (ab_mem 483 (by decide +kernel) rfl), (by decide +kernel), (by decide +kernel), (by decide +kernel)⟩
theorem v_X2_healAll : ab_vi yX2_healAll cX2_healAll 2 none 0 := ⟨(ab_mem 474 (by decide +kernel) rfl), (ab_mem 4 (by decide +kernel) rfl), (ab_mem 42 (by decide +kernel) rfl), (ab_mem 475 (by decide +kernel) rfl), (by decide +kernel), (by decide +kernel), (by decide +kernel)⟩
theorem v_X3_mileIn : ab_vi yX3_mileIn cX3_mileIn 2 (some .int) 1 := ⟨(ab_mem 527 (by decide +kernel) rfl), (ab_mem 528 (by decide +kernel) rfl), (ab_mem 44 (by decide +kernel) rfl), (ab_mem 529 (by decide +kernel) rfl), (by decide +kernel), (by decide +kernel), (by decide +kernel)⟩
theorem v_X3_leaderIn : ab_vi yX3_leaderIn cX3_leaderIn 2 (some .int) 1 := ⟨(ab_mem 541 (by decide +kernel) rfl), (ab_mem 542 (by decide +kernel) rfl), (ab_mem 44 (by decide +kernel) rfl), (ab_mem 543 (by decide +kernel) rfl), (by decide +kernel), (by decide +kernel), (by decide +kernel)⟩
theorem v_X3_daysToEnd : ab_vi yX3_daysToEnd cX3_daysToEnd 1 (some .int) 0 := ⟨(ab_mem 550 (by decide +kernel) rfl), (ab_mem 551 (by decide +kernel) rfl), (ab_mem 44 (by decide +kernel) rfl), (ab_mem 552 (by decide +kernel) rfl), (by decide +kernel), (by decide +kernel), (by decide +kernel)⟩
theorem v_X3_daysToLead : ab_vi yX3_daysToLead cX3_daysToLead 3 (some .int) 1 := ⟨(ab_mem 562 (by decide +kernel) rfl), (ab_mem 563 (by decide +kernel) rfl), (ab_mem 44 (by decide +kernel) rfl), (ab_mem 564 (by decide +kernel) rfl), (by decide +kernel), (by decide +kernel), (by decide +kernel)⟩
theorem v_X3_bestCure : ab_vi yX3_bestCure cX3_bestCure 6 (some .int) 1 := ⟨(ab_mem 571 (by decide +kernel) rfl), (ab_mem 572 (by decide +kernel) rfl), (ab_mem 44 (by decide +kernel) rfl), (ab_mem 573 (by decide +kernel) rfl), (by decide +kernel), (by decide +kernel), (by decide +kernel)⟩
theorem v_X3_daysIfEased : ab_vi yX3_daysIfEased cX3_daysIfEased 2 (some .int) 1 := ⟨(ab_mem 581 (by decide +kernel) rfl), (ab_mem 5 (by decide +kernel) rfl), (ab_mem 44 (by decide +kernel) rfl), (ab_mem 582 (by decide +kernel) rfl), (by decide +kernel), (by decide +kernel), (by decide +kernel)⟩
theorem v_X3_fewestPulls : ab_vi yX3_fewestPulls cX3_fewestPulls 7 (some .int) 1 := ⟨(ab_mem 589 (by decide +kernel) rfl), (ab_mem 590 (by decide +kernel) rfl), (ab_mem 44 (by decide +kernel) rfl), (ab_mem 591 (by decide +kernel) rfl), (by decide +kernel), (by decide +kernel), (by decide +kernel)⟩
theorem v_X3_pullsOf : ab_vi yX3_pullsOf cX3_pullsOf 3 (some .int) 2 := ⟨(ab_mem 601 (by decide +kernel) rfl), (ab_mem 6 (by decide +kernel) rfl), (ab_mem 44 (by decide +kernel) rfl), (ab_mem 602 (by decide +kernel) rfl), (by decide +kernel), (by decide +kernel), (by decide +kernel)⟩
theorem v_X3_canPull : ab_vi yX3_canPull cX3_canPull 3 (some .boolean) 1 := ⟨(ab_mem 605 (by decide +kernel) rfl), (ab_mem 7 (by decide +kernel) rfl), (ab_mem 44 (by decide +kernel) rfl), (ab_mem 606 (by decide +kernel) rfl), (by decide +kernel), (by decide +kernel), (by decide +kernel)⟩
theorem v_X3_isInTime : ab_vi yX3_isInTime cX3_isInTime 4 (some .boolean) 2 := ⟨(ab_mem 610 (by decide +kernel) rfl), (ab_mem 8 (by decide +kernel) rfl), (ab_mem 44 (by decide +kernel) rfl), (ab_mem 611 (by decide +kernel) rfl), (by decide +kernel), (by decide +kernel), (by decide +kernel)⟩
theorem v_X3_pullsInAll : ab_vi yX3_pullsInAll cX3_pullsInAll 4 (some .int) 1 := ⟨(ab_mem 596 (by decide +kernel) rfl), (ab_mem 597 (by decide +kernel) rfl), (ab_mem 44 (by decide +kernel) rfl), (ab_mem 598 (by decide +kernel) rfl), (by decide +kernel), (by decide +kernel), (by decide +kernel)⟩
theorem v_X3_pullFigures : ab_vi yX3_pullFigures cX3_pullFigures 4 (some .int) 1 := ⟨(ab_mem 619 (by decide +kernel) rfl), (ab_mem 620 (by decide +kernel) rfl), (ab_mem 44 (by decide +kernel) rfl), (ab_mem 621 (by decide +kernel) rfl), (by decide +kernel), (by decide +kernel), (by decide +kernel)⟩
theorem v_X3_firstImpossible : ab_vi yX3_firstImpossible cX3_firstImpossible 8 (some .int) 2 := ⟨(ab_mem 629 (by decide +kernel) rfl), (ab_mem 630 (by decide +kernel) rfl), (ab_mem 44 (by decide +kernel) rfl), (ab_mem 631 (by decide +kernel) rfl), (by decide +kernel), (by decide +kernel), (by decide +kernel)⟩
theorem v_X3_does : ab_vi yX3_does cX3_does 4 (some .boolean) 3 := ⟨(ab_mem 636 (by decide +kernel) rfl), (ab_mem 9 (by decide +kernel) rfl), (ab_mem 44 (by decide +kernel) rfl), (ab_mem 637 (by decide +kernel) rfl), (by decide +kernel), (by decide +kernel), (by decide +kernel)⟩
theorem v_X3_doesPlain : ab_vi yX3_doesPlain cX3_doesPlain 4 (some .boolean) 2 := ⟨(ab_mem 640 (by decide +kernel) rfl), (ab_mem 10 (by decide +kernel) rfl), (ab_mem 44 (by decide +kernel) rfl), (ab_mem 641 (by decide +kernel) rfl), (by decide +kernel), (by decide +kernel), (by decide +kernel)⟩
theorem v_X3_lossOverOrders : ab_vi yX3_lossOverOrders cX3_lossOverOrders 7 (some .int) 1 := ⟨(ab_mem 655 (by decide +kernel) rfl), (ab_mem 656 (by decide +kernel) rfl), (ab_mem 44 (by decide +kernel) rfl), (ab_mem 657 (by decide +kernel) rfl), (by decide +kernel), (by decide +kernel), (by decide +kernel)⟩
theorem v_X3_mileOfSome : ab_vi yX3_mileOfSome cX3_mileOfSome 2 (some .int) 1 := ⟨(ab_mem 667 (by decide +kernel) rfl), (ab_mem 11 (by decide +kernel) rfl), (ab_mem 44 (by decide +kernel) rfl), (ab_mem 668 (by decide +kernel) rfl), (by decide +kernel), (by decide +kernel), (by decide +kernel)⟩
theorem v_X4_count : ab_vi yX4_count cX4_count 1 (some .int) 0 := ⟨(ab_mem 331 (by decide +kernel) rfl), (ab_mem 332 (by decide +kernel) rfl), (ab_mem 40 (by decide +kernel) rfl), (ab_mem 333 (by decide +kernel) rfl), (by decide +kernel), (by decide +kernel), (by decide +kernel)⟩
theorem v_X4_end : ab_vi yX4_end cX4_end 1 (some .int) 0 := ⟨(ab_mem 343 (by decide +kernel) rfl), (ab_mem 344 (by decide +kernel) rfl), (ab_mem 40 (by decide +kernel) rfl), (ab_mem 345 (by decide +kernel) rfl), (by decide +kernel), (by decide +kernel), (by decide +kernel)⟩
theorem v_X4_empty : ab_vi yX4_empty cX4_empty 1 none 0 := ⟨(ab_mem 299 (by decide +kernel) rfl), (ab_mem 300 (by decide +kernel) rfl), (ab_mem 40 (by decide +kernel) rfl), (ab_mem 301 (by decide +kernel) rfl), (by decide +kernel), (by decide +kernel), (by decide +kernel)⟩
theorem v_X4_add : ab_vi yX4_add cX4_add 4 none 2 := ⟨(ab_mem 307 (by decide +kernel) rfl), (ab_mem 308 (by decide +kernel) rfl), (ab_mem 40 (by decide +kernel) rfl), (ab_mem 309 (by decide +kernel) rfl), (by decide +kernel), (by decide +kernel), (by decide +kernel)⟩
theorem v_X4_has : ab_vi yX4_has cX4_has 2 (some .boolean) 1 := ⟨(ab_mem 415 (by decide +kernel) rfl), (ab_mem 416 (by decide +kernel) rfl), (ab_mem 40 (by decide +kernel) rfl), (ab_mem 417 (by decide +kernel) rfl), (by decide +kernel), (by decide +kernel), (by decide +kernel)⟩
theorem v_X4_milesOf : ab_vi yX4_milesOf cX4_milesOf 2 (some .int) 1 := ⟨(ab_mem 419 (by decide +kernel) rfl), (ab_mem 420 (by decide +kernel) rfl), (ab_mem 40 (by decide +kernel) rfl), (ab_mem 421 (by decide +kernel) rfl), (by decide +kernel), (by decide +kernel), (by decide +kernel)⟩
theorem v_X4_groundOf : ab_vi yX4_groundOf cX4_groundOf 2 (some .int) 1 := ⟨(ab_mem 424 (by decide +kernel) rfl), (ab_mem 425 (by decide +kernel) rfl), (ab_mem 40 (by decide +kernel) rfl), (ab_mem 426 (by decide +kernel) rfl), (by decide +kernel), (by decide +kernel), (by decide +kernel)⟩
theorem v_X4_beginOf : ab_vi yX4_beginOf cX4_beginOf 2 (some .int) 1 := ⟨(ab_mem 428 (by decide +kernel) rfl), (ab_mem 429 (by decide +kernel) rfl), (ab_mem 40 (by decide +kernel) rfl), (ab_mem 430 (by decide +kernel) rfl), (by decide +kernel), (by decide +kernel), (by decide +kernel)⟩
theorem v_X4_stretchAt : ab_vi yX4_stretchAt cX4_stretchAt 2 (some .int) 1 := ⟨(ab_mem 386 (by decide +kernel) rfl), (ab_mem 387 (by decide +kernel) rfl), (ab_mem 40 (by decide +kernel) rfl), (ab_mem 388 (by decide +kernel) rfl), (by decide +kernel), (by decide +kernel), (by decide +kernel)⟩
theorem v_X5_size : ab_vi yX5_size cX5_size 1 (some .int) 0 := ⟨(ab_mem 247 (by decide +kernel) rfl), (ab_mem 248 (by decide +kernel) rfl), (ab_mem 39 (by decide +kernel) rfl), (ab_mem 249 (by decide +kernel) rfl), (by decide +kernel), (by decide +kernel), (by decide +kernel)⟩
theorem v_X5_empty : ab_vi yX5_empty cX5_empty 1 none 0 := ⟨(ab_mem 259 (by decide +kernel) rfl), (ab_mem 260 (by decide +kernel) rfl), (ab_mem 39 (by decide +kernel) rfl), (ab_mem 261 (by decide +kernel) rfl), (by decide +kernel), (by decide +kernel), (by decide +kernel)⟩
theorem v_X5_append : ab_vi yX5_append cX5_append 2 none 1 := ⟨(ab_mem 251 (by decide +kernel) rfl), (ab_mem 252 (by decide +kernel) rfl), (ab_mem 39 (by decide +kernel) rfl), (ab_mem 253 (by decide +kernel) rfl), (by decide +kernel), (by decide +kernel), (by decide +kernel)⟩
theorem v_X5_letterAt : ab_vi yX5_letterAt cX5_letterAt 2 (some .int) 1 := ⟨(ab_mem 272 (by decide +kernel) rfl), (ab_mem 0 (by decide +kernel) rfl), (ab_mem 39 (by decide +kernel) rfl), (ab_mem 273 (by decide +kernel) rfl), (by decide +kernel), (by decide +kernel), (by decide +kernel)⟩
theorem v_X5_figureAt : ab_vi yX5_figureAt cX5_figureAt 2 (some .int) 1 := ⟨(ab_mem 284 (by decide +kernel) rfl), (ab_mem 2 (by decide +kernel) rfl), (ab_mem 39 (by decide +kernel) rfl), (ab_mem 285 (by decide +kernel) rfl), (by decide +kernel), (by decide +kernel), (by decide +kernel)⟩
theorem v_X5_faultPlace : ab_vi yX5_faultPlace cX5_faultPlace 7 (some .int) 0 := ⟨(ab_mem 267 (by decide +kernel) rfl), (ab_mem 268 (by decide +kernel) rfl), (ab_mem 39 (by decide +kernel) rfl), (ab_mem 269 (by decide +kernel) rfl), (by decide +kernel), (by decide +kernel), (by decide +kernel)⟩
theorem v_X5_misfitFrom : ab_vi yX5_misfitFrom cX5_misfitFrom 6 (some .int) 3 := ⟨(ab_mem 280 (by decide +kernel) rfl), (ab_mem 1 (by decide +kernel) rfl), (ab_mem 39 (by decide +kernel) rfl), (ab_mem 281 (by decide +kernel) rfl), (by decide +kernel), (by decide +kernel), (by decide +kernel)⟩
theorem v_X5_tell : ab_vi yX5_tell cX5_tell 5 none 2 := ⟨(ab_mem 295 (by decide +kernel) rfl), (ab_mem 296 (by decide +kernel) rfl), (ab_mem 39 (by decide +kernel) rfl), (ab_mem 297 (by decide +kernel) rfl), (by decide +kernel), (by decide +kernel), (by decide +kernel)⟩
theorem v_X6_count : ab_vi yX6_count cX6_count 1 (some .int) 0 := ⟨(ab_mem 398 (by decide +kernel) rfl), (ab_mem 399 (by decide +kernel) rfl), (ab_mem 46 (by decide +kernel) rfl), (ab_mem 400 (by decide +kernel) rfl), (by decide +kernel), (by decide +kernel), (by decide +kernel)⟩
theorem v_X6_forgetAll : ab_vi yX6_forgetAll cX6_forgetAll 1 none 0 := ⟨(ab_mem 700 (by decide +kernel) rfl), (ab_mem 701 (by decide +kernel) rfl), (ab_mem 46 (by decide +kernel) rfl), (ab_mem 702 (by decide +kernel) rfl), (by decide +kernel), (by decide +kernel), (by decide +kernel)⟩
theorem v_X6_add : ab_vi yX6_add cX6_add 4 none 3 := ⟨(ab_mem 692 (by decide +kernel) rfl), (ab_mem 693 (by decide +kernel) rfl), (ab_mem 46 (by decide +kernel) rfl), (ab_mem 694 (by decide +kernel) rfl), (by decide +kernel), (by decide +kernel), (by decide +kernel)⟩
theorem v_X6_fits : ab_vi yX6_fits cX6_fits 5 (some .boolean) 2 := ⟨(ab_mem 713 (by decide +kernel) rfl), (ab_mem 12 (by decide +kernel) rfl), (ab_mem 46 (by decide +kernel) rfl), (ab_mem 714 (by decide +kernel) rfl), (by decide +kernel), (by decide +kernel), (by decide +kernel)⟩
theorem v_X6_fittingCount : ab_vi yX6_fittingCount cX6_fittingCount 4 (some .int) 0 := ⟨(ab_mem 708 (by decide +kernel) rfl), (ab_mem 709 (by decide +kernel) rfl), (ab_mem 46 (by decide +kernel) rfl), (ab_mem 710 (by decide +kernel) rfl), (by decide +kernel), (by decide +kernel), (by decide +kernel)⟩
theorem v_X6_firstFitting : ab_vi yX6_firstFitting cX6_firstFitting 3 (some .int) 0 := ⟨(ab_mem 717 (by decide +kernel) rfl), (ab_mem 718 (by decide +kernel) rfl), (ab_mem 46 (by decide +kernel) rfl), (ab_mem 719 (by decide +kernel) rfl), (by decide +kernel), (by decide +kernel), (by decide +kernel)⟩
theorem v_X7_count : ab_vi yX7_count cX7_count 1 (some .int) 0 := ⟨(ab_mem 335 (by decide +kernel) rfl), (ab_mem 336 (by decide +kernel) rfl), (ab_mem 41 (by decide +kernel) rfl), (ab_mem 337 (by decide +kernel) rfl), (by decide +kernel), (by decide +kernel), (by decide +kernel)⟩
theorem v_X7_empty : ab_vi yX7_empty cX7_empty 1 none 0 := ⟨(ab_mem 303 (by decide +kernel) rfl), (ab_mem 304 (by decide +kernel) rfl), (ab_mem 41 (by decide +kernel) rfl), (ab_mem 305 (by decide +kernel) rfl), (by decide +kernel), (by decide +kernel), (by decide +kernel)⟩
theorem v_X7_add : ab_vi yX7_add cX7_add 4 none 3 := ⟨(ab_mem 311 (by decide +kernel) rfl), (ab_mem 312 (by decide +kernel) rfl), (ab_mem 41 (by decide +kernel) rfl), (ab_mem 313 (by decide +kernel) rfl), (by decide +kernel), (by decide +kernel), (by decide +kernel)⟩
theorem v_X7_has : ab_vi yX7_has cX7_has 2 (some .boolean) 1 := ⟨(ab_mem 323 (by decide +kernel) rfl), (ab_mem 324 (by decide +kernel) rfl), (ab_mem 41 (by decide +kernel) rfl), (ab_mem 325 (by decide +kernel) rfl), (by decide +kernel), (by decide +kernel), (by decide +kernel)⟩
theorem v_X7_paceOf : ab_vi yX7_paceOf cX7_paceOf 2 (some .int) 1 := ⟨(ab_mem 360 (by decide +kernel) rfl), (ab_mem 361 (by decide +kernel) rfl), (ab_mem 41 (by decide +kernel) rfl), (ab_mem 362 (by decide +kernel) rfl), (by decide +kernel), (by decide +kernel), (by decide +kernel)⟩
theorem v_X7_kindOf : ab_vi yX7_kindOf cX7_kindOf 2 (some .int) 1 := ⟨(ab_mem 364 (by decide +kernel) rfl), (ab_mem 365 (by decide +kernel) rfl), (ab_mem 41 (by decide +kernel) rfl), (ab_mem 366 (by decide +kernel) rfl), (by decide +kernel), (by decide +kernel), (by decide +kernel)⟩
theorem v_X7_toldThornsOf : ab_vi yX7_toldThornsOf cX7_toldThornsOf 2 (some .int) 1 := ⟨(ab_mem 319 (by decide +kernel) rfl), (ab_mem 320 (by decide +kernel) rfl), (ab_mem 41 (by decide +kernel) rfl), (ab_mem 321 (by decide +kernel) rfl), (by decide +kernel), (by decide +kernel), (by decide +kernel)⟩
theorem v_X8_write : ab_vi yX8_write cX8_write 2 (some .int) 1 := ⟨(ab_mem 243 (by decide +kernel) rfl), (ab_mem 244 (by decide +kernel) rfl), (ab_mem 38 (by decide +kernel) rfl), (ab_mem 245 (by decide +kernel) rfl), (by decide +kernel), (by decide +kernel), (by decide +kernel)⟩
theorem v_X8_wipe : ab_vi yX8_wipe cX8_wipe 2 (some .int) 0 := ⟨(ab_mem 255 (by decide +kernel) rfl), (ab_mem 256 (by decide +kernel) rfl), (ab_mem 38 (by decide +kernel) rfl), (ab_mem 257 (by decide +kernel) rfl), (by decide +kernel), (by decide +kernel), (by decide +kernel)⟩
theorem v_X8_fault : ab_vi yX8_fault cX8_fault 1 (some .int) 0 := ⟨(ab_mem 263 (by decide +kernel) rfl), (ab_mem 264 (by decide +kernel) rfl), (ab_mem 38 (by decide +kernel) rfl), (ab_mem 265 (by decide +kernel) rfl), (by decide +kernel), (by decide +kernel), (by decide +kernel)⟩
theorem v_X8_army : ab_vi yX8_army cX8_army 2 (some .int) 0 := ⟨(ab_mem 291 (by decide +kernel) rfl), (ab_mem 292 (by decide +kernel) rfl), (ab_mem 38 (by decide +kernel) rfl), (ab_mem 293 (by decide +kernel) rfl), (by decide +kernel), (by decide +kernel), (by decide +kernel)⟩
theorem v_X8_about : ab_vi yX8_about cX8_about 2 (some .int) 1 := ⟨(ab_mem 339 (by decide +kernel) rfl), (ab_mem 340 (by decide +kernel) rfl), (ab_mem 38 (by decide +kernel) rfl), (ab_mem 341 (by decide +kernel) rfl), (by decide +kernel), (by decide +kernel), (by decide +kernel)⟩
theorem v_X8_man : ab_vi yX8_man cX8_man 3 (some .int) 2 := ⟨(ab_mem 402 (by decide +kernel) rfl), (ab_mem 403 (by decide +kernel) rfl), (ab_mem 38 (by decide +kernel) rfl), (ab_mem 404 (by decide +kernel) rfl), (by decide +kernel), (by decide +kernel), (by decide +kernel)⟩
theorem v_X8_stretch : ab_vi yX8_stretch cX8_stretch 3 (some .int) 2 := ⟨(ab_mem 411 (by decide +kernel) rfl), (ab_mem 412 (by decide +kernel) rfl), (ab_mem 38 (by decide +kernel) rfl), (ab_mem 413 (by decide +kernel) rfl), (by decide +kernel), (by decide +kernel), (by decide +kernel)⟩
theorem v_X8_day : ab_vi yX8_day cX8_day 1 (some .int) 0 := ⟨(ab_mem 432 (by decide +kernel) rfl), (ab_mem 433 (by decide +kernel) rfl), (ab_mem 38 (by decide +kernel) rfl), (ab_mem 434 (by decide +kernel) rfl), (by decide +kernel), (by decide +kernel), (by decide +kernel)⟩
theorem v_X8_halt : ab_vi yX8_halt cX8_halt 1 (some .int) 0 := ⟨(ab_mem 477 (by decide +kernel) rfl), (ab_mem 478 (by decide +kernel) rfl), (ab_mem 38 (by decide +kernel) rfl), (ab_mem 479 (by decide +kernel) rfl), (by decide +kernel), (by decide +kernel), (by decide +kernel)⟩
theorem v_X8_gravel : ab_vi yX8_gravel cX8_gravel 2 (some .int) 1 := ⟨(ab_mem 485 (by decide +kernel) rfl), (ab_mem 486 (by decide +kernel) rfl), (ab_mem 38 (by decide +kernel) rfl), (ab_mem 487 (by decide +kernel) rfl), (by decide +kernel), (by decide +kernel), (by decide +kernel)⟩
theorem v_X8_pull : ab_vi yX8_pull cX8_pull 2 (some .int) 1 := ⟨(ab_mem 494 (by decide +kernel) rfl), (ab_mem 495 (by decide +kernel) rfl), (ab_mem 38 (by decide +kernel) rfl), (ab_mem 496 (by decide +kernel) rfl), (by decide +kernel), (by decide +kernel), (by decide +kernel)⟩
theorem v_X8_undo : ab_vi yX8_undo cX8_undo 1 (some .int) 0 := ⟨(ab_mem 506 (by decide +kernel) rfl), (ab_mem 507 (by decide +kernel) rfl), (ab_mem 38 (by decide +kernel) rfl), (ab_mem 508 (by decide +kernel) rfl), (by decide +kernel), (by decide +kernel), (by decide +kernel)⟩
theorem v_X8_later : ab_vi yX8_later cX8_later 3 (some .int) 2 := ⟨(ab_mem 520 (by decide +kernel) rfl), (ab_mem 521 (by decide +kernel) rfl), (ab_mem 38 (by decide +kernel) rfl), (ab_mem 522 (by decide +kernel) rfl), (by decide +kernel), (by decide +kernel), (by decide +kernel)⟩
theorem v_X8_comes : ab_vi yX8_comes cX8_comes 1 (some .int) 0 := ⟨(ab_mem 546 (by decide +kernel) rfl), (ab_mem 547 (by decide +kernel) rfl), (ab_mem 38 (by decide +kernel) rfl), (ab_mem 548 (by decide +kernel) rfl), (by decide +kernel), (by decide +kernel), (by decide +kernel)⟩
theorem v_X8_leads : ab_vi yX8_leads cX8_leads 2 (some .int) 1 := ⟨(ab_mem 558 (by decide +kernel) rfl), (ab_mem 559 (by decide +kernel) rfl), (ab_mem 38 (by decide +kernel) rfl), (ab_mem 560 (by decide +kernel) rfl), (by decide +kernel), (by decide +kernel), (by decide +kernel)⟩
theorem v_X8_cure : ab_vi yX8_cure cX8_cure 2 (some .int) 1 := ⟨(ab_mem 567 (by decide +kernel) rfl), (ab_mem 568 (by decide +kernel) rfl), (ab_mem 38 (by decide +kernel) rfl), (ab_mem 569 (by decide +kernel) rfl), (by decide +kernel), (by decide +kernel), (by decide +kernel)⟩
theorem v_X8_plan : ab_vi yX8_plan cX8_plan 4 (some .int) 2 := ⟨(ab_mem 585 (by decide +kernel) rfl), (ab_mem 586 (by decide +kernel) rfl), (ab_mem 38 (by decide +kernel) rfl), (ab_mem 587 (by decide +kernel) rfl), (by decide +kernel), (by decide +kernel), (by decide +kernel)⟩
theorem v_X8_judge : ab_vi yX8_judge cX8_judge 4 (some .int) 2 := ⟨(ab_mem 623 (by decide +kernel) rfl), (ab_mem 624 (by decide +kernel) rfl), (ab_mem 38 (by decide +kernel) rfl), (ab_mem 625 (by decide +kernel) rfl), (by decide +kernel), (by decide +kernel), (by decide +kernel)⟩
theorem v_X8_share : ab_vi yX8_share cX8_share 4 (some .int) 2 := ⟨(ab_mem 646 (by decide +kernel) rfl), (ab_mem 647 (by decide +kernel) rfl), (ab_mem 38 (by decide +kernel) rfl), (ab_mem 648 (by decide +kernel) rfl), (by decide +kernel), (by decide +kernel), (by decide +kernel)⟩
theorem v_X8_attempt : ab_vi yX8_attempt cX8_attempt 4 (some .int) 3 := ⟨(ab_mem 688 (by decide +kernel) rfl), (ab_mem 689 (by decide +kernel) rfl), (ab_mem 38 (by decide +kernel) rfl), (ab_mem 690 (by decide +kernel) rfl), (by decide +kernel), (by decide +kernel), (by decide +kernel)⟩
theorem v_X8_unattempt : ab_vi yX8_unattempt cX8_unattempt 2 (some .int) 0 := ⟨(ab_mem 696 (by decide +kernel) rfl), (ab_mem 697 (by decide +kernel) rfl), (ab_mem 38 (by decide +kernel) rfl), (ab_mem 698 (by decide +kernel) rfl), (by decide +kernel), (by decide +kernel), (by decide +kernel)⟩
theorem v_X8_paces : ab_vi yX8_paces cX8_paces 2 (some .int) 1 := ⟨(ab_mem 704 (by decide +kernel) rfl), (ab_mem 705 (by decide +kernel) rfl), (ab_mem 38 (by decide +kernel) rfl), (ab_mem 706 (by decide +kernel) rfl), (by decide +kernel), (by decide +kernel), (by decide +kernel)⟩
theorem v_X8_rests : ab_vi yX8_rests cX8_rests 4 (some .int) 3 := ⟨(ab_mem 721 (by decide +kernel) rfl), (ab_mem 722 (by decide +kernel) rfl), (ab_mem 38 (by decide +kernel) rfl), (ab_mem 723 (by decide +kernel) rfl), (by decide +kernel), (by decide +kernel), (by decide +kernel)⟩
theorem v_X8_thorny : ab_vi yX8_thorny cX8_thorny 5 (some .int) 3 := ⟨(ab_mem 746 (by decide +kernel) rfl), (ab_mem 747 (by decide +kernel) rfl), (ab_mem 38 (by decide +kernel) rfl), (ab_mem 748 (by decide +kernel) rfl), (by decide +kernel), (by decide +kernel), (by decide +kernel)⟩
theorem v_X8_seed : ab_vi yX8_seed cX8_seed 5 (some .long) 1 := ⟨(ab_mem 763 (by decide +kernel) rfl), (ab_mem 764 (by decide +kernel) rfl), (ab_mem 38 (by decide +kernel) rfl), (ab_mem 765 (by decide +kernel) rfl), (by decide +kernel), (by decide +kernel), (by decide +kernel)⟩
theorem v_X8_campaigns : ab_vi yX8_campaigns cX8_campaigns 4 (some .int) 1 := ⟨(ab_mem 767 (by decide +kernel) rfl), (ab_mem 768 (by decide +kernel) rfl), (ab_mem 38 (by decide +kernel) rfl), (ab_mem 769 (by decide +kernel) rfl), (by decide +kernel), (by decide +kernel), (by decide +kernel)⟩
theorem v_X8_keep : ab_vi yX8_keep cX8_keep 2 (some .int) 1 := ⟨(ab_mem 785 (by decide +kernel) rfl), (ab_mem 786 (by decide +kernel) rfl), (ab_mem 38 (by decide +kernel) rfl), (ab_mem 787 (by decide +kernel) rfl), (by decide +kernel), (by decide +kernel), (by decide +kernel)⟩
theorem v_X8_again : ab_vi yX8_again cX8_again 2 (some .int) 1 := ⟨(ab_mem 789 (by decide +kernel) rfl), (ab_mem 790 (by decide +kernel) rfl), (ab_mem 38 (by decide +kernel) rfl), (ab_mem 791 (by decide +kernel) rfl), (by decide +kernel), (by decide +kernel), (by decide +kernel)⟩
theorem v_X8_isChoice : ab_vs yX8_isChoice cX8_isChoice 1 (some .boolean) 1 := ⟨(ab_mem 524 (by decide +kernel) rfl), (ab_mem 38 (by decide +kernel) rfl), (ab_mem 525 (by decide +kernel) rfl), (by decide +kernel), (by decide +kernel), (by decide +kernel)⟩
theorem v_X8_factorial : ab_vs yX8_factorial cX8_factorial 1 (some .int) 1 := ⟨(ab_mem 650 (by decide +kernel) rfl), (ab_mem 38 (by decide +kernel) rfl), (ab_mem 651 (by decide +kernel) rfl), (by decide +kernel), (by decide +kernel), (by decide +kernel)⟩
theorem v_X8_power : ab_vs yX8_power cX8_power 4 (some .int) 2 := ⟨(ab_mem 593 (by decide +kernel) rfl), (ab_mem 38 (by decide +kernel) rfl), (ab_mem 594 (by decide +kernel) rfl), (by decide +kernel), (by decide +kernel), (by decide +kernel)⟩
theorem v_X8_speedBy : ab_vs yX8_speedBy cX8_speedBy 5 (some .int) 3 := ⟨(ab_mem 368 (by decide +kernel) rfl), (ab_mem 38 (by decide +kernel) rfl), (ab_mem 369 (by decide +kernel) rfl), (by decide +kernel), (by decide +kernel), (by decide +kernel)⟩
theorem v_X8_termOf : ab_vs yX8_termOf cX8_termOf 4 (some .int) 3 := ⟨(ab_mem 679 (by decide +kernel) rfl), (ab_mem 38 (by decide +kernel) rfl), (ab_mem 680 (by decide +kernel) rfl), (by decide +kernel), (by decide +kernel), (by decide +kernel)⟩
theorem v_X8_commonDivisor : ab_vs yX8_commonDivisor cX8_commonDivisor 6 (some .int) 2 := ⟨(ab_mem 685 (by decide +kernel) rfl), (ab_mem 38 (by decide +kernel) rfl), (ab_mem 686 (by decide +kernel) rfl), (by decide +kernel), (by decide +kernel), (by decide +kernel)⟩
theorem v_X9_in : ab_vs yX9_in cX9_in 6 (some .boolean) 3 := ⟨(ab_mem 913 (by decide +kernel) rfl), (ab_mem 47 (by decide +kernel) rfl), (ab_mem 914 (by decide +kernel) rfl), (by decide +kernel), (by decide +kernel), (by decide +kernel)⟩
theorem v_X9_has : ab_vs yX9_has cX9_has 2 (some .boolean) 2 := ⟨(ab_mem 956 (by decide +kernel) rfl), (ab_mem 47 (by decide +kernel) rfl), (ab_mem 957 (by decide +kernel) rfl), (by decide +kernel), (by decide +kernel), (by decide +kernel)⟩
theorem v_X9_many : ab_vs yX9_many cX9_many 3 (some .int) 1 := ⟨(ab_mem 1098 (by decide +kernel) rfl), (ab_mem 47 (by decide +kernel) rfl), (ab_mem 1099 (by decide +kernel) rfl), (by decide +kernel), (by decide +kernel), (by decide +kernel)⟩
theorem v_X9_power : ab_vs yX9_power cX9_power 4 (some .int) 2 := ⟨(ab_mem 1066 (by decide +kernel) rfl), (ab_mem 47 (by decide +kernel) rfl), (ab_mem 1067 (by decide +kernel) rfl), (by decide +kernel), (by decide +kernel), (by decide +kernel)⟩
theorem v_X9_noMan : ab_vi yX9_noMan cX9_noMan 2 (some .boolean) 1 := ⟨(ab_mem 982 (by decide +kernel) rfl), (ab_mem 24 (by decide +kernel) rfl), (ab_mem 47 (by decide +kernel) rfl), (ab_mem 983 (by decide +kernel) rfl), (by decide +kernel), (by decide +kernel), (by decide +kernel)⟩
theorem v_X9_write : ab_vi yX9_write cX9_write 2 (some .int) 1 := ⟨(ab_mem 908 (by decide +kernel) rfl), (ab_mem 909 (by decide +kernel) rfl), (ab_mem 47 (by decide +kernel) rfl), (ab_mem 910 (by decide +kernel) rfl), (by decide +kernel), (by decide +kernel), (by decide +kernel)⟩
theorem v_X9_wipe : ab_vi yX9_wipe cX9_wipe 2 (some .int) 0 := ⟨(ab_mem 916 (by decide +kernel) rfl), (ab_mem 917 (by decide +kernel) rfl), (ab_mem 47 (by decide +kernel) rfl), (ab_mem 918 (by decide +kernel) rfl), (by decide +kernel), (by decide +kernel), (by decide +kernel)⟩
theorem v_X9_figure : ab_vi yX9_figure cX9_figure 3 (some .int) 2 := ⟨(ab_mem 937 (by decide +kernel) rfl), (ab_mem 18 (by decide +kernel) rfl), (ab_mem 47 (by decide +kernel) rfl), (ab_mem 938 (by decide +kernel) rfl), (by decide +kernel), (by decide +kernel), (by decide +kernel)⟩
theorem v_X9_readOneStretch : ab_vi yX9_readOneStretch cX9_readOneStretch 3 (some .boolean) 0 := ⟨(ab_mem 933 (by decide +kernel) rfl), (ab_mem 17 (by decide +kernel) rfl), (ab_mem 47 (by decide +kernel) rfl), (ab_mem 934 (by decide +kernel) rfl), (by decide +kernel), (by decide +kernel), (by decide +kernel)⟩
theorem v_X9_readOneMan : ab_vi yX9_readOneMan cX9_readOneMan 4 (some .boolean) 0 := ⟨(ab_mem 941 (by decide +kernel) rfl), (ab_mem 19 (by decide +kernel) rfl), (ab_mem 47 (by decide +kernel) rfl), (ab_mem 942 (by decide +kernel) rfl), (by decide +kernel), (by decide +kernel), (by decide +kernel)⟩
theorem v_X9_readThing : ab_vi yX9_readThing cX9_readThing 2 (some .boolean) 0 := ⟨(ab_mem 929 (by decide +kernel) rfl), (ab_mem 16 (by decide +kernel) rfl), (ab_mem 47 (by decide +kernel) rfl), (ab_mem 930 (by decide +kernel) rfl), (by decide +kernel), (by decide +kernel), (by decide +kernel)⟩
theorem v_X9_readArmy : ab_vi yX9_readArmy cX9_readArmy 1 (some .int) 0 := ⟨(ab_mem 925 (by decide +kernel) rfl), (ab_mem 15 (by decide +kernel) rfl), (ab_mem 47 (by decide +kernel) rfl), (ab_mem 926 (by decide +kernel) rfl), (by decide +kernel), (by decide +kernel), (by decide +kernel)⟩
theorem v_X9_fault : ab_vi yX9_fault cX9_fault 1 (some .int) 0 := ⟨(ab_mem 920 (by decide +kernel) rfl), (ab_mem 921 (by decide +kernel) rfl), (ab_mem 47 (by decide +kernel) rfl), (ab_mem 922 (by decide +kernel) rfl), (by decide +kernel), (by decide +kernel), (by decide +kernel)⟩
theorem v_X9_army : ab_vi yX9_army cX9_army 2 (some .int) 0 := ⟨(ab_mem 944 (by decide +kernel) rfl), (ab_mem 945 (by decide +kernel) rfl), (ab_mem 47 (by decide +kernel) rfl), (ab_mem 946 (by decide +kernel) rfl), (by decide +kernel), (by decide +kernel), (by decide +kernel)⟩
theorem v_X9_speedBy : ab_vs yX9_speedBy cX9_speedBy 4 (some .int) 3 := ⟨(ab_mem 963 (by decide +kernel) rfl), (ab_mem 47 (by decide +kernel) rfl), (ab_mem 964 (by decide +kernel) rfl), (by decide +kernel), (by decide +kernel), (by decide +kernel)⟩
theorem v_X9_speed : ab_vi yX9_speed cX9_speed 3 (some .int) 2 := ⟨(ab_mem 960 (by decide +kernel) rfl), (ab_mem 21 (by decide +kernel) rfl), (ab_mem 47 (by decide +kernel) rfl), (ab_mem 961 (by decide +kernel) rfl), (by decide +kernel), (by decide +kernel), (by decide +kernel)⟩
theorem v_X9_leader : ab_vi yX9_leader cX9_leader 5 (some .int) 2 := ⟨(ab_mem 953 (by decide +kernel) rfl), (ab_mem 20 (by decide +kernel) rfl), (ab_mem 47 (by decide +kernel) rfl), (ab_mem 954 (by decide +kernel) rfl), (by decide +kernel), (by decide +kernel), (by decide +kernel)⟩
theorem v_X9_begins : ab_vi yX9_begins cX9_begins 4 (some .int) 1 := ⟨(ab_mem 971 (by decide +kernel) rfl), (ab_mem 23 (by decide +kernel) rfl), (ab_mem 47 (by decide +kernel) rfl), (ab_mem 972 (by decide +kernel) rfl), (by decide +kernel), (by decide +kernel), (by decide +kernel)⟩
theorem v_X9_stretchAt : ab_vi yX9_stretchAt cX9_stretchAt 4 (some .int) 1 := ⟨(ab_mem 967 (by decide +kernel) rfl), (ab_mem 22 (by decide +kernel) rfl), (ab_mem 47 (by decide +kernel) rfl), (ab_mem 968 (by decide +kernel) rfl), (by decide +kernel), (by decide +kernel), (by decide +kernel)⟩
theorem v_X9_heal : ab_vi yX9_heal cX9_heal 3 none 1 := ⟨(ab_mem 1005 (by decide +kernel) rfl), (ab_mem 27 (by decide +kernel) rfl), (ab_mem 47 (by decide +kernel) rfl), (ab_mem 1006 (by decide +kernel) rfl), (by decide +kernel), (by decide +kernel), (by decide +kernel)⟩
theorem v_X9_prick : ab_vs yX9_prick cX9_prick 2 none 2 := ⟨(ab_mem 1001 (by decide +kernel) rfl), (ab_mem 47 (by decide +kernel) rfl), (ab_mem 1002 (by decide +kernel) rfl), (by decide +kernel), (by decide +kernel), (by decide +kernel)⟩
theorem v_X9_goDay : ab_vi yX9_goDay cX9_goDay 8 (some .int) 2 := ⟨(ab_mem 998 (by decide +kernel) rfl), (ab_mem 26 (by decide +kernel) rfl), (ab_mem 47 (by decide +kernel) rfl), (ab_mem 999 (by decide +kernel) rfl), (by decide +kernel), (by decide +kernel), (by decide +kernel)⟩
theorem v_X9_allThorns : ab_vs yX9_allThorns cX9_allThorns 1 (some .int) 1 := ⟨(ab_mem 974 (by decide +kernel) rfl), (ab_mem 47 (by decide +kernel) rfl), (ab_mem 975 (by decide +kernel) rfl), (by decide +kernel), (by decide +kernel), (by decide +kernel)⟩
theorem v_X9_goHalt : ab_vi yX9_goHalt cX9_goHalt 2 (some .int) 1 := ⟨(ab_mem 1013 (by decide +kernel) rfl), (ab_mem 28 (by decide +kernel) rfl), (ab_mem 47 (by decide +kernel) rfl), (ab_mem 1014 (by decide +kernel) rfl), (by decide +kernel), (by decide +kernel), (by decide +kernel)⟩
theorem v_X9_about : ab_vi yX9_about cX9_about 3 (some .int) 1 := ⟨(ab_mem 948 (by decide +kernel) rfl), (ab_mem 949 (by decide +kernel) rfl), (ab_mem 47 (by decide +kernel) rfl), (ab_mem 950 (by decide +kernel) rfl), (by decide +kernel), (by decide +kernel), (by decide +kernel)⟩
theorem v_X9_man : ab_vi yX9_man cX9_man 3 (some .int) 2 := ⟨(ab_mem 977 (by decide +kernel) rfl), (ab_mem 978 (by decide +kernel) rfl), (ab_mem 47 (by decide +kernel) rfl), (ab_mem 979 (by decide +kernel) rfl), (by decide +kernel), (by decide +kernel), (by decide +kernel)⟩
theorem v_X9_stretch : ab_vi yX9_stretch cX9_stretch 3 (some .int) 2 := ⟨(ab_mem 985 (by decide +kernel) rfl), (ab_mem 986 (by decide +kernel) rfl), (ab_mem 47 (by decide +kernel) rfl), (ab_mem 987 (by decide +kernel) rfl), (by decide +kernel), (by decide +kernel), (by decide +kernel)⟩
theorem v_X9_note : ab_vi yX9_note cX9_note 2 none 0 := ⟨(ab_mem 994 (by decide +kernel) rfl), (ab_mem 25 (by decide +kernel) rfl), (ab_mem 47 (by decide +kernel) rfl), (ab_mem 995 (by decide +kernel) rfl), (by decide +kernel), (by decide +kernel), (by decide +kernel)⟩
theorem v_X9_day : ab_vi yX9_day cX9_day 1 (some .int) 0 := ⟨(ab_mem 989 (by decide +kernel) rfl), (ab_mem 990 (by decide +kernel) rfl), (ab_mem 47 (by decide +kernel) rfl), (ab_mem 991 (by decide +kernel) rfl), (by decide +kernel), (by decide +kernel), (by decide +kernel)⟩
theorem v_X9_halt : ab_vi yX9_halt cX9_halt 1 (some .int) 0 := ⟨(ab_mem 1008 (by decide +kernel) rfl), (ab_mem 1009 (by decide +kernel) rfl), (ab_mem 47 (by decide +kernel) rfl), (ab_mem 1010 (by decide +kernel) rfl), (by decide +kernel), (by decide +kernel), (by decide +kernel)⟩
theorem v_X9_gravel : ab_vi yX9_gravel cX9_gravel 2 (some .int) 1 := ⟨(ab_mem 1016 (by decide +kernel) rfl), (ab_mem 1017 (by decide +kernel) rfl), (ab_mem 47 (by decide +kernel) rfl), (ab_mem 1018 (by decide +kernel) rfl), (by decide +kernel), (by decide +kernel), (by decide +kernel)⟩
theorem v_X9_pull : ab_vi yX9_pull cX9_pull 2 (some .int) 1 := ⟨(ab_mem 1020 (by decide +kernel) rfl), (ab_mem 1021 (by decide +kernel) rfl), (ab_mem 47 (by decide +kernel) rfl), (ab_mem 1022 (by decide +kernel) rfl), (by decide +kernel), (by decide +kernel), (by decide +kernel)⟩
theorem v_X9_undo : ab_vi yX9_undo cX9_undo 2 (some .int) 0 := ⟨(ab_mem 1024 (by decide +kernel) rfl), (ab_mem 1025 (by decide +kernel) rfl), (ab_mem 47 (by decide +kernel) rfl), (ab_mem 1026 (by decide +kernel) rfl), (by decide +kernel), (by decide +kernel), (by decide +kernel)⟩
theorem v_X9_begin : ab_vi yX9_begin cX9_begin 2 none 0 := ⟨(ab_mem 1034 (by decide +kernel) rfl), (ab_mem 29 (by decide +kernel) rfl), (ab_mem 47 (by decide +kernel) rfl), (ab_mem 1035 (by decide +kernel) rfl), (by decide +kernel), (by decide +kernel), (by decide +kernel)⟩
theorem v_X9_goDays : ab_vi yX9_goDays cX9_goDays 4 none 2 := ⟨(ab_mem 1038 (by decide +kernel) rfl), (ab_mem 30 (by decide +kernel) rfl), (ab_mem 47 (by decide +kernel) rfl), (ab_mem 1039 (by decide +kernel) rfl), (by decide +kernel), (by decide +kernel), (by decide +kernel)⟩
theorem v_X9_later : ab_vi yX9_later cX9_later 3 (some .int) 2 := ⟨(ab_mem 1028 (by decide +kernel) rfl), (ab_mem 1029 (by decide +kernel) rfl), (ab_mem 47 (by decide +kernel) rfl), (ab_mem 1030 (by decide +kernel) rfl), (by decide +kernel), (by decide +kernel), (by decide +kernel)⟩
theorem v_X9_comesOf : ab_vi yX9_comesOf cX9_comesOf 2 (some .int) 0 := ⟨(ab_mem 1046 (by decide +kernel) rfl), (ab_mem 31 (by decide +kernel) rfl), (ab_mem 47 (by decide +kernel) rfl), (ab_mem 1047 (by decide +kernel) rfl), (by decide +kernel), (by decide +kernel), (by decide +kernel)⟩
theorem v_X9_comes : ab_vi yX9_comes cX9_comes 1 (some .int) 0 := ⟨(ab_mem 1041 (by decide +kernel) rfl), (ab_mem 1042 (by decide +kernel) rfl), (ab_mem 47 (by decide +kernel) rfl), (ab_mem 1043 (by decide +kernel) rfl), (by decide +kernel), (by decide +kernel), (by decide +kernel)⟩
theorem v_X9_leads : ab_vi yX9_leads cX9_leads 3 (some .int) 1 := ⟨(ab_mem 1049 (by decide +kernel) rfl), (ab_mem 1050 (by decide +kernel) rfl), (ab_mem 47 (by decide +kernel) rfl), (ab_mem 1051 (by decide +kernel) rfl), (by decide +kernel), (by decide +kernel), (by decide +kernel)⟩
theorem v_X9_cure : ab_vi yX9_cure cX9_cure 4 (some .int) 1 := ⟨(ab_mem 1053 (by decide +kernel) rfl), (ab_mem 1054 (by decide +kernel) rfl), (ab_mem 47 (by decide +kernel) rfl), (ab_mem 1055 (by decide +kernel) rfl), (by decide +kernel), (by decide +kernel), (by decide +kernel)⟩
theorem v_X9_pulls : ab_vi yX9_pulls cX9_pulls 5 (some .int) 1 := ⟨(ab_mem 1070 (by decide +kernel) rfl), (ab_mem 33 (by decide +kernel) rfl), (ab_mem 47 (by decide +kernel) rfl), (ab_mem 1071 (by decide +kernel) rfl), (by decide +kernel), (by decide +kernel), (by decide +kernel)⟩
theorem v_X9_findPlan : ab_vi yX9_findPlan cX9_findPlan 6 none 1 := ⟨(ab_mem 1063 (by decide +kernel) rfl), (ab_mem 32 (by decide +kernel) rfl), (ab_mem 47 (by decide +kernel) rfl), (ab_mem 1064 (by decide +kernel) rfl), (by decide +kernel), (by decide +kernel), (by decide +kernel)⟩
theorem v_X9_plan : ab_vi yX9_plan cX9_plan 3 (some .int) 2 := ⟨(ab_mem 1057 (by decide +kernel) rfl), (ab_mem 1058 (by decide +kernel) rfl), (ab_mem 47 (by decide +kernel) rfl), (ab_mem 1059 (by decide +kernel) rfl), (by decide +kernel), (by decide +kernel), (by decide +kernel)⟩
theorem v_X9_longPower : ab_vs yX9_longPower cX9_longPower 6 (some .long) 2 := ⟨(ab_mem 1079 (by decide +kernel) rfl), (ab_mem 47 (by decide +kernel) rfl), (ab_mem 1080 (by decide +kernel) rfl), (by decide +kernel), (by decide +kernel), (by decide +kernel)⟩
theorem v_X9_gravels : ab_vi yX9_gravels cX9_gravels 3 (some .boolean) 1 := ⟨(ab_mem 1087 (by decide +kernel) rfl), (ab_mem 35 (by decide +kernel) rfl), (ab_mem 47 (by decide +kernel) rfl), (ab_mem 1088 (by decide +kernel) rfl), (by decide +kernel), (by decide +kernel), (by decide +kernel)⟩
theorem v_X9_isPulled : ab_vi yX9_isPulled cX9_isPulled 3 (some .boolean) 1 := ⟨(ab_mem 1091 (by decide +kernel) rfl), (ab_mem 36 (by decide +kernel) rfl), (ab_mem 47 (by decide +kernel) rfl), (ab_mem 1092 (by decide +kernel) rfl), (by decide +kernel), (by decide +kernel), (by decide +kernel)⟩
theorem v_X9_does : ab_vi yX9_does cX9_does 5 (some .boolean) 1 := ⟨(ab_mem 1083 (by decide +kernel) rfl), (ab_mem 34 (by decide +kernel) rfl), (ab_mem 47 (by decide +kernel) rfl), (ab_mem 1084 (by decide +kernel) rfl), (by decide +kernel), (by decide +kernel), (by decide +kernel)⟩
theorem v_X9_judge : ab_vi yX9_judge cX9_judge 5 (some .int) 2 := ⟨(ab_mem 1073 (by decide +kernel) rfl), (ab_mem 1074 (by decide +kernel) rfl), (ab_mem 47 (by decide +kernel) rfl), (ab_mem 1075 (by decide +kernel) rfl), (by decide +kernel), (by decide +kernel), (by decide +kernel)⟩
theorem v_X9_ways : ab_vs yX9_ways cX9_ways 3 (some .int) 1 := ⟨(ab_mem 1101 (by decide +kernel) rfl), (ab_mem 47 (by decide +kernel) rfl), (ab_mem 1102 (by decide +kernel) rfl), (by decide +kernel), (by decide +kernel), (by decide +kernel)⟩
theorem v_X9_divisor : ab_vs yX9_divisor cX9_divisor 5 (some .int) 2 := ⟨(ab_mem 1107 (by decide +kernel) rfl), (ab_mem 47 (by decide +kernel) rfl), (ab_mem 1108 (by decide +kernel) rfl), (by decide +kernel), (by decide +kernel), (by decide +kernel)⟩
theorem v_X9_fraction : ab_vs yX9_fraction cX9_fraction 4 (some .int) 3 := ⟨(ab_mem 1104 (by decide +kernel) rfl), (ab_mem 47 (by decide +kernel) rfl), (ab_mem 1105 (by decide +kernel) rfl), (by decide +kernel), (by decide +kernel), (by decide +kernel)⟩
theorem v_X9_share : ab_vi yX9_share cX9_share 6 (some .int) 2 := ⟨(ab_mem 1094 (by decide +kernel) rfl), (ab_mem 1095 (by decide +kernel) rfl), (ab_mem 47 (by decide +kernel) rfl), (ab_mem 1096 (by decide +kernel) rfl), (by decide +kernel), (by decide +kernel), (by decide +kernel)⟩
theorem v_X9_attempt : ab_vi yX9_attempt cX9_attempt 4 (some .int) 3 := ⟨(ab_mem 1110 (by decide +kernel) rfl), (ab_mem 1111 (by decide +kernel) rfl), (ab_mem 47 (by decide +kernel) rfl), (ab_mem 1112 (by decide +kernel) rfl), (by decide +kernel), (by decide +kernel), (by decide +kernel)⟩
theorem v_X9_unattempt : ab_vi yX9_unattempt cX9_unattempt 2 (some .int) 0 := ⟨(ab_mem 1116 (by decide +kernel) rfl), (ab_mem 1117 (by decide +kernel) rfl), (ab_mem 47 (by decide +kernel) rfl), (ab_mem 1118 (by decide +kernel) rfl), (by decide +kernel), (by decide +kernel), (by decide +kernel)⟩
theorem v_X9_paces : ab_vi yX9_paces cX9_paces 5 (some .int) 1 := ⟨(ab_mem 1120 (by decide +kernel) rfl), (ab_mem 1121 (by decide +kernel) rfl), (ab_mem 47 (by decide +kernel) rfl), (ab_mem 1122 (by decide +kernel) rfl), (by decide +kernel), (by decide +kernel), (by decide +kernel)⟩
theorem v_X9_rests : ab_vi yX9_rests cX9_rests 7 (some .int) 3 := ⟨(ab_mem 1124 (by decide +kernel) rfl), (ab_mem 1125 (by decide +kernel) rfl), (ab_mem 47 (by decide +kernel) rfl), (ab_mem 1126 (by decide +kernel) rfl), (by decide +kernel), (by decide +kernel), (by decide +kernel)⟩
theorem v_X9_thorny : ab_vi yX9_thorny cX9_thorny 8 (some .int) 3 := ⟨(ab_mem 1128 (by decide +kernel) rfl), (ab_mem 1129 (by decide +kernel) rfl), (ab_mem 47 (by decide +kernel) rfl), (ab_mem 1130 (by decide +kernel) rfl), (by decide +kernel), (by decide +kernel), (by decide +kernel)⟩
theorem v_X9_seed : ab_vi yX9_seed cX9_seed 5 (some .long) 1 := ⟨(ab_mem 1133 (by decide +kernel) rfl), (ab_mem 1134 (by decide +kernel) rfl), (ab_mem 47 (by decide +kernel) rfl), (ab_mem 1135 (by decide +kernel) rfl), (by decide +kernel), (by decide +kernel), (by decide +kernel)⟩
theorem v_X9_campaigns : ab_vi yX9_campaigns cX9_campaigns 5 (some .int) 1 := ⟨(ab_mem 1137 (by decide +kernel) rfl), (ab_mem 1138 (by decide +kernel) rfl), (ab_mem 47 (by decide +kernel) rfl), (ab_mem 1139 (by decide +kernel) rfl), (by decide +kernel), (by decide +kernel), (by decide +kernel)⟩
theorem v_X9_keep : ab_vi yX9_keep cX9_keep 3 (some .int) 1 := ⟨(ab_mem 1144 (by decide +kernel) rfl), (ab_mem 1145 (by decide +kernel) rfl), (ab_mem 47 (by decide +kernel) rfl), (ab_mem 1146 (by decide +kernel) rfl), (by decide +kernel), (by decide +kernel), (by decide +kernel)⟩
theorem v_X9_again : ab_vi yX9_again cX9_again 3 (some .int) 1 := ⟨(ab_mem 1148 (by decide +kernel) rfl), (ab_mem 1149 (by decide +kernel) rfl), (ab_mem 47 (by decide +kernel) rfl), (ab_mem 1150 (by decide +kernel) rfl), (by decide +kernel), (by decide +kernel), (by decide +kernel)⟩
theorem v_J6_bitCount_0f7a4 : ab_vs yJ6_bitCount_0f7a4 cJ6_bitCount_0f7a4 1 (some .int) 1 := ⟨(ab_mem 659 (by decide +kernel) rfl), (ab_mem 49 (by decide +kernel) rfl), (ab_mem 660 (by decide +kernel) rfl), (by decide +kernel), (by decide +kernel), (by decide +kernel)⟩
theorem v_J9_abs_0f7a4 : ab_vs yJ9_abs_0f7a4 cJ9_abs_0f7a4 1 (some .int) 1 := ⟨(ab_mem 682 (by decide +kernel) rfl), (ab_mem 48 (by decide +kernel) rfl), (ab_mem 683 (by decide +kernel) rfl), (by decide +kernel), (by decide +kernel), (by decide +kernel)⟩
theorem v_J9_max_7cf53 : ab_vs yJ9_max_7cf53 cJ9_max_7cf53 2 (some .int) 2 := ⟨(ab_mem 462 (by decide +kernel) rfl), (ab_mem 48 (by decide +kernel) rfl), (ab_mem 463 (by decide +kernel) rfl), (by decide +kernel), (by decide +kernel), (by decide +kernel)⟩
theorem v_J9_min_7cf53 : ab_vs yJ9_min_7cf53 cJ9_min_7cf53 2 (some .int) 2 := ⟨(ab_mem 465 (by decide +kernel) rfl), (ab_mem 48 (by decide +kernel) rfl), (ab_mem 466 (by decide +kernel) rfl), (by decide +kernel), (by decide +kernel), (by decide +kernel)⟩
theorem ml_X0_19 : Cond.methodLink RX0 19 yX0_forgetFirst ∈ ab_tb := (ab_mem 443 (by decide +kernel) rfl)
theorem ml_X1_25 : Cond.methodLink RX1 25 yX2_follow ∈ ab_tb := (ab_mem 728 (by decide +kernel) rfl)
theorem ml_X1_31 : Cond.methodLink RX1 31 yX2_prick ∈ ab_tb := (ab_mem 729 (by decide +kernel) rfl)
theorem ml_X1_35 : Cond.methodLink RX1 35 yX2_goDays ∈ ab_tb := (ab_mem 730 (by decide +kernel) rfl)
theorem ml_X1_38 : Cond.methodLink RX1 38 yX2_mile ∈ ab_tb := (ab_mem 731 (by decide +kernel) rfl)
theorem ml_X1_42 : Cond.methodLink RX1 42 yX2_leader ∈ ab_tb := (ab_mem 732 (by decide +kernel) rfl)
theorem ml_X1_45 : Cond.methodLink RX1 45 yX1_isRest ∈ ab_tb := (ab_mem 737 (by decide +kernel) rfl)
theorem ml_X1_49 : Cond.methodLink RX1 49 yX2_menCount ∈ ab_tb := (ab_mem 754 (by decide +kernel) rfl)
theorem ml_X1_52 : Cond.methodLink RX1 52 yJ6_bitCount_0f7a4 ∈ ab_tb := (ab_mem 755 (by decide +kernel) rfl)
theorem ml_X1_62 : Cond.methodLink RX1 62 yX1_isInTimePricked ∈ ab_tb := (ab_mem 757 (by decide +kernel) rfl)
theorem ml_X1_66 : Cond.methodLink RX1 66 yX2_goToEnd ∈ ab_tb := (ab_mem 761 (by decide +kernel) rfl)
theorem ml_X1_69 : Cond.methodLink RX1 69 yX2_ease ∈ ab_tb := (ab_mem 781 (by decide +kernel) rfl)
theorem ml_X1_72 : Cond.methodLink RX1 72 yX2_stay ∈ ab_tb := (ab_mem 782 (by decide +kernel) rfl)
theorem ml_X1_75 : Cond.methodLink RX1 75 yX2_goDay ∈ ab_tb := (ab_mem 783 (by decide +kernel) rfl)
theorem ml_X1_58 : Cond.methodLinkNest RX1 58 yX8_power "LameLead" ∈ ab_tb := (ab_mem 756 (by decide +kernel) rfl)
theorem ml_X2_33 : Cond.methodLink RX2 33 yX4_end ∈ ab_tb := (ab_mem 455 (by decide +kernel) rfl)
theorem ml_X2_39 : Cond.methodLink RX2 39 yX7_count ∈ ab_tb := (ab_mem 358 (by decide +kernel) rfl)
theorem ml_X2_44 : Cond.methodLink RX2 44 yX7_toldThornsOf ∈ ab_tb := (ab_mem 318 (by decide +kernel) rfl)
theorem ml_X2_48 : Cond.methodLink RX2 48 yX2_follow ∈ ab_tb := (ab_mem 677 (by decide +kernel) rfl)
theorem ml_X2_56 : Cond.methodLink RX2 56 yX7_paceOf ∈ ab_tb := (ab_mem 359 (by decide +kernel) rfl)
theorem ml_X2_59 : Cond.methodLink RX2 59 yX7_kindOf ∈ ab_tb := (ab_mem 363 (by decide +kernel) rfl)
theorem ml_X2_62 : Cond.methodLink RX2 62 yX2_thornsOf ∈ ab_tb := (ab_mem 381 (by decide +kernel) rfl)
theorem ml_X2_69 : Cond.methodLink RX2 69 yX2_leader ∈ ab_tb := (ab_mem 376 (by decide +kernel) rfl)
theorem ml_X2_72 : Cond.methodLink RX2 72 yX2_speedOf ∈ ab_tb := (ab_mem 377 (by decide +kernel) rfl)
theorem ml_X2_75 : Cond.methodLink RX2 75 yX7_has ∈ ab_tb := (ab_mem 471 (by decide +kernel) rfl)
theorem ml_X2_79 : Cond.methodLink RX2 79 yX2_ease ∈ ab_tb := (ab_mem 616 (by decide +kernel) rfl)
theorem ml_X2_83 : Cond.methodLink RX2 83 yX2_isThere ∈ ab_tb := (ab_mem 451 (by decide +kernel) rfl)
theorem ml_X2_87 : Cond.methodLink RX2 87 yX4_stretchAt ∈ ab_tb := (ab_mem 456 (by decide +kernel) rfl)
theorem ml_X2_90 : Cond.methodLink RX2 90 yX4_groundOf ∈ ab_tb := (ab_mem 457 (by decide +kernel) rfl)
theorem ml_X2_93 : Cond.methodLink RX2 93 yX2_milesOver ∈ ab_tb := (ab_mem 458 (by decide +kernel) rfl)
theorem ml_X2_97 : Cond.methodLink RX2 97 yJ9_min_7cf53 ∈ ab_tb := (ab_mem 464 (by decide +kernel) rfl)
theorem ml_X2_102 : Cond.methodLink RX2 102 yX2_prick ∈ ab_tb := (ab_mem 467 (by decide +kernel) rfl)
theorem ml_X2_105 : Cond.methodLink RX2 105 yX2_healAll ∈ ab_tb := (ab_mem 472 (by decide +kernel) rfl)
theorem ml_X2_108 : Cond.methodLink RX2 108 yJ9_max_7cf53 ∈ ab_tb := (ab_mem 461 (by decide +kernel) rfl)
theorem ml_X2_111 : Cond.methodLink RX2 111 yX2_goDay ∈ ab_tb := (ab_mem 538 (by decide +kernel) rfl)
theorem ml_X2_65 : Cond.methodLinkNest RX2 65 yX8_speedBy "LameLead" ∈ ab_tb := (ab_mem 367 (by decide +kernel) rfl)
theorem kl_X2_52 : Cond.constantLong RX2 52 (15) ∈ ab_tb := (ab_mem 517 (by decide +kernel) rfl)
theorem kl_X2_54 : Cond.constantLong RX2 54 (255) ∈ ab_tb := (ab_mem 518 (by decide +kernel) rfl)
theorem ml_X3_22 : Cond.methodLink RX3 22 yX2_follow ∈ ab_tb := (ab_mem 530 (by decide +kernel) rfl)
theorem ml_X3_28 : Cond.methodLink RX3 28 yX2_goDays ∈ ab_tb := (ab_mem 534 (by decide +kernel) rfl)
theorem ml_X3_32 : Cond.methodLink RX3 32 yX2_mile ∈ ab_tb := (ab_mem 539 (by decide +kernel) rfl)
theorem ml_X3_36 : Cond.methodLink RX3 36 yX2_leader ∈ ab_tb := (ab_mem 544 (by decide +kernel) rfl)
theorem ml_X3_39 : Cond.methodLink RX3 39 yX2_goToEnd ∈ ab_tb := (ab_mem 553 (by decide +kernel) rfl)
theorem ml_X3_43 : Cond.methodLink RX3 43 yX2_goDay ∈ ab_tb := (ab_mem 565 (by decide +kernel) rfl)
theorem ml_X3_46 : Cond.methodLink RX3 46 yX2_menCount ∈ ab_tb := (ab_mem 574 (by decide +kernel) rfl)
theorem ml_X3_49 : Cond.methodLink RX3 49 yX2_canEase ∈ ab_tb := (ab_mem 578 (by decide +kernel) rfl)
theorem ml_X3_53 : Cond.methodLink RX3 53 yX3_daysIfEased ∈ ab_tb := (ab_mem 579 (by decide +kernel) rfl)
theorem ml_X3_56 : Cond.methodLink RX3 56 yX2_ease ∈ ab_tb := (ab_mem 583 (by decide +kernel) rfl)
theorem ml_X3_63 : Cond.methodLink RX3 63 yX3_pullsInAll ∈ ab_tb := (ab_mem 595 (by decide +kernel) rfl)
theorem ml_X3_66 : Cond.methodLink RX3 66 yX3_canPull ∈ ab_tb := (ab_mem 603 (by decide +kernel) rfl)
theorem ml_X3_69 : Cond.methodLink RX3 69 yX3_isInTime ∈ ab_tb := (ab_mem 608 (by decide +kernel) rfl)
theorem ml_X3_73 : Cond.methodLink RX3 73 yX3_pullsOf ∈ ab_tb := (ab_mem 599 (by decide +kernel) rfl)
theorem ml_X3_76 : Cond.methodLink RX3 76 yX2_thornsOf ∈ ab_tb := (ab_mem 607 (by decide +kernel) rfl)
theorem ml_X3_79 : Cond.methodLink RX3 79 yX2_easeTimes ∈ ab_tb := (ab_mem 612 (by decide +kernel) rfl)
theorem ml_X3_83 : Cond.methodLink RX3 83 yJ9_min_7cf53 ∈ ab_tb := (ab_mem 632 (by decide +kernel) rfl)
theorem ml_X3_90 : Cond.methodLink RX3 90 yX3_does ∈ ab_tb := (ab_mem 634 (by decide +kernel) rfl)
theorem ml_X3_94 : Cond.methodLink RX3 94 yX3_doesPlain ∈ ab_tb := (ab_mem 638 (by decide +kernel) rfl)
theorem ml_X3_97 : Cond.methodLink RX3 97 yX2_stay ∈ ab_tb := (ab_mem 642 (by decide +kernel) rfl)
theorem ml_X3_100 : Cond.methodLink RX3 100 yX2_canPrick ∈ ab_tb := (ab_mem 643 (by decide +kernel) rfl)
theorem ml_X3_103 : Cond.methodLink RX3 103 yX2_prick ∈ ab_tb := (ab_mem 644 (by decide +kernel) rfl)
theorem ml_X3_106 : Cond.methodLink RX3 106 yJ6_bitCount_0f7a4 ∈ ab_tb := (ab_mem 658 (by decide +kernel) rfl)
theorem ml_X3_114 : Cond.methodLink RX3 114 yX3_mileOfSome ∈ ab_tb := (ab_mem 665 (by decide +kernel) rfl)
theorem ml_X3_117 : Cond.methodLink RX3 117 yX2_end ∈ ab_tb := (ab_mem 669 (by decide +kernel) rfl)
theorem ml_X3_120 : Cond.methodLink RX3 120 yX2_followWith ∈ ab_tb := (ab_mem 673 (by decide +kernel) rfl)
theorem ml_X3_59 : Cond.methodLinkNest RX3 59 yX8_power "LameLead" ∈ ab_tb := (ab_mem 592 (by decide +kernel) rfl)
theorem ml_X3_111 : Cond.methodLinkNest RX3 111 yX8_factorial "LameLead" ∈ ab_tb := (ab_mem 664 (by decide +kernel) rfl)
theorem kl_X3_88 : Cond.constantLong RX3 88 (1000) ∈ ab_tb := (ab_mem 633 (by decide +kernel) rfl)
theorem ml_X4_31 : Cond.methodLink RX4 31 yX4_has ∈ ab_tb := (ab_mem 422 (by decide +kernel) rfl)
theorem ml_X5_19 : Cond.methodLink RX5 19 yX5_letterAt ∈ ab_tb := (ab_mem 270 (by decide +kernel) rfl)
theorem ml_X5_29 : Cond.methodLink RX5 29 yX5_misfitFrom ∈ ab_tb := (ab_mem 278 (by decide +kernel) rfl)
theorem ml_X5_39 : Cond.methodLink RX5 39 yX5_figureAt ∈ ab_tb := (ab_mem 282 (by decide +kernel) rfl)
theorem ml_X5_42 : Cond.methodLink RX5 42 yX4_empty ∈ ab_tb := (ab_mem 298 (by decide +kernel) rfl)
theorem ml_X5_47 : Cond.methodLink RX5 47 yX7_empty ∈ ab_tb := (ab_mem 302 (by decide +kernel) rfl)
theorem ml_X5_50 : Cond.methodLink RX5 50 yX4_add ∈ ab_tb := (ab_mem 306 (by decide +kernel) rfl)
theorem ml_X5_54 : Cond.methodLink RX5 54 yX7_add ∈ ab_tb := (ab_mem 310 (by decide +kernel) rfl)
theorem sl_X5_23 : ∃ t ∈ ab_sts, t.2.2.1 = 103 ∧ (Cond.fieldLink RX5 23 "LameLead" t.1 t.2.1 ∈ ab_tb ∨ Cond.fieldLinkNest RX5 23 "LameLead" t.1 t.2.1 "LameLead" ∈ ab_tb) := ⟨_, List.mem_of_getElem? (i := 3) rfl, rfl, Or.inr (ab_mem 274 (by decide +kernel) rfl)⟩
theorem sl_X5_26 : ∃ t ∈ ab_sts, t.2.2.1 = 104 ∧ (Cond.fieldLink RX5 26 "LameLead" t.1 t.2.1 ∈ ab_tb ∨ Cond.fieldLinkNest RX5 26 "LameLead" t.1 t.2.1 "LameLead" ∈ ab_tb) := ⟨_, List.mem_of_getElem? (i := 4) rfl, rfl, Or.inr (ab_mem 276 (by decide +kernel) rfl)⟩
theorem sl_X5_33 : ∃ t ∈ ab_sts, t.2.2.1 = 105 ∧ (Cond.fieldLink RX5 33 "LameLead" t.1 t.2.1 ∈ ab_tb ∨ Cond.fieldLinkNest RX5 33 "LameLead" t.1 t.2.1 "LameLead" ∈ ab_tb) := ⟨_, List.mem_of_getElem? (i := 5) rfl, rfl, Or.inr (ab_mem 286 (by decide +kernel) rfl)⟩
theorem sl_X5_36 : ∃ t ∈ ab_sts, t.2.2.1 = 106 ∧ (Cond.fieldLink RX5 36 "LameLead" t.1 t.2.1 ∈ ab_tb ∨ Cond.fieldLinkNest RX5 36 "LameLead" t.1 t.2.1 "LameLead" ∈ ab_tb) := ⟨_, List.mem_of_getElem? (i := 6) rfl, rfl, Or.inr (ab_mem 288 (by decide +kernel) rfl)⟩
theorem ml_X6_30 : Cond.methodLink RX6 30 yX6_fits ∈ ab_tb := (ab_mem 711 (by decide +kernel) rfl)
theorem ml_X6_26 : Cond.methodLinkNest RX6 26 yX8_speedBy "LameLead" ∈ ab_tb := (ab_mem 715 (by decide +kernel) rfl)
theorem ml_X7_25 : Cond.methodLink RX7 25 yX7_has ∈ ab_tb := (ab_mem 322 (by decide +kernel) rfl)
theorem ml_X8_79 : Cond.methodLink RX8 79 yX5_size ∈ ab_tb := (ab_mem 246 (by decide +kernel) rfl)
theorem ml_X8_83 : Cond.methodLink RX8 83 yX5_append ∈ ab_tb := (ab_mem 250 (by decide +kernel) rfl)
theorem ml_X8_87 : Cond.methodLink RX8 87 yX5_empty ∈ ab_tb := (ab_mem 258 (by decide +kernel) rfl)
theorem ml_X8_90 : Cond.methodLink RX8 90 yX5_faultPlace ∈ ab_tb := (ab_mem 266 (by decide +kernel) rfl)
theorem ml_X8_93 : Cond.methodLink RX8 93 yX5_tell ∈ ab_tb := (ab_mem 294 (by decide +kernel) rfl)
theorem ml_X8_96 : Cond.methodLink RX8 96 yX2_begin ∈ ab_tb := (ab_mem 314 (by decide +kernel) rfl)
theorem ml_X8_99 : Cond.methodLink RX8 99 yX0_forgetAll ∈ ab_tb := (ab_mem 326 (by decide +kernel) rfl)
theorem ml_X8_102 : Cond.methodLink RX8 102 yX4_count ∈ ab_tb := (ab_mem 330 (by decide +kernel) rfl)
theorem ml_X8_105 : Cond.methodLink RX8 105 yX7_count ∈ ab_tb := (ab_mem 334 (by decide +kernel) rfl)
theorem ml_X8_106 : Cond.methodLink RX8 106 yX4_end ∈ ab_tb := (ab_mem 342 (by decide +kernel) rfl)
theorem ml_X8_109 : Cond.methodLink RX8 109 yX2_mile ∈ ab_tb := (ab_mem 346 (by decide +kernel) rfl)
theorem ml_X8_112 : Cond.methodLink RX8 112 yX2_dayNumber ∈ ab_tb := (ab_mem 350 (by decide +kernel) rfl)
theorem ml_X8_115 : Cond.methodLink RX8 115 yX2_leader ∈ ab_tb := (ab_mem 354 (by decide +kernel) rfl)
theorem ml_X8_118 : Cond.methodLink RX8 118 yX2_leaderSpeed ∈ ab_tb := (ab_mem 372 (by decide +kernel) rfl)
theorem ml_X8_121 : Cond.methodLink RX8 121 yX4_stretchAt ∈ ab_tb := (ab_mem 385 (by decide +kernel) rfl)
theorem ml_X8_125 : Cond.methodLink RX8 125 yX2_allThorns ∈ ab_tb := (ab_mem 389 (by decide +kernel) rfl)
theorem ml_X8_128 : Cond.methodLink RX8 128 yX0_count ∈ ab_tb := (ab_mem 393 (by decide +kernel) rfl)
theorem ml_X8_129 : Cond.methodLink RX8 129 yX6_count ∈ ab_tb := (ab_mem 397 (by decide +kernel) rfl)
theorem ml_X8_130 : Cond.methodLink RX8 130 yX7_has ∈ ab_tb := (ab_mem 405 (by decide +kernel) rfl)
theorem ml_X8_134 : Cond.methodLink RX8 134 yX7_paceOf ∈ ab_tb := (ab_mem 406 (by decide +kernel) rfl)
theorem ml_X8_137 : Cond.methodLink RX8 137 yX7_kindOf ∈ ab_tb := (ab_mem 407 (by decide +kernel) rfl)
theorem ml_X8_140 : Cond.methodLink RX8 140 yX2_thornsOf ∈ ab_tb := (ab_mem 408 (by decide +kernel) rfl)
theorem ml_X8_143 : Cond.methodLink RX8 143 yX2_speedOf ∈ ab_tb := (ab_mem 409 (by decide +kernel) rfl)
theorem ml_X8_146 : Cond.methodLink RX8 146 yX4_has ∈ ab_tb := (ab_mem 414 (by decide +kernel) rfl)
theorem ml_X8_147 : Cond.methodLink RX8 147 yX4_milesOf ∈ ab_tb := (ab_mem 418 (by decide +kernel) rfl)
theorem ml_X8_150 : Cond.methodLink RX8 150 yX4_groundOf ∈ ab_tb := (ab_mem 423 (by decide +kernel) rfl)
theorem ml_X8_153 : Cond.methodLink RX8 153 yX4_beginOf ∈ ab_tb := (ab_mem 427 (by decide +kernel) rfl)
theorem ml_X8_156 : Cond.methodLink RX8 156 yX2_packed ∈ ab_tb := (ab_mem 435 (by decide +kernel) rfl)
theorem ml_X8_160 : Cond.methodLink RX8 160 yX0_remember ∈ ab_tb := (ab_mem 439 (by decide +kernel) rfl)
theorem ml_X8_164 : Cond.methodLink RX8 164 yX2_goDay ∈ ab_tb := (ab_mem 447 (by decide +kernel) rfl)
theorem ml_X8_167 : Cond.methodLink RX8 167 yX2_stay ∈ ab_tb := (ab_mem 480 (by decide +kernel) rfl)
theorem ml_X8_170 : Cond.methodLink RX8 170 yX2_canPrick ∈ ab_tb := (ab_mem 488 (by decide +kernel) rfl)
theorem ml_X8_173 : Cond.methodLink RX8 173 yX2_prick ∈ ab_tb := (ab_mem 492 (by decide +kernel) rfl)
theorem ml_X8_176 : Cond.methodLink RX8 176 yX2_canEase ∈ ab_tb := (ab_mem 497 (by decide +kernel) rfl)
theorem ml_X8_179 : Cond.methodLink RX8 179 yX2_ease ∈ ab_tb := (ab_mem 501 (by decide +kernel) rfl)
theorem ml_X8_182 : Cond.methodLink RX8 182 yX0_takeLast ∈ ab_tb := (ab_mem 509 (by decide +kernel) rfl)
theorem ml_X8_185 : Cond.methodLink RX8 185 yX2_unpack ∈ ab_tb := (ab_mem 513 (by decide +kernel) rfl)
theorem ml_X8_188 : Cond.methodLink RX8 188 yX8_isChoice ∈ ab_tb := (ab_mem 523 (by decide +kernel) rfl)
theorem ml_X8_191 : Cond.methodLink RX8 191 yX3_mileIn ∈ ab_tb := (ab_mem 526 (by decide +kernel) rfl)
theorem ml_X8_194 : Cond.methodLink RX8 194 yX3_leaderIn ∈ ab_tb := (ab_mem 540 (by decide +kernel) rfl)
theorem ml_X8_197 : Cond.methodLink RX8 197 yX3_daysToEnd ∈ ab_tb := (ab_mem 549 (by decide +kernel) rfl)
theorem ml_X8_200 : Cond.methodLink RX8 200 yX3_daysToLead ∈ ab_tb := (ab_mem 561 (by decide +kernel) rfl)
theorem ml_X8_203 : Cond.methodLink RX8 203 yX3_bestCure ∈ ab_tb := (ab_mem 570 (by decide +kernel) rfl)
theorem ml_X8_207 : Cond.methodLink RX8 207 yX3_fewestPulls ∈ ab_tb := (ab_mem 588 (by decide +kernel) rfl)
theorem ml_X8_210 : Cond.methodLink RX8 210 yX3_pullsInAll ∈ ab_tb := (ab_mem 617 (by decide +kernel) rfl)
theorem ml_X8_213 : Cond.methodLink RX8 213 yX3_pullFigures ∈ ab_tb := (ab_mem 618 (by decide +kernel) rfl)
theorem ml_X8_219 : Cond.methodLink RX8 219 yX3_firstImpossible ∈ ab_tb := (ab_mem 628 (by decide +kernel) rfl)
theorem ml_X8_223 : Cond.methodLink RX8 223 yX8_factorial ∈ ab_tb := (ab_mem 649 (by decide +kernel) rfl)
theorem ml_X8_226 : Cond.methodLink RX8 226 yX3_lossOverOrders ∈ ab_tb := (ab_mem 654 (by decide +kernel) rfl)
theorem ml_X8_229 : Cond.methodLink RX8 229 yX8_termOf ∈ ab_tb := (ab_mem 678 (by decide +kernel) rfl)
theorem ml_X8_233 : Cond.methodLink RX8 233 yX6_add ∈ ab_tb := (ab_mem 691 (by decide +kernel) rfl)
theorem ml_X8_237 : Cond.methodLink RX8 237 yX6_forgetAll ∈ ab_tb := (ab_mem 699 (by decide +kernel) rfl)
theorem ml_X8_238 : Cond.methodLink RX8 238 yX6_fittingCount ∈ ab_tb := (ab_mem 707 (by decide +kernel) rfl)
theorem ml_X8_241 : Cond.methodLink RX8 241 yX6_firstFitting ∈ ab_tb := (ab_mem 716 (by decide +kernel) rfl)
theorem ml_X8_244 : Cond.methodLink RX8 244 yX1_weighPairs ∈ ab_tb := (ab_mem 724 (by decide +kernel) rfl)
theorem ml_X8_248 : Cond.methodLink RX8 248 yX1_restCount ∈ ab_tb := (ab_mem 733 (by decide +kernel) rfl)
theorem ml_X8_251 : Cond.methodLink RX8 251 yX1_firstRest ∈ ab_tb := (ab_mem 741 (by decide +kernel) rfl)
theorem ml_X8_254 : Cond.methodLink RX8 254 yX8_power ∈ ab_tb := (ab_mem 749 (by decide +kernel) rfl)
theorem ml_X8_258 : Cond.methodLink RX8 258 yX1_weightInTime ∈ ab_tb := (ab_mem 750 (by decide +kernel) rfl)
theorem ml_X8_261 : Cond.methodLink RX8 261 yX1_setOut ∈ ab_tb := (ab_mem 770 (by decide +kernel) rfl)
theorem ml_X8_270 : Cond.methodLink RX8 270 yX1_mileBehindLot ∈ ab_tb := (ab_mem 777 (by decide +kernel) rfl)
theorem ml_X8_280 : Cond.methodLink RX8 280 yJ9_abs_0f7a4 ∈ ab_tb := (ab_mem 681 (by decide +kernel) rfl)
theorem ml_X8_285 : Cond.methodLink RX8 285 yX8_commonDivisor ∈ ab_tb := (ab_mem 684 (by decide +kernel) rfl)
theorem kl_X8_69 : Cond.constantLong RX8 69 (-1) ∈ ab_tb := (ab_mem 210 (by decide +kernel) rfl)
theorem kl_X8_264 : Cond.constantLong RX8 264 (6364136223846793005) ∈ ab_tb := (ab_mem 774 (by decide +kernel) rfl)
theorem kl_X8_266 : Cond.constantLong RX8 266 (1442695040888963407) ∈ ab_tb := (ab_mem 775 (by decide +kernel) rfl)
theorem kl_X8_268 : Cond.constantLong RX8 268 (20) ∈ ab_tb := (ab_mem 776 (by decide +kernel) rfl)
theorem sl_X8_216 : ∃ t ∈ ab_sts, t.2.2.1 = 102 ∧ (Cond.fieldLink RX8 216 "LameLead" t.1 t.2.1 ∈ ab_tb ∨ Cond.fieldLinkNest RX8 216 "LameLead" t.1 t.2.1 "LameLead" ∈ ab_tb) := ⟨_, List.mem_of_getElem? (i := 2) rfl, rfl, Or.inl (ab_mem 626 (by decide +kernel) rfl)⟩
theorem sl_X8_273 : ∃ t ∈ ab_sts, t.2.2.1 = 101 ∧ (Cond.fieldLink RX8 273 "LameLead" t.1 t.2.1 ∈ ab_tb ∨ Cond.fieldLinkNest RX8 273 "LameLead" t.1 t.2.1 "LameLead" ∈ ab_tb) := ⟨_, List.mem_of_getElem? (i := 1) rfl, rfl, Or.inl (ab_mem 652 (by decide +kernel) rfl)⟩
theorem sl_X8_277 : ∃ t ∈ ab_sts, t.2.2.1 = 100 ∧ (Cond.fieldLink RX8 277 "LameLead" t.1 t.2.1 ∈ ab_tb ∨ Cond.fieldLinkNest RX8 277 "LameLead" t.1 t.2.1 "LameLead" ∈ ab_tb) := ⟨_, List.mem_of_getElem? (i := 0) rfl, rfl, Or.inl (ab_mem 370 (by decide +kernel) rfl)⟩
theorem ml_X9_72 : Cond.methodLink RX9 72 yX9_in ∈ ab_tb := (ab_mem 912 (by decide +kernel) rfl)
theorem ml_X9_84 : Cond.methodLink RX9 84 yX9_figure ∈ ab_tb := (ab_mem 935 (by decide +kernel) rfl)
theorem ml_X9_94 : Cond.methodLink RX9 94 yX9_readOneStretch ∈ ab_tb := (ab_mem 931 (by decide +kernel) rfl)
theorem ml_X9_98 : Cond.methodLink RX9 98 yX9_readOneMan ∈ ab_tb := (ab_mem 939 (by decide +kernel) rfl)
theorem ml_X9_101 : Cond.methodLink RX9 101 yX9_readThing ∈ ab_tb := (ab_mem 927 (by decide +kernel) rfl)
theorem ml_X9_104 : Cond.methodLink RX9 104 yX9_readArmy ∈ ab_tb := (ab_mem 923 (by decide +kernel) rfl)
theorem ml_X9_117 : Cond.methodLink RX9 117 yX9_speedBy ∈ ab_tb := (ab_mem 962 (by decide +kernel) rfl)
theorem ml_X9_121 : Cond.methodLink RX9 121 yX9_has ∈ ab_tb := (ab_mem 955 (by decide +kernel) rfl)
theorem ml_X9_125 : Cond.methodLink RX9 125 yX9_speed ∈ ab_tb := (ab_mem 958 (by decide +kernel) rfl)
theorem ml_X9_129 : Cond.methodLink RX9 129 yX9_begins ∈ ab_tb := (ab_mem 969 (by decide +kernel) rfl)
theorem ml_X9_133 : Cond.methodLink RX9 133 yX9_leader ∈ ab_tb := (ab_mem 951 (by decide +kernel) rfl)
theorem ml_X9_136 : Cond.methodLink RX9 136 yX9_stretchAt ∈ ab_tb := (ab_mem 965 (by decide +kernel) rfl)
theorem ml_X9_139 : Cond.methodLink RX9 139 yX9_prick ∈ ab_tb := (ab_mem 1000 (by decide +kernel) rfl)
theorem ml_X9_143 : Cond.methodLink RX9 143 yX9_heal ∈ ab_tb := (ab_mem 1003 (by decide +kernel) rfl)
theorem ml_X9_147 : Cond.methodLink RX9 147 yX9_allThorns ∈ ab_tb := (ab_mem 973 (by decide +kernel) rfl)
theorem ml_X9_154 : Cond.methodLink RX9 154 yX9_noMan ∈ ab_tb := (ab_mem 980 (by decide +kernel) rfl)
theorem ml_X9_158 : Cond.methodLink RX9 158 yX9_note ∈ ab_tb := (ab_mem 992 (by decide +kernel) rfl)
theorem ml_X9_161 : Cond.methodLink RX9 161 yX9_goDay ∈ ab_tb := (ab_mem 996 (by decide +kernel) rfl)
theorem ml_X9_164 : Cond.methodLink RX9 164 yX9_goHalt ∈ ab_tb := (ab_mem 1011 (by decide +kernel) rfl)
theorem ml_X9_169 : Cond.methodLink RX9 169 yX9_begin ∈ ab_tb := (ab_mem 1032 (by decide +kernel) rfl)
theorem ml_X9_172 : Cond.methodLink RX9 172 yX9_goDays ∈ ab_tb := (ab_mem 1036 (by decide +kernel) rfl)
theorem ml_X9_176 : Cond.methodLink RX9 176 yX9_comesOf ∈ ab_tb := (ab_mem 1044 (by decide +kernel) rfl)
theorem ml_X9_185 : Cond.methodLink RX9 185 yX9_power ∈ ab_tb := (ab_mem 1065 (by decide +kernel) rfl)
theorem ml_X9_191 : Cond.methodLink RX9 191 yX9_pulls ∈ ab_tb := (ab_mem 1068 (by decide +kernel) rfl)
theorem ml_X9_196 : Cond.methodLink RX9 196 yX9_findPlan ∈ ab_tb := (ab_mem 1061 (by decide +kernel) rfl)
theorem ml_X9_200 : Cond.methodLink RX9 200 yX9_gravels ∈ ab_tb := (ab_mem 1085 (by decide +kernel) rfl)
theorem ml_X9_203 : Cond.methodLink RX9 203 yX9_isPulled ∈ ab_tb := (ab_mem 1089 (by decide +kernel) rfl)
theorem ml_X9_210 : Cond.methodLink RX9 210 yX9_longPower ∈ ab_tb := (ab_mem 1078 (by decide +kernel) rfl)
theorem ml_X9_214 : Cond.methodLink RX9 214 yX9_does ∈ ab_tb := (ab_mem 1081 (by decide +kernel) rfl)
theorem ml_X9_217 : Cond.methodLink RX9 217 yX9_divisor ∈ ab_tb := (ab_mem 1106 (by decide +kernel) rfl)
theorem ml_X9_220 : Cond.methodLink RX9 220 yX9_many ∈ ab_tb := (ab_mem 1097 (by decide +kernel) rfl)
theorem ml_X9_223 : Cond.methodLink RX9 223 yX9_ways ∈ ab_tb := (ab_mem 1100 (by decide +kernel) rfl)
theorem ml_X9_226 : Cond.methodLink RX9 226 yX9_fraction ∈ ab_tb := (ab_mem 1103 (by decide +kernel) rfl)
theorem kl_X9_76 : Cond.constantLong RX9 76 (255) ∈ ab_tb := (ab_mem 911 (by decide +kernel) rfl)
theorem kl_X9_167 : Cond.constantLong RX9 167 (40) ∈ ab_tb := (ab_mem 1031 (by decide +kernel) rfl)
theorem kl_X9_194 : Cond.constantLong RX9 194 (20) ∈ ab_tb := (ab_mem 1060 (by decide +kernel) rfl)
theorem kl_X9_206 : Cond.constantLong RX9 206 (4) ∈ ab_tb := (ab_mem 1076 (by decide +kernel) rfl)
theorem kl_X9_208 : Cond.constantLong RX9 208 (1000) ∈ ab_tb := (ab_mem 1077 (by decide +kernel) rfl)
theorem kl_X9_230 : Cond.constantLong RX9 230 (3) ∈ ab_tb := (ab_mem 1113 (by decide +kernel) rfl)
theorem kl_X9_232 : Cond.constantLong RX9 232 (9) ∈ ab_tb := (ab_mem 1114 (by decide +kernel) rfl)
theorem kl_X9_246 : Cond.constantLong RX9 246 (10) ∈ ab_tb := (ab_mem 1131 (by decide +kernel) rfl)
theorem kl_X9_252 : Cond.constantLong RX9 252 (30) ∈ ab_tb := (ab_mem 1140 (by decide +kernel) rfl)
theorem kl_X9_254 : Cond.constantLong RX9 254 (6364136223846793005) ∈ ab_tb := (ab_mem 1141 (by decide +kernel) rfl)
theorem kl_X9_256 : Cond.constantLong RX9 256 (1442695040888963407) ∈ ab_tb := (ab_mem 1142 (by decide +kernel) rfl)
theorem kl_J6_100265 : Cond.constant RJ6 265 (1431655765 : Int64).toInt32 ∈ ab_tb := (ab_mem 661 (by decide +kernel) rfl)
theorem kl_J6_100266 : Cond.constant RJ6 266 (858993459 : Int64).toInt32 ∈ ab_tb := (ab_mem 662 (by decide +kernel) rfl)
theorem kl_J6_100267 : Cond.constant RJ6 267 (252645135 : Int64).toInt32 ∈ ab_tb := (ab_mem 663 (by decide +kernel) rfl)
theorem ml_L_13 : Cond.methodLink RL 13 yX8_write ∈ ab_tb := (ab_mem 242 (by decide +kernel) rfl)
theorem ml_L_17 : Cond.methodLink RL 17 yX9_write ∈ ab_tb := (ab_mem 907 (by decide +kernel) rfl)
theorem ml_L_18 : Cond.methodLink RL 18 yX8_wipe ∈ ab_tb := (ab_mem 254 (by decide +kernel) rfl)
theorem ml_L_22 : Cond.methodLink RL 22 yX9_wipe ∈ ab_tb := (ab_mem 915 (by decide +kernel) rfl)
theorem ml_L_23 : Cond.methodLink RL 23 yX8_fault ∈ ab_tb := (ab_mem 262 (by decide +kernel) rfl)
theorem ml_L_26 : Cond.methodLink RL 26 yX9_fault ∈ ab_tb := (ab_mem 919 (by decide +kernel) rfl)
theorem ml_L_27 : Cond.methodLink RL 27 yX8_army ∈ ab_tb := (ab_mem 290 (by decide +kernel) rfl)
theorem ml_L_30 : Cond.methodLink RL 30 yX9_army ∈ ab_tb := (ab_mem 943 (by decide +kernel) rfl)
theorem ml_L_31 : Cond.methodLink RL 31 yX8_about ∈ ab_tb := (ab_mem 338 (by decide +kernel) rfl)
theorem ml_L_34 : Cond.methodLink RL 34 yX9_about ∈ ab_tb := (ab_mem 947 (by decide +kernel) rfl)
theorem ml_L_35 : Cond.methodLink RL 35 yX8_man ∈ ab_tb := (ab_mem 401 (by decide +kernel) rfl)
theorem ml_L_39 : Cond.methodLink RL 39 yX9_man ∈ ab_tb := (ab_mem 976 (by decide +kernel) rfl)
theorem ml_L_40 : Cond.methodLink RL 40 yX8_stretch ∈ ab_tb := (ab_mem 410 (by decide +kernel) rfl)
theorem ml_L_43 : Cond.methodLink RL 43 yX9_stretch ∈ ab_tb := (ab_mem 984 (by decide +kernel) rfl)
theorem ml_L_44 : Cond.methodLink RL 44 yX8_day ∈ ab_tb := (ab_mem 431 (by decide +kernel) rfl)
theorem ml_L_47 : Cond.methodLink RL 47 yX9_day ∈ ab_tb := (ab_mem 988 (by decide +kernel) rfl)
theorem ml_L_48 : Cond.methodLink RL 48 yX8_halt ∈ ab_tb := (ab_mem 476 (by decide +kernel) rfl)
theorem ml_L_51 : Cond.methodLink RL 51 yX9_halt ∈ ab_tb := (ab_mem 1007 (by decide +kernel) rfl)
theorem ml_L_52 : Cond.methodLink RL 52 yX8_gravel ∈ ab_tb := (ab_mem 484 (by decide +kernel) rfl)
theorem ml_L_55 : Cond.methodLink RL 55 yX9_gravel ∈ ab_tb := (ab_mem 1015 (by decide +kernel) rfl)
theorem ml_L_56 : Cond.methodLink RL 56 yX8_pull ∈ ab_tb := (ab_mem 493 (by decide +kernel) rfl)
theorem ml_L_59 : Cond.methodLink RL 59 yX9_pull ∈ ab_tb := (ab_mem 1019 (by decide +kernel) rfl)
theorem ml_L_60 : Cond.methodLink RL 60 yX8_undo ∈ ab_tb := (ab_mem 505 (by decide +kernel) rfl)
theorem ml_L_63 : Cond.methodLink RL 63 yX9_undo ∈ ab_tb := (ab_mem 1023 (by decide +kernel) rfl)
theorem ml_L_64 : Cond.methodLink RL 64 yX8_later ∈ ab_tb := (ab_mem 519 (by decide +kernel) rfl)
theorem ml_L_67 : Cond.methodLink RL 67 yX9_later ∈ ab_tb := (ab_mem 1027 (by decide +kernel) rfl)
theorem ml_L_68 : Cond.methodLink RL 68 yX8_comes ∈ ab_tb := (ab_mem 545 (by decide +kernel) rfl)
theorem ml_L_71 : Cond.methodLink RL 71 yX9_comes ∈ ab_tb := (ab_mem 1040 (by decide +kernel) rfl)
theorem ml_L_72 : Cond.methodLink RL 72 yX8_leads ∈ ab_tb := (ab_mem 557 (by decide +kernel) rfl)
theorem ml_L_75 : Cond.methodLink RL 75 yX9_leads ∈ ab_tb := (ab_mem 1048 (by decide +kernel) rfl)
theorem ml_L_76 : Cond.methodLink RL 76 yX8_cure ∈ ab_tb := (ab_mem 566 (by decide +kernel) rfl)
theorem ml_L_79 : Cond.methodLink RL 79 yX9_cure ∈ ab_tb := (ab_mem 1052 (by decide +kernel) rfl)
theorem ml_L_80 : Cond.methodLink RL 80 yX8_plan ∈ ab_tb := (ab_mem 584 (by decide +kernel) rfl)
theorem ml_L_83 : Cond.methodLink RL 83 yX9_plan ∈ ab_tb := (ab_mem 1056 (by decide +kernel) rfl)
theorem ml_L_86 : Cond.methodLink RL 86 yX8_judge ∈ ab_tb := (ab_mem 622 (by decide +kernel) rfl)
theorem ml_L_90 : Cond.methodLink RL 90 yX9_judge ∈ ab_tb := (ab_mem 1072 (by decide +kernel) rfl)
theorem ml_L_91 : Cond.methodLink RL 91 yX8_share ∈ ab_tb := (ab_mem 645 (by decide +kernel) rfl)
theorem ml_L_95 : Cond.methodLink RL 95 yX9_share ∈ ab_tb := (ab_mem 1093 (by decide +kernel) rfl)
theorem ml_L_96 : Cond.methodLink RL 96 yX8_attempt ∈ ab_tb := (ab_mem 687 (by decide +kernel) rfl)
theorem ml_L_100 : Cond.methodLink RL 100 yX9_attempt ∈ ab_tb := (ab_mem 1109 (by decide +kernel) rfl)
theorem ml_L_101 : Cond.methodLink RL 101 yX8_unattempt ∈ ab_tb := (ab_mem 695 (by decide +kernel) rfl)
theorem ml_L_104 : Cond.methodLink RL 104 yX9_unattempt ∈ ab_tb := (ab_mem 1115 (by decide +kernel) rfl)
theorem ml_L_105 : Cond.methodLink RL 105 yX8_paces ∈ ab_tb := (ab_mem 703 (by decide +kernel) rfl)
theorem ml_L_108 : Cond.methodLink RL 108 yX9_paces ∈ ab_tb := (ab_mem 1119 (by decide +kernel) rfl)
theorem ml_L_109 : Cond.methodLink RL 109 yX8_rests ∈ ab_tb := (ab_mem 720 (by decide +kernel) rfl)
theorem ml_L_112 : Cond.methodLink RL 112 yX9_rests ∈ ab_tb := (ab_mem 1123 (by decide +kernel) rfl)
theorem ml_L_113 : Cond.methodLink RL 113 yX8_thorny ∈ ab_tb := (ab_mem 745 (by decide +kernel) rfl)
theorem ml_L_117 : Cond.methodLink RL 117 yX9_thorny ∈ ab_tb := (ab_mem 1127 (by decide +kernel) rfl)
theorem ml_L_118 : Cond.methodLink RL 118 yX8_seed ∈ ab_tb := (ab_mem 762 (by decide +kernel) rfl)
theorem ml_L_122 : Cond.methodLink RL 122 yX9_seed ∈ ab_tb := (ab_mem 1132 (by decide +kernel) rfl)
theorem ml_L_123 : Cond.methodLink RL 123 yX8_campaigns ∈ ab_tb := (ab_mem 766 (by decide +kernel) rfl)
theorem ml_L_126 : Cond.methodLink RL 126 yX9_campaigns ∈ ab_tb := (ab_mem 1136 (by decide +kernel) rfl)
theorem ml_L_127 : Cond.methodLink RL 127 yX8_keep ∈ ab_tb := (ab_mem 784 (by decide +kernel) rfl)
theorem ml_L_130 : Cond.methodLink RL 130 yX9_keep ∈ ab_tb := (ab_mem 1143 (by decide +kernel) rfl)
theorem ml_L_131 : Cond.methodLink RL 131 yX8_again ∈ ab_tb := (ab_mem 788 (by decide +kernel) rfl)
theorem ml_L_134 : Cond.methodLink RL 134 yX9_again ∈ ab_tb := (ab_mem 1147 (by decide +kernel) rfl)
theorem kl_L_84 : Cond.constantLong RL 84 (4294967295) ∈ ab_tb := (ab_mem 1151 (by decide +kernel) rfl)
section ABL
variable {a : Option FieldType} {b : List (Nat × Nat × Nat)} {c : List (Nat × Nat × ab_Sem)} {d : List (Nat × Int64)} {g : List (Nat × Nat)} {r : ab_R} {P : ab_P} {pc : Nat} {lv : ab_L} {st : List Value} {M : ab_M} {k : ab_K}
def kl_X0 : List (Nat × Int64) := []
theorem ko_X0 : ∀ (idx : Nat) (v : Int64), ab_lk kl_X0 idx = some v → (idx < 100000 → Cond.constantLong RX0 idx v ∈ ab_tb) ∧ ∀ j, idx = j + 100000 → Cond.constant RX0 j v.toInt32 ∈ ab_tb := ab_kl_nil
def gs_X0 : List (Nat × Nat) := []
theorem so_X0 : ∀ (idx r : Nat), ab_lk gs_X0 idx = some r → ∃ t ∈ ab_sts, t.2.2.1 = r ∧ (Cond.fieldLink RX0 idx "LameLead" t.1 t.2.1 ∈ ab_tb ∨ Cond.fieldLinkNest RX0 idx "LameLead" t.1 t.2.1 "LameLead" ∈ ab_tb) := ab_gs_nil
def kl_X1 : List (Nat × Int64) := []
theorem ko_X1 : ∀ (idx : Nat) (v : Int64), ab_lk kl_X1 idx = some v → (idx < 100000 → Cond.constantLong RX1 idx v ∈ ab_tb) ∧ ∀ j, idx = j + 100000 → Cond.constant RX1 j v.toInt32 ∈ ab_tb := ab_kl_nil
def gs_X1 : List (Nat × Nat) := []
theorem so_X1 : ∀ (idx r : Nat), ab_lk gs_X1 idx = some r → ∃ t ∈ ab_sts, t.2.2.1 = r ∧ (Cond.fieldLink RX1 idx "LameLead" t.1 t.2.1 ∈ ab_tb ∨ Cond.fieldLinkNest RX1 idx "LameLead" t.1 t.2.1 "LameLead" ∈ ab_tb) := ab_gs_nil
def kl_X2 : List (Nat × Int64) := [(52, 15), (54, 255)]
theorem ko_X2 : ∀ (idx : Nat) (v : Int64), ab_lk kl_X2 idx = some v → (idx < 100000 → Cond.constantLong RX2 idx v ∈ ab_tb) ∧ ∀ j, idx = j + 100000 → Cond.constant RX2 j v.toInt32 ∈ ab_tb := (ab_kl_L (by decide) kl_X2_52 (ab_kl_L (by decide) kl_X2_54 ab_kl_nil))
def gs_X2 : List (Nat × Nat) := []
theorem so_X2 : ∀ (idx r : Nat), ab_lk gs_X2 idx = some r → ∃ t ∈ ab_sts, t.2.2.1 = r ∧ (Cond.fieldLink RX2 idx "LameLead" t.1 t.2.1 ∈ ab_tb ∨ Cond.fieldLinkNest RX2 idx "LameLead" t.1 t.2.1 "LameLead" ∈ ab_tb) := ab_gs_nil
theorem e_kl_X2_52 : ab_ds (a, b, c, kl_X2, g, r) P (.ok (.ldc2_w 52, 3)) pc lv st M k = k (pc + 3) lv (.long 15 :: st) M := by simp [ab_ds, ab_lo, ab_st, kl_X2, ab_lk]
theorem e_kl_X2_54 : ab_ds (a, b, c, kl_X2, g, r) P (.ok (.ldc2_w 54, 3)) pc lv st M k = k (pc + 3) lv (.long 255 :: st) M := by simp [ab_ds, ab_lo, ab_st, kl_X2, ab_lk]
def kl_X3 : List (Nat × Int64) := [(88, 1000)]
theorem ko_X3 : ∀ (idx : Nat) (v : Int64), ab_lk kl_X3 idx = some v → (idx < 100000 → Cond.constantLong RX3 idx v ∈ ab_tb) ∧ ∀ j, idx = j + 100000 → Cond.constant RX3 j v.toInt32 ∈ ab_tb := (ab_kl_L (by decide) kl_X3_88 ab_kl_nil)
def gs_X3 : List (Nat × Nat) := []
theorem so_X3 : ∀ (idx r : Nat), ab_lk gs_X3 idx = some r → ∃ t ∈ ab_sts, t.2.2.1 = r ∧ (Cond.fieldLink RX3 idx "LameLead" t.1 t.2.1 ∈ ab_tb ∨ Cond.fieldLinkNest RX3 idx "LameLead" t.1 t.2.1 "LameLead" ∈ ab_tb) := ab_gs_nil
theorem e_kl_X3_88 : ab_ds (a, b, c, kl_X3, g, r) P (.ok (.ldc2_w 88, 3)) pc lv st M k = k (pc + 3) lv (.long 1000 :: st) M := by simp [ab_ds, ab_lo, ab_st, kl_X3, ab_lk]
def kl_X4 : List (Nat × Int64) := []
theorem ko_X4 : ∀ (idx : Nat) (v : Int64), ab_lk kl_X4 idx = some v → (idx < 100000 → Cond.constantLong RX4 idx v ∈ ab_tb) ∧ ∀ j, idx = j + 100000 → Cond.constant RX4 j v.toInt32 ∈ ab_tb := ab_kl_nil
def gs_X4 : List (Nat × Nat) := []
theorem so_X4 : ∀ (idx r : Nat), ab_lk gs_X4 idx = some r → ∃ t ∈ ab_sts, t.2.2.1 = r ∧ (Cond.fieldLink RX4 idx "LameLead" t.1 t.2.1 ∈ ab_tb ∨ Cond.fieldLinkNest RX4 idx "LameLead" t.1 t.2.1 "LameLead" ∈ ab_tb) := ab_gs_nil
def kl_X5 : List (Nat × Int64) := []
theorem ko_X5 : ∀ (idx : Nat) (v : Int64), ab_lk kl_X5 idx = some v → (idx < 100000 → Cond.constantLong RX5 idx v ∈ ab_tb) ∧ ∀ j, idx = j + 100000 → Cond.constant RX5 j v.toInt32 ∈ ab_tb := ab_kl_nil
def gs_X5 : List (Nat × Nat) := [(23, 103), (26, 104), (33, 105), (36, 106)]
theorem so_X5 : ∀ (idx r : Nat), ab_lk gs_X5 idx = some r → ∃ t ∈ ab_sts, t.2.2.1 = r ∧ (Cond.fieldLink RX5 idx "LameLead" t.1 t.2.1 ∈ ab_tb ∨ Cond.fieldLinkNest RX5 idx "LameLead" t.1 t.2.1 "LameLead" ∈ ab_tb) := (ab_gs_cons sl_X5_23 (ab_gs_cons sl_X5_26 (ab_gs_cons sl_X5_33 (ab_gs_cons sl_X5_36 ab_gs_nil))))
theorem e_gs_X5_23 : ab_ds (a, b, c, d, gs_X5, r) P (.ok (.getstatic 23, 3)) pc lv st M k = k (pc + 3) lv (.ref 103 :: st) M := by simp [ab_ds, ab_lo, ab_st, gs_X5, ab_lk]
theorem e_gs_X5_26 : ab_ds (a, b, c, d, gs_X5, r) P (.ok (.getstatic 26, 3)) pc lv st M k = k (pc + 3) lv (.ref 104 :: st) M := by simp [ab_ds, ab_lo, ab_st, gs_X5, ab_lk]
theorem e_gs_X5_33 : ab_ds (a, b, c, d, gs_X5, r) P (.ok (.getstatic 33, 3)) pc lv st M k = k (pc + 3) lv (.ref 105 :: st) M := by simp [ab_ds, ab_lo, ab_st, gs_X5, ab_lk]
theorem e_gs_X5_36 : ab_ds (a, b, c, d, gs_X5, r) P (.ok (.getstatic 36, 3)) pc lv st M k = k (pc + 3) lv (.ref 106 :: st) M := by simp [ab_ds, ab_lo, ab_st, gs_X5, ab_lk]
def kl_X6 : List (Nat × Int64) := []
theorem ko_X6 : ∀ (idx : Nat) (v : Int64), ab_lk kl_X6 idx = some v → (idx < 100000 → Cond.constantLong RX6 idx v ∈ ab_tb) ∧ ∀ j, idx = j + 100000 → Cond.constant RX6 j v.toInt32 ∈ ab_tb := ab_kl_nil
def gs_X6 : List (Nat × Nat) := []
theorem so_X6 : ∀ (idx r : Nat), ab_lk gs_X6 idx = some r → ∃ t ∈ ab_sts, t.2.2.1 = r ∧ (Cond.fieldLink RX6 idx "LameLead" t.1 t.2.1 ∈ ab_tb ∨ Cond.fieldLinkNest RX6 idx "LameLead" t.1 t.2.1 "LameLead" ∈ ab_tb) := ab_gs_nil
def kl_X7 : List (Nat × Int64) := []
theorem ko_X7 : ∀ (idx : Nat) (v : Int64), ab_lk kl_X7 idx = some v → (idx < 100000 → Cond.constantLong RX7 idx v ∈ ab_tb) ∧ ∀ j, idx = j + 100000 → Cond.constant RX7 j v.toInt32 ∈ ab_tb := ab_kl_nil
def gs_X7 : List (Nat × Nat) := []
theorem so_X7 : ∀ (idx r : Nat), ab_lk gs_X7 idx = some r → ∃ t ∈ ab_sts, t.2.2.1 = r ∧ (Cond.fieldLink RX7 idx "LameLead" t.1 t.2.1 ∈ ab_tb ∨ Cond.fieldLinkNest RX7 idx "LameLead" t.1 t.2.1 "LameLead" ∈ ab_tb) := ab_gs_nil
def kl_X8 : List (Nat × Int64) := [(69, (-1)), (264, 6364136223846793005), (266, 1442695040888963407), (268, 20)]
theorem ko_X8 : ∀ (idx : Nat) (v : Int64), ab_lk kl_X8 idx = some v → (idx < 100000 → Cond.constantLong RX8 idx v ∈ ab_tb) ∧ ∀ j, idx = j + 100000 → Cond.constant RX8 j v.toInt32 ∈ ab_tb := (ab_kl_L (by decide) kl_X8_69 (ab_kl_L (by decide) kl_X8_264 (ab_kl_L (by decide) kl_X8_266 (ab_kl_L (by decide) kl_X8_268 ab_kl_nil))))
def gs_X8 : List (Nat × Nat) := [(216, 102), (273, 101), (277, 100)]
theorem so_X8 : ∀ (idx r : Nat), ab_lk gs_X8 idx = some r → ∃ t ∈ ab_sts, t.2.2.1 = r ∧ (Cond.fieldLink RX8 idx "LameLead" t.1 t.2.1 ∈ ab_tb ∨ Cond.fieldLinkNest RX8 idx "LameLead" t.1 t.2.1 "LameLead" ∈ ab_tb) := (ab_gs_cons sl_X8_216 (ab_gs_cons sl_X8_273 (ab_gs_cons sl_X8_277 ab_gs_nil)))
theorem e_kl_X8_69 : ab_ds (a, b, c, kl_X8, g, r) P (.ok (.ldc2_w 69, 3)) pc lv st M k = k (pc + 3) lv (.long (-1) :: st) M := by simp [ab_ds, ab_lo, ab_st, kl_X8, ab_lk]
theorem e_kl_X8_264 : ab_ds (a, b, c, kl_X8, g, r) P (.ok (.ldc2_w 264, 3)) pc lv st M k = k (pc + 3) lv (.long 6364136223846793005 :: st) M := by simp [ab_ds, ab_lo, ab_st, kl_X8, ab_lk]
theorem e_kl_X8_266 : ab_ds (a, b, c, kl_X8, g, r) P (.ok (.ldc2_w 266, 3)) pc lv st M k = k (pc + 3) lv (.long 1442695040888963407 :: st) M := by simp [ab_ds, ab_lo, ab_st, kl_X8, ab_lk]
theorem e_kl_X8_268 : ab_ds (a, b, c, kl_X8, g, r) P (.ok (.ldc2_w 268, 3)) pc lv st M k = k (pc + 3) lv (.long 20 :: st) M := by simp [ab_ds, ab_lo, ab_st, kl_X8, ab_lk]
theorem e_gs_X8_216 : ab_ds (a, b, c, d, gs_X8, r) P (.ok (.getstatic 216, 3)) pc lv st M k = k (pc + 3) lv (.ref 102 :: st) M := by simp [ab_ds, ab_lo, ab_st, gs_X8, ab_lk]
theorem e_gs_X8_273 : ab_ds (a, b, c, d, gs_X8, r) P (.ok (.getstatic 273, 3)) pc lv st M k = k (pc + 3) lv (.ref 101 :: st) M := by simp [ab_ds, ab_lo, ab_st, gs_X8, ab_lk]
theorem e_gs_X8_277 : ab_ds (a, b, c, d, gs_X8, r) P (.ok (.getstatic 277, 3)) pc lv st M k = k (pc + 3) lv (.ref 100 :: st) M := by simp [ab_ds, ab_lo, ab_st, gs_X8, ab_lk]
def kl_X9 : List (Nat × Int64) := [(76, 255), (167, 40), (194, 20), (206, 4), (208, 1000), (230, 3), (232, 9), (246, 10), (252, 30), (254, 6364136223846793005), (256, 1442695040888963407)]
theorem ko_X9 : ∀ (idx : Nat) (v : Int64), ab_lk kl_X9 idx = some v → (idx < 100000 → Cond.constantLong RX9 idx v ∈ ab_tb) ∧ ∀ j, idx = j + 100000 → Cond.constant RX9 j v.toInt32 ∈ ab_tb := (ab_kl_L (by decide) kl_X9_76 (ab_kl_L (by decide) kl_X9_167 (ab_kl_L (by decide) kl_X9_194 (ab_kl_L (by decide) kl_X9_206 (ab_kl_L (by decide) kl_X9_208 (ab_kl_L (by decide) kl_X9_230 (ab_kl_L (by decide) kl_X9_232 (ab_kl_L (by decide) kl_X9_246 (ab_kl_L (by decide) kl_X9_252 (ab_kl_L (by decide) kl_X9_254 (ab_kl_L (by decide) kl_X9_256 ab_kl_nil)))))))))))
def gs_X9 : List (Nat × Nat) := []
theorem so_X9 : ∀ (idx r : Nat), ab_lk gs_X9 idx = some r → ∃ t ∈ ab_sts, t.2.2.1 = r ∧ (Cond.fieldLink RX9 idx "LameLead" t.1 t.2.1 ∈ ab_tb ∨ Cond.fieldLinkNest RX9 idx "LameLead" t.1 t.2.1 "LameLead" ∈ ab_tb) := ab_gs_nil
theorem e_kl_X9_76 : ab_ds (a, b, c, kl_X9, g, r) P (.ok (.ldc2_w 76, 3)) pc lv st M k = k (pc + 3) lv (.long 255 :: st) M := by simp [ab_ds, ab_lo, ab_st, kl_X9, ab_lk]
theorem e_kl_X9_167 : ab_ds (a, b, c, kl_X9, g, r) P (.ok (.ldc2_w 167, 3)) pc lv st M k = k (pc + 3) lv (.long 40 :: st) M := by simp [ab_ds, ab_lo, ab_st, kl_X9, ab_lk]
theorem e_kl_X9_194 : ab_ds (a, b, c, kl_X9, g, r) P (.ok (.ldc2_w 194, 3)) pc lv st M k = k (pc + 3) lv (.long 20 :: st) M := by simp [ab_ds, ab_lo, ab_st, kl_X9, ab_lk]
theorem e_kl_X9_206 : ab_ds (a, b, c, kl_X9, g, r) P (.ok (.ldc2_w 206, 3)) pc lv st M k = k (pc + 3) lv (.long 4 :: st) M := by simp [ab_ds, ab_lo, ab_st, kl_X9, ab_lk]
theorem e_kl_X9_208 : ab_ds (a, b, c, kl_X9, g, r) P (.ok (.ldc2_w 208, 3)) pc lv st M k = k (pc + 3) lv (.long 1000 :: st) M := by simp [ab_ds, ab_lo, ab_st, kl_X9, ab_lk]
theorem e_kl_X9_230 : ab_ds (a, b, c, kl_X9, g, r) P (.ok (.ldc2_w 230, 3)) pc lv st M k = k (pc + 3) lv (.long 3 :: st) M := by simp [ab_ds, ab_lo, ab_st, kl_X9, ab_lk]
theorem e_kl_X9_232 : ab_ds (a, b, c, kl_X9, g, r) P (.ok (.ldc2_w 232, 3)) pc lv st M k = k (pc + 3) lv (.long 9 :: st) M := by simp [ab_ds, ab_lo, ab_st, kl_X9, ab_lk]
theorem e_kl_X9_246 : ab_ds (a, b, c, kl_X9, g, r) P (.ok (.ldc2_w 246, 3)) pc lv st M k = k (pc + 3) lv (.long 10 :: st) M := by simp [ab_ds, ab_lo, ab_st, kl_X9, ab_lk]
theorem e_kl_X9_252 : ab_ds (a, b, c, kl_X9, g, r) P (.ok (.ldc2_w 252, 3)) pc lv st M k = k (pc + 3) lv (.long 30 :: st) M := by simp [ab_ds, ab_lo, ab_st, kl_X9, ab_lk]
theorem e_kl_X9_254 : ab_ds (a, b, c, kl_X9, g, r) P (.ok (.ldc2_w 254, 3)) pc lv st M k = k (pc + 3) lv (.long 6364136223846793005 :: st) M := by simp [ab_ds, ab_lo, ab_st, kl_X9, ab_lk]
theorem e_kl_X9_256 : ab_ds (a, b, c, kl_X9, g, r) P (.ok (.ldc2_w 256, 3)) pc lv st M k = k (pc + 3) lv (.long 1442695040888963407 :: st) M := by simp [ab_ds, ab_lo, ab_st, kl_X9, ab_lk]
def kl_J6 : List (Nat × Int64) := [(100265, 1431655765), (100266, 858993459), (100267, 252645135)]
theorem ko_J6 : ∀ (idx : Nat) (v : Int64), ab_lk kl_J6 idx = some v → (idx < 100000 → Cond.constantLong RJ6 idx v ∈ ab_tb) ∧ ∀ j, idx = j + 100000 → Cond.constant RJ6 j v.toInt32 ∈ ab_tb := (ab_kl_I (j := 265) (by decide) kl_J6_100265 (ab_kl_I (j := 266) (by decide) kl_J6_100266 (ab_kl_I (j := 267) (by decide) kl_J6_100267 ab_kl_nil)))
def gs_J6 : List (Nat × Nat) := []
theorem so_J6 : ∀ (idx r : Nat), ab_lk gs_J6 idx = some r → ∃ t ∈ ab_sts, t.2.2.1 = r ∧ (Cond.fieldLink RJ6 idx "LameLead" t.1 t.2.1 ∈ ab_tb ∨ Cond.fieldLinkNest RJ6 idx "LameLead" t.1 t.2.1 "LameLead" ∈ ab_tb) := ab_gs_nil
theorem e_kl_J6_100265 : ab_ds (a, b, c, kl_J6, g, r) P (.ok (.ldc 265, 2)) pc lv st M k = k (pc + 2) lv (.int 1431655765 :: st) M := by simp [ab_ds, ab_lo, ab_st, kl_J6, ab_lk]
theorem e_kl_J6_100266 : ab_ds (a, b, c, kl_J6, g, r) P (.ok (.ldc 266, 2)) pc lv st M k = k (pc + 2) lv (.int 858993459 :: st) M := by simp [ab_ds, ab_lo, ab_st, kl_J6, ab_lk]
theorem e_kl_J6_100267 : ab_ds (a, b, c, kl_J6, g, r) P (.ok (.ldc 267, 2)) pc lv st M k = k (pc + 2) lv (.int 252645135 :: st) M := by simp [ab_ds, ab_lo, ab_st, kl_J6, ab_lk]
def kl_J9 : List (Nat × Int64) := []
theorem ko_J9 : ∀ (idx : Nat) (v : Int64), ab_lk kl_J9 idx = some v → (idx < 100000 → Cond.constantLong RJ9 idx v ∈ ab_tb) ∧ ∀ j, idx = j + 100000 → Cond.constant RJ9 j v.toInt32 ∈ ab_tb := ab_kl_nil
def gs_J9 : List (Nat × Nat) := []
theorem so_J9 : ∀ (idx r : Nat), ab_lk gs_J9 idx = some r → ∃ t ∈ ab_sts, t.2.2.1 = r ∧ (Cond.fieldLink RJ9 idx "LameLead" t.1 t.2.1 ∈ ab_tb ∨ Cond.fieldLinkNest RJ9 idx "LameLead" t.1 t.2.1 "LameLead" ∈ ab_tb) := ab_gs_nil
def kl_L : List (Nat × Int64) := [(84, 4294967295)]
theorem ko_L : ∀ (idx : Nat) (v : Int64), ab_lk kl_L idx = some v → (idx < 100000 → Cond.constantLong RL idx v ∈ ab_tb) ∧ ∀ j, idx = j + 100000 → Cond.constant RL j v.toInt32 ∈ ab_tb := (ab_kl_L (by decide) kl_L_84 ab_kl_nil)
def gs_L : List (Nat × Nat) := []
theorem so_L : ∀ (idx r : Nat), ab_lk gs_L idx = some r → ∃ t ∈ ab_sts, t.2.2.1 = r ∧ (Cond.fieldLink RL idx "LameLead" t.1 t.2.1 ∈ ab_tb ∨ Cond.fieldLinkNest RL idx "LameLead" t.1 t.2.1 "LameLead" ∈ ab_tb) := ab_gs_nil
theorem e_kl_L_84 : ab_ds (a, b, c, kl_L, g, r) P (.ok (.ldc2_w 84, 3)) pc lv st M k = k (pc + 3) lv (.long 4294967295 :: st) M := by simp [ab_ds, ab_lo, ab_st, kl_L, ab_lk]
end ABL
end
