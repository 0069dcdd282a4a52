section
-- ===== PART A: goes FIRST, ahead of the names: the tables' words, and 'selects' of the private methods out of them =====
/-- a private method of a class that the tables say can be made, by its rows of tables_1 -/
def lw_okq (q : MethodName × Nat) : Prop := (q.1.cls ≠ "java/lang/invoke/MethodHandle" ∧ q.1.cls ≠ "java/lang/invoke/VarHandle") ∧ Cond.instantiable q.1.cls q.2 ∈ tables_1 ∧ Cond.privateMethod q.1 ∈ tables_1 ∧ Cond.instanceMethod q.1 ∈ tables_1
theorem lw_p0 : lw_okq (⟨"JarMinutes$Person", "cookWorth", "(I)I"⟩, 4) := ⟨⟨by decide +kernel, by decide +kernel⟩, List.mem_of_getElem? (i := 28) (by decide +kernel), List.mem_of_getElem? (i := 265) (by decide +kernel), List.mem_of_getElem? (i := 266) (by decide +kernel)⟩
theorem lw_p1 : lw_okq (⟨"JarMinutes$Tape", "readPerson", "(LJarMinutes$Person;)I"⟩, 6) := ⟨⟨by decide +kernel, by decide +kernel⟩, List.mem_of_getElem? (i := 114) (by decide +kernel), List.mem_of_getElem? (i := 318) (by decide +kernel), List.mem_of_getElem? (i := 319) (by decide +kernel)⟩
theorem lw_p2 : lw_okq (⟨"JarMinutes$Tape", "next", "()I"⟩, 6) := ⟨⟨by decide +kernel, by decide +kernel⟩, List.mem_of_getElem? (i := 114) (by decide +kernel), List.mem_of_getElem? (i := 322) (by decide +kernel), List.mem_of_getElem? (i := 323) (by decide +kernel)⟩
theorem lw_p3 : lw_okq (⟨"JarMinutes$Tape", "faultHere", "()I"⟩, 6) := ⟨⟨by decide +kernel, by decide +kernel⟩, List.mem_of_getElem? (i := 114) (by decide +kernel), List.mem_of_getElem? (i := 329) (by decide +kernel), List.mem_of_getElem? (i := 330) (by decide +kernel)⟩
theorem lw_p4 : lw_okq (⟨"JarMinutes$Tape", "readNumber", "(I)I"⟩, 6) := ⟨⟨by decide +kernel, by decide +kernel⟩, List.mem_of_getElem? (i := 114) (by decide +kernel), List.mem_of_getElem? (i := 333) (by decide +kernel), List.mem_of_getElem? (i := 334) (by decide +kernel)⟩
theorem lw_p5 : lw_okq (⟨"JarMinutes$Tape", "passes", "(C)Z"⟩, 6) := ⟨⟨by decide +kernel, by decide +kernel⟩, List.mem_of_getElem? (i := 114) (by decide +kernel), List.mem_of_getElem? (i := 341) (by decide +kernel), List.mem_of_getElem? (i := 342) (by decide +kernel)⟩
theorem lw_p6 : lw_okq (⟨"JarMinutes$Tape", "readHourNumber", "(I)I"⟩, 6) := ⟨⟨by decide +kernel, by decide +kernel⟩, List.mem_of_getElem? (i := 114) (by decide +kernel), List.mem_of_getElem? (i := 368) (by decide +kernel), List.mem_of_getElem? (i := 369) (by decide +kernel)⟩
theorem lw_p7 : lw_okq (⟨"JarMinutes$Planner", "mostFrom", "(II)I"⟩, 3) := ⟨⟨by decide +kernel, by decide +kernel⟩, List.mem_of_getElem? (i := 145) (by decide +kernel), List.mem_of_getElem? (i := 451) (by decide +kernel), List.mem_of_getElem? (i := 452) (by decide +kernel)⟩
theorem lw_p8 : lw_okq (⟨"JarMinutes$Planner", "mostBy", "(III)I"⟩, 3) := ⟨⟨by decide +kernel, by decide +kernel⟩, List.mem_of_getElem? (i := 145) (by decide +kernel), List.mem_of_getElem? (i := 455) (by decide +kernel), List.mem_of_getElem? (i := 456) (by decide +kernel)⟩
theorem lw_p9 : lw_okq (⟨"JarMinutes$Planner", "firstBest", "(II)I"⟩, 3) := ⟨⟨by decide +kernel, by decide +kernel⟩, List.mem_of_getElem? (i := 145) (by decide +kernel), List.mem_of_getElem? (i := 464) (by decide +kernel), List.mem_of_getElem? (i := 465) (by decide +kernel)⟩
theorem lw_p10 : lw_okq (⟨"JarMinutes", "clocksRefusal", "(IIII)I"⟩, 8) := ⟨⟨by decide +kernel, by decide +kernel⟩, List.mem_of_getElem? (i := 13) (by decide +kernel), List.mem_of_getElem? (i := 529) (by decide +kernel), List.mem_of_getElem? (i := 530) (by decide +kernel)⟩
theorem lw_p11 : lw_okq (⟨"JarMinutes", "rowRefusal", "(IIII)I"⟩, 8) := ⟨⟨by decide +kernel, by decide +kernel⟩, List.mem_of_getElem? (i := 13) (by decide +kernel), List.mem_of_getElem? (i := 533) (by decide +kernel), List.mem_of_getElem? (i := 534) (by decide +kernel)⟩
theorem lw_p12 : lw_okq (⟨"JarMinutes$ClockRows", "countWith", "(II)J"⟩, 2) := ⟨⟨by decide +kernel, by decide +kernel⟩, List.mem_of_getElem? (i := 162) (by decide +kernel), List.mem_of_getElem? (i := 558) (by decide +kernel), List.mem_of_getElem? (i := 559) (by decide +kernel)⟩
theorem lw_p13 : lw_okq (⟨"JarMinutes$ClockRows", "keepTold", "(I)V"⟩, 2) := ⟨⟨by decide +kernel, by decide +kernel⟩, List.mem_of_getElem? (i := 162) (by decide +kernel), List.mem_of_getElem? (i := 565) (by decide +kernel), List.mem_of_getElem? (i := 566) (by decide +kernel)⟩
theorem lw_p14 : lw_okq (⟨"JarMinutes$ClockRows", "passHour", "(II)V"⟩, 2) := ⟨⟨by decide +kernel, by decide +kernel⟩, List.mem_of_getElem? (i := 162) (by decide +kernel), List.mem_of_getElem? (i := 569) (by decide +kernel), List.mem_of_getElem? (i := 570) (by decide +kernel)⟩
theorem lw_p15 : lw_okq (⟨"JarMinutesModel", "add", "(IIII)V"⟩, 33) := ⟨⟨by decide +kernel, by decide +kernel⟩, List.mem_of_getElem? (i := 615) (by decide +kernel), List.mem_of_getElem? (i := 734) (by decide +kernel), List.mem_of_getElem? (i := 735) (by decide +kernel)⟩
def lw_privs_1 : List (MethodName × Nat) := [(⟨"JarMinutes$Person", "cookWorth", "(I)I"⟩, 4), (⟨"JarMinutes$Tape", "readPerson", "(LJarMinutes$Person;)I"⟩, 6), (⟨"JarMinutes$Tape", "next", "()I"⟩, 6), (⟨"JarMinutes$Tape", "faultHere", "()I"⟩, 6), (⟨"JarMinutes$Tape", "readNumber", "(I)I"⟩, 6), (⟨"JarMinutes$Tape", "passes", "(C)Z"⟩, 6), (⟨"JarMinutes$Tape", "readHourNumber", "(I)I"⟩, 6), (⟨"JarMinutes$Planner", "mostFrom", "(II)I"⟩, 3), (⟨"JarMinutes$Planner", "mostBy", "(III)I"⟩, 3), (⟨"JarMinutes$Planner", "firstBest", "(II)I"⟩, 3), (⟨"JarMinutes", "clocksRefusal", "(IIII)I"⟩, 8), (⟨"JarMinutes", "rowRefusal", "(IIII)I"⟩, 8), (⟨"JarMinutes$ClockRows", "countWith", "(II)J"⟩, 2), (⟨"JarMinutes$ClockRows", "keepTold", "(I)V"⟩, 2), (⟨"JarMinutes$ClockRows", "passHour", "(II)V"⟩, 2), (⟨"JarMinutesModel", "add", "(IIII)V"⟩, 33)]
theorem lw_r1 : ∀ q ∈ lw_privs_1, lw_okq q := List.forall_mem_cons.mpr ⟨lw_p0, List.forall_mem_cons.mpr ⟨lw_p1, List.forall_mem_cons.mpr ⟨lw_p2, List.forall_mem_cons.mpr ⟨lw_p3, List.forall_mem_cons.mpr ⟨lw_p4, List.forall_mem_cons.mpr ⟨lw_p5, List.forall_mem_cons.mpr ⟨lw_p6, List.forall_mem_cons.mpr ⟨lw_p7, List.forall_mem_cons.mpr ⟨lw_p8, List.forall_mem_cons.mpr ⟨lw_p9, List.forall_mem_cons.mpr ⟨lw_p10, List.forall_mem_cons.mpr ⟨lw_p11, List.forall_mem_cons.mpr ⟨lw_p12, List.forall_mem_cons.mpr ⟨lw_p13, List.forall_mem_cons.mpr ⟨lw_p14, List.forall_mem_cons.mpr ⟨lw_p15, fun _ h => absurd h List.not_mem_nil⟩⟩⟩⟩⟩⟩⟩⟩⟩⟩⟩⟩⟩⟩⟩⟩
theorem lw_p16 : lw_okq (⟨"JarMinutesModel", "isOne", "(I)Z"⟩, 33) := ⟨⟨by decide +kernel, by decide +kernel⟩, List.mem_of_getElem? (i := 615) (by decide +kernel), List.mem_of_getElem? (i := 742) (by decide +kernel), List.mem_of_getElem? (i := 743) (by decide +kernel)⟩
theorem lw_p17 : lw_okq (⟨"JarMinutesModel", "worthOf", "(III)I"⟩, 33) := ⟨⟨by decide +kernel, by decide +kernel⟩, List.mem_of_getElem? (i := 615) (by decide +kernel), List.mem_of_getElem? (i := 755) (by decide +kernel), List.mem_of_getElem? (i := 756) (by decide +kernel)⟩
theorem lw_p18 : lw_okq (⟨"JarMinutesModel", "readTown", "()Z"⟩, 33) := ⟨⟨by decide +kernel, by decide +kernel⟩, List.mem_of_getElem? (i := 615) (by decide +kernel), List.mem_of_getElem? (i := 797) (by decide +kernel), List.mem_of_getElem? (i := 798) (by decide +kernel)⟩
theorem lw_p19 : lw_okq (⟨"JarMinutesModel", "readOne", "(I)Z"⟩, 33) := ⟨⟨by decide +kernel, by decide +kernel⟩, List.mem_of_getElem? (i := 615) (by decide +kernel), List.mem_of_getElem? (i := 801) (by decide +kernel), List.mem_of_getElem? (i := 802) (by decide +kernel)⟩
theorem lw_p20 : lw_okq (⟨"JarMinutesModel", "nextByte", "()I"⟩, 33) := ⟨⟨by decide +kernel, by decide +kernel⟩, List.mem_of_getElem? (i := 615) (by decide +kernel), List.mem_of_getElem? (i := 805) (by decide +kernel), List.mem_of_getElem? (i := 806) (by decide +kernel)⟩
theorem lw_p21 : lw_okq (⟨"JarMinutesModel", "readNumber", "(I)I"⟩, 33) := ⟨⟨by decide +kernel, by decide +kernel⟩, List.mem_of_getElem? (i := 615) (by decide +kernel), List.mem_of_getElem? (i := 809) (by decide +kernel), List.mem_of_getElem? (i := 810) (by decide +kernel)⟩
theorem lw_p22 : lw_okq (⟨"JarMinutesModel", "takes", "(I)Z"⟩, 33) := ⟨⟨by decide +kernel, by decide +kernel⟩, List.mem_of_getElem? (i := 615) (by decide +kernel), List.mem_of_getElem? (i := 816) (by decide +kernel), List.mem_of_getElem? (i := 817) (by decide +kernel)⟩
theorem lw_p23 : lw_okq (⟨"JarMinutesModel", "end", "(Z)I"⟩, 33) := ⟨⟨by decide +kernel, by decide +kernel⟩, List.mem_of_getElem? (i := 615) (by decide +kernel), List.mem_of_getElem? (i := 820) (by decide +kernel), List.mem_of_getElem? (i := 821) (by decide +kernel)⟩
theorem lw_p24 : lw_okq (⟨"JarMinutesModel", "readPlan", "()Z"⟩, 33) := ⟨⟨by decide +kernel, by decide +kernel⟩, List.mem_of_getElem? (i := 615) (by decide +kernel), List.mem_of_getElem? (i := 828) (by decide +kernel), List.mem_of_getElem? (i := 829) (by decide +kernel)⟩
theorem lw_p25 : lw_okq (⟨"JarMinutesModel", "readHour", "()Z"⟩, 33) := ⟨⟨by decide +kernel, by decide +kernel⟩, List.mem_of_getElem? (i := 615) (by decide +kernel), List.mem_of_getElem? (i := 832) (by decide +kernel), List.mem_of_getElem? (i := 833) (by decide +kernel)⟩
theorem lw_p26 : lw_okq (⟨"JarMinutesModel", "gainOf", "([I)I"⟩, 33) := ⟨⟨by decide +kernel, by decide +kernel⟩, List.mem_of_getElem? (i := 615) (by decide +kernel), List.mem_of_getElem? (i := 858) (by decide +kernel), List.mem_of_getElem? (i := 859) (by decide +kernel)⟩
theorem lw_p27 : lw_okq (⟨"JarMinutesModel", "findGains", "()V"⟩, 33) := ⟨⟨by decide +kernel, by decide +kernel⟩, List.mem_of_getElem? (i := 615) (by decide +kernel), List.mem_of_getElem? (i := 862) (by decide +kernel), List.mem_of_getElem? (i := 863) (by decide +kernel)⟩
theorem lw_p28 : lw_okq (⟨"JarMinutesModel", "wrongOf", "([I)I"⟩, 33) := ⟨⟨by decide +kernel, by decide +kernel⟩, List.mem_of_getElem? (i := 615) (by decide +kernel), List.mem_of_getElem? (i := 870) (by decide +kernel), List.mem_of_getElem? (i := 871) (by decide +kernel)⟩
theorem lw_p29 : lw_okq (⟨"JarMinutesModel", "areCaught", "(II)Z"⟩, 33) := ⟨⟨by decide +kernel, by decide +kernel⟩, List.mem_of_getElem? (i := 615) (by decide +kernel), List.mem_of_getElem? (i := 874) (by decide +kernel), List.mem_of_getElem? (i := 875) (by decide +kernel)⟩
theorem lw_p30 : lw_okq (⟨"JarMinutesModel", "dayBy", "([I)I"⟩, 33) := ⟨⟨by decide +kernel, by decide +kernel⟩, List.mem_of_getElem? (i := 615) (by decide +kernel), List.mem_of_getElem? (i := 888) (by decide +kernel), List.mem_of_getElem? (i := 889) (by decide +kernel)⟩
theorem lw_p31 : lw_okq (⟨"JarMinutesModel", "findBest", "(Z)I"⟩, 33) := ⟨⟨by decide +kernel, by decide +kernel⟩, List.mem_of_getElem? (i := 615) (by decide +kernel), List.mem_of_getElem? (i := 897) (by decide +kernel), List.mem_of_getElem? (i := 898) (by decide +kernel)⟩
def lw_privs_2 : List (MethodName × Nat) := [(⟨"JarMinutesModel", "isOne", "(I)Z"⟩, 33), (⟨"JarMinutesModel", "worthOf", "(III)I"⟩, 33), (⟨"JarMinutesModel", "readTown", "()Z"⟩, 33), (⟨"JarMinutesModel", "readOne", "(I)Z"⟩, 33), (⟨"JarMinutesModel", "nextByte", "()I"⟩, 33), (⟨"JarMinutesModel", "readNumber", "(I)I"⟩, 33), (⟨"JarMinutesModel", "takes", "(I)Z"⟩, 33), (⟨"JarMinutesModel", "end", "(Z)I"⟩, 33), (⟨"JarMinutesModel", "readPlan", "()Z"⟩, 33), (⟨"JarMinutesModel", "readHour", "()Z"⟩, 33), (⟨"JarMinutesModel", "gainOf", "([I)I"⟩, 33), (⟨"JarMinutesModel", "findGains", "()V"⟩, 33), (⟨"JarMinutesModel", "wrongOf", "([I)I"⟩, 33), (⟨"JarMinutesModel", "areCaught", "(II)Z"⟩, 33), (⟨"JarMinutesModel", "dayBy", "([I)I"⟩, 33), (⟨"JarMinutesModel", "findBest", "(Z)I"⟩, 33)]
theorem lw_r2 : ∀ q ∈ lw_privs_2, lw_okq q := List.forall_mem_cons.mpr ⟨lw_p16, List.forall_mem_cons.mpr ⟨lw_p17, List.forall_mem_cons.mpr ⟨lw_p18, List.forall_mem_cons.mpr ⟨lw_p19, List.forall_mem_cons.mpr ⟨lw_p20, List.forall_mem_cons.mpr ⟨lw_p21, List.forall_mem_cons.mpr ⟨lw_p22, List.forall_mem_cons.mpr ⟨lw_p23, List.forall_mem_cons.mpr ⟨lw_p24, List.forall_mem_cons.mpr ⟨lw_p25, List.forall_mem_cons.mpr ⟨lw_p26, List.forall_mem_cons.mpr ⟨lw_p27, List.forall_mem_cons.mpr ⟨lw_p28, List.forall_mem_cons.mpr ⟨lw_p29, List.forall_mem_cons.mpr ⟨lw_p30, List.forall_mem_cons.mpr ⟨lw_p31, fun _ h => absurd h List.not_mem_nil⟩⟩⟩⟩⟩⟩⟩⟩⟩⟩⟩⟩⟩⟩⟩⟩
theorem lw_p32 : lw_okq (⟨"JarMinutesModel", "choiceOf", "(I)I"⟩, 33) := ⟨⟨by decide +kernel, by decide +kernel⟩, List.mem_of_getElem? (i := 615) (by decide +kernel), List.mem_of_getElem? (i := 915) (by decide +kernel), List.mem_of_getElem? (i := 916) (by decide +kernel)⟩
theorem lw_p33 : lw_okq (⟨"JarMinutesModel", "drawRow", "()V"⟩, 33) := ⟨⟨by decide +kernel, by decide +kernel⟩, List.mem_of_getElem? (i := 615) (by decide +kernel), List.mem_of_getElem? (i := 927) (by decide +kernel), List.mem_of_getElem? (i := 928) (by decide +kernel)⟩
theorem lw_p34 : lw_okq (⟨"JarMinutesModel", "carried", "(IIZ)I"⟩, 33) := ⟨⟨by decide +kernel, by decide +kernel⟩, List.mem_of_getElem? (i := 615) (by decide +kernel), List.mem_of_getElem? (i := 943) (by decide +kernel), List.mem_of_getElem? (i := 944) (by decide +kernel)⟩
theorem lw_p35 : lw_okq (⟨"JarMinutesModel", "lacksRow", "(IIII)I"⟩, 33) := ⟨⟨by decide +kernel, by decide +kernel⟩, List.mem_of_getElem? (i := 615) (by decide +kernel), List.mem_of_getElem? (i := 966) (by decide +kernel), List.mem_of_getElem? (i := 967) (by decide +kernel)⟩
theorem lw_p36 : lw_okq (⟨"JarMinutesModel", "lacksClocks", "(IIII)I"⟩, 33) := ⟨⟨by decide +kernel, by decide +kernel⟩, List.mem_of_getElem? (i := 615) (by decide +kernel), List.mem_of_getElem? (i := 977) (by decide +kernel), List.mem_of_getElem? (i := 978) (by decide +kernel)⟩
theorem lw_p37 : lw_okq (⟨"JarMinutesModel", "waysBy", "(IIII)J"⟩, 33) := ⟨⟨by decide +kernel, by decide +kernel⟩, List.mem_of_getElem? (i := 615) (by decide +kernel), List.mem_of_getElem? (i := 981) (by decide +kernel), List.mem_of_getElem? (i := 982) (by decide +kernel)⟩
theorem lw_p38 : lw_okq (⟨"JarMinutesModel", "isTold", "(IIII)Z"⟩, 33) := ⟨⟨by decide +kernel, by decide +kernel⟩, List.mem_of_getElem? (i := 615) (by decide +kernel), List.mem_of_getElem? (i := 985) (by decide +kernel), List.mem_of_getElem? (i := 986) (by decide +kernel)⟩
def lw_privs_3 : List (MethodName × Nat) := [(⟨"JarMinutesModel", "choiceOf", "(I)I"⟩, 33), (⟨"JarMinutesModel", "drawRow", "()V"⟩, 33), (⟨"JarMinutesModel", "carried", "(IIZ)I"⟩, 33), (⟨"JarMinutesModel", "lacksRow", "(IIII)I"⟩, 33), (⟨"JarMinutesModel", "lacksClocks", "(IIII)I"⟩, 33), (⟨"JarMinutesModel", "waysBy", "(IIII)J"⟩, 33), (⟨"JarMinutesModel", "isTold", "(IIII)Z"⟩, 33)]
theorem lw_r3 : ∀ q ∈ lw_privs_3, lw_okq q := List.forall_mem_cons.mpr ⟨lw_p32, List.forall_mem_cons.mpr ⟨lw_p33, List.forall_mem_cons.mpr ⟨lw_p34, List.forall_mem_cons.mpr ⟨lw_p35, List.forall_mem_cons.mpr ⟨lw_p36, List.forall_mem_cons.mpr ⟨lw_p37, List.forall_mem_cons.mpr ⟨lw_p38, fun _ h => absurd h List.not_mem_nil⟩⟩⟩⟩⟩⟩⟩
def lw_privs : List (MethodName × Nat) := lw_privs_1 ++ (lw_privs_2 ++ (lw_privs_3))
def lw_tbl : List Cond := k2_sels lw_privs ++ tables_1
theorem lw_privs_ok : ∀ q ∈ lw_privs, lw_okq q := by
  show ∀ q ∈ lw_privs_1 ++ (lw_privs_2 ++ (lw_privs_3)), lw_okq q
  exact List.forall_mem_append.mpr ⟨lw_r1, List.forall_mem_append.mpr ⟨lw_r2, lw_r3⟩⟩
-- ===== end of PART A; then your names; then what follows =====
def RX0 : String := "JarMinutes$ClockRows"
def TX0 : u_T := fun k => match k with
  | 0 => ("JarMinutes$ClockRows", "told", "[I", true)
  | _ => ("JarMinutes$ClockRows", "ways", "[J", true)
def tyX0 : Nat → FieldType := fun k => match k with
  | 0 => .array .int
  | _ => .array .long
theorem nmX0 : ∀ a, a < 2 → ∀ b, b < 2 → a ≠ b → (TX0 a).2.1 ≠ (TX0 b).2.1 := by decide +kernel
theorem tyX0_ok : ∀ k, k < 2 → parseFieldDescriptor (TX0 k).2.2.1 = some (tyX0 k) := by decide +kernel
abbrev cX0_init : ByteArray := prog_2_method_1_code
def yX0_init : MethodName := ⟨RX0, "<init>", "()V"⟩
abbrev cX0_tell : ByteArray := prog_2_method_2_code
def yX0_tell : MethodName := ⟨RX0, "tell", "(LJarMinutes$Sheet;II)V"⟩
abbrev cX0_countAll : ByteArray := prog_2_method_3_code
def yX0_countAll : MethodName := ⟨RX0, "countAll", "()J"⟩
abbrev cX0_sureNumber : ByteArray := prog_2_method_4_code
def yX0_sureNumber : MethodName := ⟨RX0, "sureNumber", "(I)I"⟩
abbrev cX0_countWith : ByteArray := prog_2_method_5_code
def yX0_countWith : MethodName := ⟨RX0, "countWith", "(II)J"⟩
abbrev cX0_passHour : ByteArray := prog_2_method_6_code
def yX0_passHour : MethodName := ⟨RX0, "passHour", "(II)V"⟩
abbrev cX0_keepTold : ByteArray := prog_2_method_7_code
def yX0_keepTold : MethodName := ⟨RX0, "keepTold", "(I)V"⟩
def RX1 : String := "JarMinutes$Person"
def TX1 : u_T := fun k => match k with
  | 0 => ("JarMinutes$Person", "kind", "I", false)
  | 1 => ("JarMinutes$Person", "likedHour", "I", false)
  | 2 => ("JarMinutes$Person", "weight", "I", false)
  | _ => ("JarMinutes$Person", "mayAct", "I", false)
def tyX1 : Nat → FieldType := fun k => match k with
  | 0 => .int
  | 1 => .int
  | 2 => .int
  | _ => .int
theorem nmX1 : ∀ a, a < 4 → ∀ b, b < 4 → a ≠ b → (TX1 a).2.1 ≠ (TX1 b).2.1 := by decide +kernel
theorem tyX1_ok : ∀ k, k < 4 → parseFieldDescriptor (TX1 k).2.2.1 = some (tyX1 k) := by decide +kernel
abbrev cX1_init : ByteArray := prog_3_method_1_code
def yX1_init : MethodName := ⟨RX1, "<init>", "()V"⟩
abbrev cX1_become : ByteArray := prog_3_method_2_code
def yX1_become : MethodName := ⟨RX1, "become", "(IIII)V"⟩
abbrev cX1_becomeLike : ByteArray := prog_3_method_3_code
def yX1_becomeLike : MethodName := ⟨RX1, "becomeLike", "(LJarMinutes$Person;)V"⟩
abbrev cX1_worthOf : ByteArray := prog_3_method_4_code
def yX1_worthOf : MethodName := ⟨RX1, "worthOf", "(II)I"⟩
abbrev cX1_cookWorth : ByteArray := prog_3_method_5_code
def yX1_cookWorth : MethodName := ⟨RX1, "cookWorth", "(I)I"⟩
abbrev cX1_favouriteHour : ByteArray := prog_3_method_6_code
def yX1_favouriteHour : MethodName := ⟨RX1, "favouriteHour", "()I"⟩
def RX2 : String := "JarMinutes$Planner"
def TX2 : u_T := fun k => match k with
  | 0 => ("JarMinutes$Planner", "gains", "[I", true)
  | 1 => ("JarMinutes$Planner", "most", "[I", true)
  | _ => ("JarMinutes$Planner", "row", "[I", true)
def tyX2 : Nat → FieldType := fun k => match k with
  | 0 => .array .int
  | 1 => .array .int
  | _ => .array .int
theorem nmX2 : ∀ a, a < 3 → ∀ b, b < 3 → a ≠ b → (TX2 a).2.1 ≠ (TX2 b).2.1 := by decide +kernel
theorem tyX2_ok : ∀ k, k < 3 → parseFieldDescriptor (TX2 k).2.2.1 = some (tyX2 k) := by decide +kernel
abbrev cX2_init : ByteArray := prog_4_method_1_code
def yX2_init : MethodName := ⟨RX2, "<init>", "()V"⟩
abbrev cX2_mostGain : ByteArray := prog_4_method_2_code
def yX2_mostGain : MethodName := ⟨RX2, "mostGain", "(LJarMinutes$Town;IZ)I"⟩
abbrev cX2_mostFrom : ByteArray := prog_4_method_3_code
def yX2_mostFrom : MethodName := ⟨RX2, "mostFrom", "(II)I"⟩
abbrev cX2_mostBy : ByteArray := prog_4_method_4_code
def yX2_mostBy : MethodName := ⟨RX2, "mostBy", "(III)I"⟩
abbrev cX2_findRow : ByteArray := prog_4_method_5_code
def yX2_findRow : MethodName := ⟨RX2, "findRow", "()V"⟩
abbrev cX2_firstBest : ByteArray := prog_4_method_6_code
def yX2_firstBest : MethodName := ⟨RX2, "firstBest", "(II)I"⟩
def RX3 : String := "JarMinutes$Sheet"
def TX3 : u_T := fun k => match k with
  | 0 => ("JarMinutes$Sheet", "lane", "I", false)
  | 1 => ("JarMinutes$Sheet", "count", "I", false)
  | _ => ("JarMinutes$Sheet", "items", "[J", true)
def tyX3 : Nat → FieldType := fun k => match k with
  | 0 => .int
  | 1 => .int
  | _ => .array .long
theorem nmX3 : ∀ a, a < 3 → ∀ b, b < 3 → a ≠ b → (TX3 a).2.1 ≠ (TX3 b).2.1 := by decide +kernel
theorem tyX3_ok : ∀ k, k < 3 → parseFieldDescriptor (TX3 k).2.2.1 = some (tyX3 k) := by decide +kernel
abbrev cX3_init : ByteArray := prog_5_method_1_code
def yX3_init : MethodName := ⟨RX3, "<init>", "()V"⟩
abbrev cX3_begin : ByteArray := prog_5_method_2_code
def yX3_begin : MethodName := ⟨RX3, "begin", "(II)V"⟩
abbrev cX3_put : ByteArray := prog_5_method_3_code
def yX3_put : MethodName := ⟨RX3, "put", "(IJ)V"⟩
abbrev cX3_hasRange : ByteArray := prog_5_method_4_code
def yX3_hasRange : MethodName := ⟨RX3, "hasRange", "(II)Z"⟩
def RX4 : String := "JarMinutes$Tape"
def TX4 : u_T := fun k => match k with
  | 0 => ("JarMinutes$Tape", "bytes", "[C", true)
  | 1 => ("JarMinutes$Tape", "count", "I", false)
  | 2 => ("JarMinutes$Tape", "place", "I", false)
  | 3 => ("JarMinutes$Tape", "numberPlace", "I", false)
  | 4 => ("JarMinutes$Tape", "readPeople", "[LJarMinutes$Person;", true)
  | _ => ("JarMinutes$Tape", "readNumbers", "[I", true)
def tyX4 : Nat → FieldType := fun k => match k with
  | 0 => .array .char
  | 1 => .int
  | 2 => .int
  | 3 => .int
  | 4 => .array (.object "JarMinutes$Person")
  | _ => .array .int
theorem nmX4 : ∀ a, a < 6 → ∀ b, b < 6 → a ≠ b → (TX4 a).2.1 ≠ (TX4 b).2.1 := by decide +kernel
theorem tyX4_ok : ∀ k, k < 6 → parseFieldDescriptor (TX4 k).2.2.1 = some (tyX4 k) := by decide +kernel
abbrev cX4_init : ByteArray := prog_6_method_1_code
def yX4_init : MethodName := ⟨RX4, "<init>", "()V"⟩
abbrev cX4_isSign : ByteArray := prog_6_method_2_code
def yX4_isSign : MethodName := ⟨RX4, "isSign", "(I)Z"⟩
abbrev cX4_isFigure : ByteArray := prog_6_method_3_code
def yX4_isFigure : MethodName := ⟨RX4, "isFigure", "(I)Z"⟩
abbrev cX4_add : ByteArray := prog_6_method_4_code
def yX4_add : MethodName := ⟨RX4, "add", "(I)V"⟩
abbrev cX4_clear : ByteArray := prog_6_method_5_code
def yX4_clear : MethodName := ⟨RX4, "clear", "()V"⟩
abbrev cX4_next : ByteArray := prog_6_method_6_code
def yX4_next : MethodName := ⟨RX4, "next", "()I"⟩
abbrev cX4_passes : ByteArray := prog_6_method_7_code
def yX4_passes : MethodName := ⟨RX4, "passes", "(C)Z"⟩
abbrev cX4_faultHere : ByteArray := prog_6_method_8_code
def yX4_faultHere : MethodName := ⟨RX4, "faultHere", "()I"⟩
abbrev cX4_readNumber : ByteArray := prog_6_method_9_code
def yX4_readNumber : MethodName := ⟨RX4, "readNumber", "(I)I"⟩
abbrev cX4_readTown : ByteArray := prog_6_method_10_code
def yX4_readTown : MethodName := ⟨RX4, "readTown", "()I"⟩
abbrev cX4_readPerson : ByteArray := prog_6_method_11_code
def yX4_readPerson : MethodName := ⟨RX4, "readPerson", "(LJarMinutes$Person;)I"⟩
abbrev cX4_kindOf : ByteArray := prog_6_method_12_code
def yX4_kindOf : MethodName := ⟨RX4, "kindOf", "(I)I"⟩
abbrev cX4_readPlan : ByteArray := prog_6_method_13_code
def yX4_readPlan : MethodName := ⟨RX4, "readPlan", "()I"⟩
abbrev cX4_readHourNumber : ByteArray := prog_6_method_14_code
def yX4_readHourNumber : MethodName := ⟨RX4, "readHourNumber", "(I)I"⟩
def RX5 : String := "JarMinutes$Town"
def TX5 : u_T := fun k => match k with
  | 0 => ("JarMinutes$Town", "people", "[LJarMinutes$Person;", true)
  | 1 => ("JarMinutes$Town", "peopleCount", "I", false)
  | 2 => ("JarMinutes$Town", "trainHours", "[I", true)
  | 3 => ("JarMinutes$Town", "trainWaits", "[I", true)
  | 4 => ("JarMinutes$Town", "trainCount", "I", false)
  | 5 => ("JarMinutes$Town", "losses", "[I", true)
  | 6 => ("JarMinutes$Town", "planned", "[I", true)
  | 7 => ("JarMinutes$Town", "jar", "I", false)
  | 8 => ("JarMinutes$Town", "leak", "I", false)
  | 9 => ("JarMinutes$Town", "term", "I", false)
  | 10 => ("JarMinutes$Town", "due", "I", false)
  | 11 => ("JarMinutes$Town", "daysDone", "I", false)
  | 12 => ("JarMinutes$Town", "happiness", "I", false)
  | _ => ("JarMinutes$Town", "draw", "I", false)
def tyX5 : Nat → FieldType := fun k => match k with
  | 0 => .array (.object "JarMinutes$Person")
  | 1 => .int
  | 2 => .array .int
  | 3 => .array .int
  | 4 => .int
  | 5 => .array .int
  | 6 => .array .int
  | 7 => .int
  | 8 => .int
  | 9 => .int
  | 10 => .int
  | 11 => .int
  | 12 => .int
  | _ => .int
theorem nmX5 : ∀ a, a < 14 → ∀ b, b < 14 → a ≠ b → (TX5 a).2.1 ≠ (TX5 b).2.1 := by decide +kernel
theorem tyX5_ok : ∀ k, k < 14 → parseFieldDescriptor (TX5 k).2.2.1 = some (tyX5 k) := by decide +kernel
abbrev cX5_init : ByteArray := prog_7_method_1_code
def yX5_init : MethodName := ⟨RX5, "<init>", "()V"⟩
abbrev cX5_becomeLike : ByteArray := prog_7_method_2_code
def yX5_becomeLike : MethodName := ⟨RX5, "becomeLike", "(LJarMinutes$Town;)V"⟩
abbrev cX5_takePeople : ByteArray := prog_7_method_3_code
def yX5_takePeople : MethodName := ⟨RX5, "takePeople", "([LJarMinutes$Person;I)V"⟩
abbrev cX5_hasPerson : ByteArray := prog_7_method_4_code
def yX5_hasPerson : MethodName := ⟨RX5, "hasPerson", "(I)Z"⟩
abbrev cX5_gainAt : ByteArray := prog_7_method_5_code
def yX5_gainAt : MethodName := ⟨RX5, "gainAt", "(III)I"⟩
abbrev cX5_gainOf : ByteArray := prog_7_method_6_code
def yX5_gainOf : MethodName := ⟨RX5, "gainOf", "([I)I"⟩
abbrev cX5_mostLateAt : ByteArray := prog_7_method_7_code
def yX5_mostLateAt : MethodName := ⟨RX5, "mostLateAt", "(I)I"⟩
abbrev cX5_missedBy : ByteArray := prog_7_method_8_code
def yX5_missedBy : MethodName := ⟨RX5, "missedBy", "([I)I"⟩
abbrev cX5_firstWrong : ByteArray := prog_7_method_9_code
def yX5_firstWrong : MethodName := ⟨RX5, "firstWrong", "([I)I"⟩
abbrev cX5_liveDay : ByteArray := prog_7_method_10_code
def yX5_liveDay : MethodName := ⟨RX5, "liveDay", "([I)I"⟩
abbrev cX5_votesFor : ByteArray := prog_7_method_11_code
def yX5_votesFor : MethodName := ⟨RX5, "votesFor", "(II)I"⟩
abbrev cX5_drawPlan : ByteArray := prog_7_method_12_code
def yX5_drawPlan : MethodName := ⟨RX5, "drawPlan", "([I)V"⟩
def RX6 : String := "JarMinutes"
def TX6 : u_T := fun k => match k with
  | 0 => ("JarMinutes", "now", "LJarMinutes$Town;", true)
  | 1 => ("JarMinutes", "kept", "LJarMinutes$Town;", true)
  | 2 => ("JarMinutes", "hasImage", "Z", false)
  | 3 => ("JarMinutes", "tape", "LJarMinutes$Tape;", true)
  | 4 => ("JarMinutes", "planner", "LJarMinutes$Planner;", true)
  | 5 => ("JarMinutes", "clockRows", "LJarMinutes$ClockRows;", true)
  | 6 => ("JarMinutes", "sheets", "[LJarMinutes$Sheet;", true)
  | _ => ("JarMinutes", "drawnRow", "[I", true)
def tyX6 : Nat → FieldType := fun k => match k with
  | 0 => .object "JarMinutes$Town"
  | 1 => .object "JarMinutes$Town"
  | 2 => .boolean
  | 3 => .object "JarMinutes$Tape"
  | 4 => .object "JarMinutes$Planner"
  | 5 => .object "JarMinutes$ClockRows"
  | 6 => .array (.object "JarMinutes$Sheet")
  | _ => .array .int
theorem nmX6 : ∀ a, a < 8 → ∀ b, b < 8 → a ≠ b → (TX6 a).2.1 ≠ (TX6 b).2.1 := by decide +kernel
theorem tyX6_ok : ∀ k, k < 8 → parseFieldDescriptor (TX6 k).2.2.1 = some (tyX6 k) := by decide +kernel
abbrev cX6_init : ByteArray := prog_1_method_1_code
def yX6_init : MethodName := ⟨RX6, "<init>", "()V"⟩
abbrev cX6_person : ByteArray := prog_1_method_2_code
def yX6_person : MethodName := ⟨RX6, "person", "(III)I"⟩
abbrev cX6_may : ByteArray := prog_1_method_3_code
def yX6_may : MethodName := ⟨RX6, "may", "(II)I"⟩
abbrev cX6_told : ByteArray := prog_1_method_4_code
def yX6_told : MethodName := ⟨RX6, "told", "(II)I"⟩
abbrev cX6_worth : ByteArray := prog_1_method_5_code
def yX6_worth : MethodName := ⟨RX6, "worth", "(III)I"⟩
abbrev cX6_train : ByteArray := prog_1_method_6_code
def yX6_train : MethodName := ⟨RX6, "train", "(II)I"⟩
abbrev cX6_strike : ByteArray := prog_1_method_7_code
def yX6_strike : MethodName := ⟨RX6, "strike", "()I"⟩
abbrev cX6_set : ByteArray := prog_1_method_8_code
def yX6_set : MethodName := ⟨RX6, "set", "(II)I"⟩
abbrev cX6_loss : ByteArray := prog_1_method_9_code
def yX6_loss : MethodName := ⟨RX6, "loss", "(II)I"⟩
abbrev cX6_type : ByteArray := prog_1_method_10_code
def yX6_type : MethodName := ⟨RX6, "type", "(JI)I"⟩
abbrev cX6_town : ByteArray := prog_1_method_11_code
def yX6_town : MethodName := ⟨RX6, "town", "()I"⟩
abbrev cX6_plan : ByteArray := prog_1_method_12_code
def yX6_plan : MethodName := ⟨RX6, "plan", "()I"⟩
abbrev cX6_lay : ByteArray := prog_1_method_13_code
def yX6_lay : MethodName := ⟨RX6, "lay", "(II)I"⟩
abbrev cX6_is : ByteArray := prog_1_method_14_code
def yX6_is : MethodName := ⟨RX6, "is", "(I)I"⟩
abbrev cX6_late : ByteArray := prog_1_method_15_code
def yX6_late : MethodName := ⟨RX6, "late", "(I)I"⟩
abbrev cX6_gain : ByteArray := prog_1_method_16_code
def yX6_gain : MethodName := ⟨RX6, "gain", "()I"⟩
abbrev cX6_wrong : ByteArray := prog_1_method_17_code
def yX6_wrong : MethodName := ⟨RX6, "wrong", "()I"⟩
abbrev cX6_missed : ByteArray := prog_1_method_18_code
def yX6_missed : MethodName := ⟨RX6, "missed", "()I"⟩
abbrev cX6_day : ByteArray := prog_1_method_19_code
def yX6_day : MethodName := ⟨RX6, "day", "()I"⟩
abbrev cX6_best : ByteArray := prog_1_method_20_code
def yX6_best : MethodName := ⟨RX6, "best", "(II)I"⟩
abbrev cX6_spend : ByteArray := prog_1_method_21_code
def yX6_spend : MethodName := ⟨RX6, "spend", "(I)I"⟩
abbrev cX6_share : ByteArray := prog_1_method_22_code
def yX6_share : MethodName := ⟨RX6, "share", "(I)I"⟩
abbrev cX6_vote : ByteArray := prog_1_method_23_code
def yX6_vote : MethodName := ⟨RX6, "vote", "(I)I"⟩
abbrev cX6_choice : ByteArray := prog_1_method_24_code
def yX6_choice : MethodName := ⟨RX6, "choice", "(I)I"⟩
abbrev cX6_lots : ByteArray := prog_1_method_25_code
def yX6_lots : MethodName := ⟨RX6, "lots", "(I)I"⟩
abbrev cX6_seed : ByteArray := prog_1_method_26_code
def yX6_seed : MethodName := ⟨RX6, "seed", "(I)I"⟩
abbrev cX6_image : ByteArray := prog_1_method_27_code
def yX6_image : MethodName := ⟨RX6, "image", "()I"⟩
abbrev cX6_restore : ByteArray := prog_1_method_28_code
def yX6_restore : MethodName := ⟨RX6, "restore", "()I"⟩
abbrev cX6_clocks : ByteArray := prog_1_method_29_code
def yX6_clocks : MethodName := ⟨RX6, "clocks", "(IIII)J"⟩
abbrev cX6_sure : ByteArray := prog_1_method_30_code
def yX6_sure : MethodName := ⟨RX6, "sure", "(IIIII)I"⟩
abbrev cX6_film : ByteArray := prog_1_method_31_code
def yX6_film : MethodName := ⟨RX6, "film", "(III)I"⟩
abbrev cX6_build : ByteArray := prog_1_method_32_code
def yX6_build : MethodName := ⟨RX6, "build", "(III)I"⟩
abbrev cX6_sheet : ByteArray := prog_1_method_33_code
def yX6_sheet : MethodName := ⟨RX6, "sheet", "(III)I"⟩
abbrev cX6_drop : ByteArray := prog_1_method_34_code
def yX6_drop : MethodName := ⟨RX6, "drop", "(I)I"⟩
abbrev cX6_item : ByteArray := prog_1_method_35_code
def yX6_item : MethodName := ⟨RX6, "item", "(IIIJ)I"⟩
abbrev cX6_copy : ByteArray := prog_1_method_36_code
def yX6_copy : MethodName := ⟨RX6, "copy", "(IIIII)I"⟩
abbrev cX6_isWithin : ByteArray := prog_1_method_37_code
def yX6_isWithin : MethodName := ⟨RX6, "isWithin", "(II)Z"⟩
abbrev cX6_isHour : ByteArray := prog_1_method_38_code
def yX6_isHour : MethodName := ⟨RX6, "isHour", "(I)Z"⟩
abbrev cX6_isNumber : ByteArray := prog_1_method_39_code
def yX6_isNumber : MethodName := ⟨RX6, "isNumber", "(J)Z"⟩
abbrev cX6_isSheet : ByteArray := prog_1_method_40_code
def yX6_isSheet : MethodName := ⟨RX6, "isSheet", "(I)Z"⟩
abbrev cX6_isLane : ByteArray := prog_1_method_41_code
def yX6_isLane : MethodName := ⟨RX6, "isLane", "(I)Z"⟩
abbrev cX6_mostOfSetting : ByteArray := prog_1_method_42_code
def yX6_mostOfSetting : MethodName := ⟨RX6, "mostOfSetting", "(I)I"⟩
abbrev cX6_byteOf : ByteArray := prog_1_method_43_code
def yX6_byteOf : MethodName := ⟨RX6, "byteOf", "(JI)I"⟩
abbrev cX6_apart : ByteArray := prog_1_method_44_code
def yX6_apart : MethodName := ⟨RX6, "apart", "(II)I"⟩
abbrev cX6_lateAt : ByteArray := prog_1_method_45_code
def yX6_lateAt : MethodName := ⟨RX6, "lateAt", "([II)I"⟩
abbrev cX6_rowRefusal : ByteArray := prog_1_method_46_code
def yX6_rowRefusal : MethodName := ⟨RX6, "rowRefusal", "(IIII)I"⟩
abbrev cX6_clocksRefusal : ByteArray := prog_1_method_47_code
def yX6_clocksRefusal : MethodName := ⟨RX6, "clocksRefusal", "(IIII)I"⟩
def RX7 : String := "JarMinutesModel"
def TX7 : u_T := fun k => match k with
  | 0 => ("JarMinutesModel", "kinds", "[I", true)
  | 1 => ("JarMinutesModel", "likes", "[I", true)
  | 2 => ("JarMinutesModel", "weights", "[I", true)
  | 3 => ("JarMinutesModel", "mays", "[I", true)
  | 4 => ("JarMinutesModel", "people", "I", false)
  | 5 => ("JarMinutesModel", "trainHours", "[I", true)
  | 6 => ("JarMinutesModel", "waits", "[I", true)
  | 7 => ("JarMinutesModel", "trains", "I", false)
  | 8 => ("JarMinutesModel", "losses", "[I", true)
  | 9 => ("JarMinutesModel", "plan", "[I", true)
  | 10 => ("JarMinutesModel", "jar", "I", false)
  | 11 => ("JarMinutesModel", "leak", "I", false)
  | 12 => ("JarMinutesModel", "term", "I", false)
  | 13 => ("JarMinutesModel", "due", "I", false)
  | 14 => ("JarMinutesModel", "days", "I", false)
  | 15 => ("JarMinutesModel", "happiness", "I", false)
  | 16 => ("JarMinutesModel", "drawn", "I", false)
  | 17 => ("JarMinutesModel", "tape", "[I", true)
  | 18 => ("JarMinutesModel", "taped", "I", false)
  | 19 => ("JarMinutesModel", "place", "I", false)
  | 20 => ("JarMinutesModel", "reads", "I", false)
  | 21 => ("JarMinutesModel", "read", "[I", true)
  | 22 => ("JarMinutesModel", "readSet", "I", false)
  | 23 => ("JarMinutesModel", "gains", "[I", true)
  | 24 => ("JarMinutesModel", "mosts", "[I", true)
  | 25 => ("JarMinutesModel", "row", "[I", true)
  | 26 => ("JarMinutesModel", "isKept", "Z", false)
  | 27 => ("JarMinutesModel", "kept", "[I", true)
  | 28 => ("JarMinutesModel", "lanes", "[I", true)
  | 29 => ("JarMinutesModel", "rowSizes", "[I", true)
  | 30 => ("JarMinutesModel", "items", "[J", true)
  | 31 => ("JarMinutesModel", "ways", "[J", true)
  | _ => ("JarMinutesModel", "moved", "[J", true)
def tyX7 : Nat → FieldType := fun k => match k with
  | 0 => .array .int
  | 1 => .array .int
  | 2 => .array .int
  | 3 => .array .int
  | 4 => .int
  | 5 => .array .int
  | 6 => .array .int
  | 7 => .int
  | 8 => .array .int
  | 9 => .array .int
  | 10 => .int
  | 11 => .int
  | 12 => .int
  | 13 => .int
  | 14 => .int
  | 15 => .int
  | 16 => .int
  | 17 => .array .int
  | 18 => .int
  | 19 => .int
  | 20 => .int
  | 21 => .array .int
  | 22 => .int
  | 23 => .array .int
  | 24 => .array .int
  | 25 => .array .int
  | 26 => .boolean
  | 27 => .array .int
  | 28 => .array .int
  | 29 => .array .int
  | 30 => .array .long
  | 31 => .array .long
  | _ => .array .long
theorem nmX7 : ∀ a, a < 33 → ∀ b, b < 33 → a ≠ b → (TX7 a).2.1 ≠ (TX7 b).2.1 := by decide +kernel
theorem tyX7_ok : ∀ k, k < 33 → parseFieldDescriptor (TX7 k).2.2.1 = some (tyX7 k) := by decide +kernel
abbrev cX7_init : ByteArray := prog_9_method_1_code
def yX7_init : MethodName := ⟨RX7, "<init>", "()V"⟩
abbrev cX7_in : ByteArray := prog_9_method_2_code
def yX7_in : MethodName := ⟨RX7, "in", "(JJJ)Z"⟩
abbrev cX7_isHour : ByteArray := prog_9_method_3_code
def yX7_isHour : MethodName := ⟨RX7, "isHour", "(I)Z"⟩
abbrev cX7_isOne : ByteArray := prog_9_method_4_code
def yX7_isOne : MethodName := ⟨RX7, "isOne", "(I)Z"⟩
abbrev cX7_isNumber : ByteArray := prog_9_method_5_code
def yX7_isNumber : MethodName := ⟨RX7, "isNumber", "(J)Z"⟩
abbrev cX7_add : ByteArray := prog_9_method_6_code
def yX7_add : MethodName := ⟨RX7, "add", "(IIII)V"⟩
abbrev cX7_person : ByteArray := prog_9_method_7_code
def yX7_person : MethodName := ⟨RX7, "person", "(III)I"⟩
abbrev cX7_may : ByteArray := prog_9_method_8_code
def yX7_may : MethodName := ⟨RX7, "may", "(II)I"⟩
abbrev cX7_told : ByteArray := prog_9_method_9_code
def yX7_told : MethodName := ⟨RX7, "told", "(II)I"⟩
abbrev cX7_apart : ByteArray := prog_9_method_10_code
def yX7_apart : MethodName := ⟨RX7, "apart", "(II)I"⟩
abbrev cX7_worthOf : ByteArray := prog_9_method_11_code
def yX7_worthOf : MethodName := ⟨RX7, "worthOf", "(III)I"⟩
abbrev cX7_worth : ByteArray := prog_9_method_12_code
def yX7_worth : MethodName := ⟨RX7, "worth", "(III)I"⟩
abbrev cX7_train : ByteArray := prog_9_method_13_code
def yX7_train : MethodName := ⟨RX7, "train", "(II)I"⟩
abbrev cX7_strike : ByteArray := prog_9_method_14_code
def yX7_strike : MethodName := ⟨RX7, "strike", "()I"⟩
abbrev cX7_set : ByteArray := prog_9_method_15_code
def yX7_set : MethodName := ⟨RX7, "set", "(II)I"⟩
abbrev cX7_loss : ByteArray := prog_9_method_16_code
def yX7_loss : MethodName := ⟨RX7, "loss", "(II)I"⟩
abbrev cX7_is : ByteArray := prog_9_method_17_code
def yX7_is : MethodName := ⟨RX7, "is", "(I)I"⟩
abbrev cX7_type : ByteArray := prog_9_method_18_code
def yX7_type : MethodName := ⟨RX7, "type", "(JI)I"⟩
abbrev cX7_nextByte : ByteArray := prog_9_method_19_code
def yX7_nextByte : MethodName := ⟨RX7, "nextByte", "()I"⟩
abbrev cX7_takes : ByteArray := prog_9_method_20_code
def yX7_takes : MethodName := ⟨RX7, "takes", "(I)Z"⟩
abbrev cX7_readNumber : ByteArray := prog_9_method_21_code
def yX7_readNumber : MethodName := ⟨RX7, "readNumber", "(I)I"⟩
abbrev cX7_readOne : ByteArray := prog_9_method_22_code
def yX7_readOne : MethodName := ⟨RX7, "readOne", "(I)Z"⟩
abbrev cX7_readTown : ByteArray := prog_9_method_23_code
def yX7_readTown : MethodName := ⟨RX7, "readTown", "()Z"⟩
abbrev cX7_end : ByteArray := prog_9_method_24_code
def yX7_end : MethodName := ⟨RX7, "end", "(Z)I"⟩
abbrev cX7_town : ByteArray := prog_9_method_25_code
def yX7_town : MethodName := ⟨RX7, "town", "()I"⟩
abbrev cX7_readHour : ByteArray := prog_9_method_26_code
def yX7_readHour : MethodName := ⟨RX7, "readHour", "()Z"⟩
abbrev cX7_readPlan : ByteArray := prog_9_method_27_code
def yX7_readPlan : MethodName := ⟨RX7, "readPlan", "()Z"⟩
abbrev cX7_plan : ByteArray := prog_9_method_28_code
def yX7_plan : MethodName := ⟨RX7, "plan", "()I"⟩
abbrev cX7_lay : ByteArray := prog_9_method_29_code
def yX7_lay : MethodName := ⟨RX7, "lay", "(II)I"⟩
abbrev cX7_lateBy : ByteArray := prog_9_method_30_code
def yX7_lateBy : MethodName := ⟨RX7, "lateBy", "([II)I"⟩
abbrev cX7_late : ByteArray := prog_9_method_31_code
def yX7_late : MethodName := ⟨RX7, "late", "(I)I"⟩
abbrev cX7_findGains : ByteArray := prog_9_method_32_code
def yX7_findGains : MethodName := ⟨RX7, "findGains", "()V"⟩
abbrev cX7_gainOf : ByteArray := prog_9_method_33_code
def yX7_gainOf : MethodName := ⟨RX7, "gainOf", "([I)I"⟩
abbrev cX7_gain : ByteArray := prog_9_method_34_code
def yX7_gain : MethodName := ⟨RX7, "gain", "()I"⟩
abbrev cX7_areCaught : ByteArray := prog_9_method_35_code
def yX7_areCaught : MethodName := ⟨RX7, "areCaught", "(II)Z"⟩
abbrev cX7_wrongOf : ByteArray := prog_9_method_36_code
def yX7_wrongOf : MethodName := ⟨RX7, "wrongOf", "([I)I"⟩
abbrev cX7_wrong : ByteArray := prog_9_method_37_code
def yX7_wrong : MethodName := ⟨RX7, "wrong", "()I"⟩
abbrev cX7_missed : ByteArray := prog_9_method_38_code
def yX7_missed : MethodName := ⟨RX7, "missed", "()I"⟩
abbrev cX7_dayBy : ByteArray := prog_9_method_39_code
def yX7_dayBy : MethodName := ⟨RX7, "dayBy", "([I)I"⟩
abbrev cX7_day : ByteArray := prog_9_method_40_code
def yX7_day : MethodName := ⟨RX7, "day", "()I"⟩
abbrev cX7_findBest : ByteArray := prog_9_method_41_code
def yX7_findBest : MethodName := ⟨RX7, "findBest", "(Z)I"⟩
abbrev cX7_best : ByteArray := prog_9_method_42_code
def yX7_best : MethodName := ⟨RX7, "best", "(II)I"⟩
abbrev cX7_spend : ByteArray := prog_9_method_43_code
def yX7_spend : MethodName := ⟨RX7, "spend", "(I)I"⟩
abbrev cX7_share : ByteArray := prog_9_method_44_code
def yX7_share : MethodName := ⟨RX7, "share", "(I)I"⟩
abbrev cX7_choiceOf : ByteArray := prog_9_method_45_code
def yX7_choiceOf : MethodName := ⟨RX7, "choiceOf", "(I)I"⟩
abbrev cX7_choice : ByteArray := prog_9_method_46_code
def yX7_choice : MethodName := ⟨RX7, "choice", "(I)I"⟩
abbrev cX7_vote : ByteArray := prog_9_method_47_code
def yX7_vote : MethodName := ⟨RX7, "vote", "(I)I"⟩
abbrev cX7_drawRow : ByteArray := prog_9_method_48_code
def yX7_drawRow : MethodName := ⟨RX7, "drawRow", "()V"⟩
abbrev cX7_lots : ByteArray := prog_9_method_49_code
def yX7_lots : MethodName := ⟨RX7, "lots", "(I)I"⟩
abbrev cX7_seed : ByteArray := prog_9_method_50_code
def yX7_seed : MethodName := ⟨RX7, "seed", "(I)I"⟩
abbrev cX7_carried : ByteArray := prog_9_method_51_code
def yX7_carried : MethodName := ⟨RX7, "carried", "(IIZ)I"⟩
abbrev cX7_image : ByteArray := prog_9_method_52_code
def yX7_image : MethodName := ⟨RX7, "image", "()I"⟩
abbrev cX7_restore : ByteArray := prog_9_method_53_code
def yX7_restore : MethodName := ⟨RX7, "restore", "()I"⟩
abbrev cX7_isSheet : ByteArray := prog_9_method_54_code
def yX7_isSheet : MethodName := ⟨RX7, "isSheet", "(II)Z"⟩
abbrev cX7_asLane : ByteArray := prog_9_method_55_code
def yX7_asLane : MethodName := ⟨RX7, "asLane", "(IJ)J"⟩
abbrev cX7_sheet : ByteArray := prog_9_method_56_code
def yX7_sheet : MethodName := ⟨RX7, "sheet", "(III)I"⟩
abbrev cX7_drop : ByteArray := prog_9_method_57_code
def yX7_drop : MethodName := ⟨RX7, "drop", "(I)I"⟩
abbrev cX7_lacksRow : ByteArray := prog_9_method_58_code
def yX7_lacksRow : MethodName := ⟨RX7, "lacksRow", "(IIII)I"⟩
abbrev cX7_item : ByteArray := prog_9_method_59_code
def yX7_item : MethodName := ⟨RX7, "item", "(IIIJ)I"⟩
abbrev cX7_isTold : ByteArray := prog_9_method_60_code
def yX7_isTold : MethodName := ⟨RX7, "isTold", "(IIII)Z"⟩
abbrev cX7_waysBy : ByteArray := prog_9_method_61_code
def yX7_waysBy : MethodName := ⟨RX7, "waysBy", "(IIII)J"⟩
abbrev cX7_lacksClocks : ByteArray := prog_9_method_62_code
def yX7_lacksClocks : MethodName := ⟨RX7, "lacksClocks", "(IIII)I"⟩
abbrev cX7_clocks : ByteArray := prog_9_method_63_code
def yX7_clocks : MethodName := ⟨RX7, "clocks", "(IIII)J"⟩
abbrev cX7_sure : ByteArray := prog_9_method_64_code
def yX7_sure : MethodName := ⟨RX7, "sure", "(IIIII)I"⟩
abbrev cX7_film : ByteArray := prog_9_method_65_code
def yX7_film : MethodName := ⟨RX7, "film", "(III)I"⟩
abbrev cX7_build : ByteArray := prog_9_method_66_code
def yX7_build : MethodName := ⟨RX7, "build", "(III)I"⟩
abbrev cX7_copy : ByteArray := prog_9_method_67_code
def yX7_copy : MethodName := ⟨RX7, "copy", "(IIIII)I"⟩
def RJ9 : String := "java/lang/Math"
def TJ9 : u_T := fun k => match k with
  | _ => ("", "", "", false)
def tyJ9 : Nat → FieldType := fun k => match k with
  | _ => .int
theorem nmJ9 : ∀ a, a < 0 → ∀ b, b < 0 → a ≠ b → (TJ9 a).2.1 ≠ (TJ9 b).2.1 := by decide +kernel
theorem tyJ9_ok : ∀ k, k < 0 → parseFieldDescriptor (TJ9 k).2.2.1 = some (tyJ9 k) := by decide +kernel
abbrev cJ9_abs_0f7a4 : ByteArray := prog_10_method_59_code
def yJ9_abs_0f7a4 : MethodName := ⟨RJ9, "abs", "(I)I"⟩
abbrev cJ9_max_7cf53 : ByteArray := prog_10_method_65_code
def yJ9_max_7cf53 : MethodName := ⟨RJ9, "max", "(II)I"⟩
abbrev cJ9_min_7cf53 : ByteArray := prog_10_method_69_code
def yJ9_min_7cf53 : MethodName := ⟨RJ9, "min", "(II)I"⟩
def RJ10 : String := "java/lang/System"
def TJ10 : u_T := fun k => match k with
  | _ => ("", "", "", false)
def tyJ10 : Nat → FieldType := fun k => match k with
  | _ => .int
theorem nmJ10 : ∀ a, a < 0 → ∀ b, b < 0 → a ≠ b → (TJ10 a).2.1 ≠ (TJ10 b).2.1 := by decide +kernel
theorem tyJ10_ok : ∀ k, k < 0 → parseFieldDescriptor (TJ10 k).2.2.1 = some (tyJ10 k) := by decide +kernel
def RJ7 : String := "java/util/Arrays"
def TJ7 : u_T := fun k => match k with
  | _ => ("", "", "", false)
def tyJ7 : Nat → FieldType := fun k => match k with
  | _ => .int
theorem nmJ7 : ∀ a, a < 0 → ∀ b, b < 0 → a ≠ b → (TJ7 a).2.1 ≠ (TJ7 b).2.1 := by decide +kernel
theorem tyJ7_ok : ∀ k, k < 0 → parseFieldDescriptor (TJ7 k).2.2.1 = some (tyJ7 k) := by decide +kernel
abbrev cJ7_fill_d0a16 : ByteArray := prog_12_method_101_code
def yJ7_fill_d0a16 : MethodName := ⟨RJ7, "fill", "([JJ)V"⟩
abbrev cJ7_fill_53178 : ByteArray := prog_12_method_103_code
def yJ7_fill_53178 : MethodName := ⟨RJ7, "fill", "([II)V"⟩
def RL : String := "JarMinutesLaw"
abbrev cL_law : ByteArray := code
def yL_law : MethodName := ⟨RL, "law", "([I)Z"⟩
abbrev vwCl : List vw_C := [(RX0, TX0, 2), (RX1, TX1, 4), (RX2, TX2, 3), (RX3, TX3, 3), (RX4, TX4, 6), (RX5, TX5, 14), (RX6, TX6, 8), (RX7, TX7, 33)]
end
section
/-! ===== the tables' words that stay steady, each by its place ===== -/
def fm_all : List Cond := lw_tbl.filter goodWord
theorem fm_m {w : Cond} (i : Nat) (h : tables_1[i]? = some w) (g : goodWord w = true) : w ∈ fm_all := List.mem_filter.mpr ⟨List.mem_append_right _ (List.mem_of_getElem? h), g⟩
theorem fm_sel {q : MethodName × Nat} (i : Nat) (h : lw_privs[i]? = some q) : Cond.selects q.1.cls q.1 q.1 ∈ fm_all := List.mem_filter.mpr ⟨List.mem_append_left _ (List.mem_map.mpr ⟨q, List.mem_of_getElem? h, rfl⟩), rfl⟩
theorem fm_pos (ws : List Cond) (ps : List Nat) (hp : ws = ps.filterMap (fun i => tables_1[i]?)) (hg : ws.all goodWord = true) : ∀ w ∈ ws, w ∈ fm_all := fun w h => by
  have h1 := List.all_eq_true.mp hg w h
  rw [hp] at h
  obtain ⟨i, -, hi⟩ := List.mem_filterMap.mp h
  exact fm_m i hi h1
theorem fm_good {w : Cond} (h : w ∈ fm_all) : goodWord w = true := (List.mem_filter.mp h).2
theorem fm_all_in {w : Cond} (h : w ∈ fm_all) : w ∈ lw_tbl := (List.mem_filter.mp h).1
theorem fw_0 : (Jvm.Cond.initialized "JarMinutesLaw") ∈ fm_all := fm_m 0 (by decide +kernel) rfl
theorem fw_1 : (Jvm.Cond.initialized "JarMinutes") ∈ fm_all := fm_m 1 (by decide +kernel) rfl
theorem fw_2 : (Jvm.Cond.initialized "JarMinutes$Town") ∈ fm_all := fm_m 2 (by decide +kernel) rfl
theorem fw_3 : (Jvm.Cond.initialized "JarMinutes$Person") ∈ fm_all := fm_m 3 (by decide +kernel) rfl
theorem fw_4 : (Jvm.Cond.initialized "java/util/Arrays") ∈ fm_all := fm_m 4 (by decide +kernel) rfl
theorem fw_5 : (Jvm.Cond.initialized "JarMinutes$Tape") ∈ fm_all := fm_m 5 (by decide +kernel) rfl
theorem fw_6 : (Jvm.Cond.initialized "JarMinutes$Planner") ∈ fm_all := fm_m 6 (by decide +kernel) rfl
theorem fw_7 : (Jvm.Cond.initialized "JarMinutes$ClockRows") ∈ fm_all := fm_m 7 (by decide +kernel) rfl
theorem fw_8 : (Jvm.Cond.initialized "JarMinutes$Sheet") ∈ fm_all := fm_m 8 (by decide +kernel) rfl
theorem fw_9 : (Jvm.Cond.initialized "JarMinutesModel") ∈ fm_all := fm_m 9 (by decide +kernel) rfl
theorem fw_10 : (Jvm.Cond.initialized "java/lang/Math") ∈ fm_all := fm_m 10 (by decide +kernel) rfl
theorem fw_11 : (Jvm.Cond.initialized "java/lang/System") ∈ fm_all := fm_m 11 (by decide +kernel) rfl
theorem fw_12 : (Jvm.Cond.classLink "JarMinutesLaw" (7 : Nat) "JarMinutes") ∈ fm_all := fm_m 12 (by decide +kernel) rfl
theorem fw_13 : (Jvm.Cond.instantiable "JarMinutes" (8 : Nat)) ∈ fm_all := fm_m 13 (by decide +kernel) rfl
theorem fw_14 : (Jvm.Cond.methodLink "JarMinutesLaw" (9 : Nat) ({ cls := "JarMinutes", name := "<init>", desc := "()V" } : Jvm.MethodName)) ∈ fm_all := fm_m 14 (by decide +kernel) rfl
theorem fw_15 : (Jvm.Cond.instanceMethod ({ cls := "JarMinutes", name := "<init>", desc := "()V" } : Jvm.MethodName)) ∈ fm_all := fm_m 15 (by decide +kernel) rfl
theorem fw_16 : (Jvm.Cond.code ({ cls := "JarMinutes", name := "<init>", desc := "()V" } : Jvm.MethodName) prog_1_method_1_code (2 : Nat) (Option.none : Option Jvm.ClassFile.FieldType)) ∈ fm_all := fm_m 16 (by decide +kernel) rfl
theorem fw_17 : (Jvm.Cond.methodLink "JarMinutes" (3 : Nat) ({ cls := "java/lang/Object", name := "<init>", desc := "()V" } : Jvm.MethodName)) ∈ fm_all := fm_m 17 (by decide +kernel) rfl
theorem fw_18 : (Jvm.Cond.instanceMethod ({ cls := "java/lang/Object", name := "<init>", desc := "()V" } : Jvm.MethodName)) ∈ fm_all := fm_m 18 (by decide +kernel) rfl
theorem fw_19 : (Jvm.Cond.code ({ cls := "java/lang/Object", name := "<init>", desc := "()V" } : Jvm.MethodName) object_method_1_code (1 : Nat) (Option.none : Option Jvm.ClassFile.FieldType)) ∈ fm_all := fm_m 19 (by decide +kernel) rfl
theorem fw_20 : (Jvm.Cond.classLink "JarMinutes" (9 : Nat) "JarMinutes$Town") ∈ fm_all := fm_m 20 (by decide +kernel) rfl
theorem fw_21 : (Jvm.Cond.instantiable "JarMinutes$Town" (14 : Nat)) ∈ fm_all := fm_m 21 (by decide +kernel) rfl
theorem fw_22 : (Jvm.Cond.methodLink "JarMinutes" (11 : Nat) ({ cls := "JarMinutes$Town", name := "<init>", desc := "()V" } : Jvm.MethodName)) ∈ fm_all := fm_m 22 (by decide +kernel) rfl
theorem fw_23 : (Jvm.Cond.instanceMethod ({ cls := "JarMinutes$Town", name := "<init>", desc := "()V" } : Jvm.MethodName)) ∈ fm_all := fm_m 23 (by decide +kernel) rfl
theorem fw_24 : (Jvm.Cond.code ({ cls := "JarMinutes$Town", name := "<init>", desc := "()V" } : Jvm.MethodName) prog_7_method_1_code (2 : Nat) (Option.none : Option Jvm.ClassFile.FieldType)) ∈ fm_all := fm_m 24 (by decide +kernel) rfl
theorem fw_25 : (Jvm.Cond.methodLink "JarMinutes$Town" (3 : Nat) ({ cls := "java/lang/Object", name := "<init>", desc := "()V" } : Jvm.MethodName)) ∈ fm_all := fm_m 25 (by decide +kernel) rfl
theorem fw_26 : (Jvm.Cond.classLink "JarMinutes$Town" (9 : Nat) "JarMinutes$Person") ∈ fm_all := fm_m 26 (by decide +kernel) rfl
theorem fw_28 : (Jvm.Cond.instantiable "JarMinutes$Person" (4 : Nat)) ∈ fm_all := fm_m 28 (by decide +kernel) rfl
theorem fw_30 : (Jvm.Cond.instanceMethod ({ cls := "JarMinutes$Person", name := "<init>", desc := "()V" } : Jvm.MethodName)) ∈ fm_all := fm_m 30 (by decide +kernel) rfl
theorem fw_31 : (Jvm.Cond.code ({ cls := "JarMinutes$Person", name := "<init>", desc := "()V" } : Jvm.MethodName) prog_3_method_1_code (1 : Nat) (Option.none : Option Jvm.ClassFile.FieldType)) ∈ fm_all := fm_m 31 (by decide +kernel) rfl
theorem fw_32 : (Jvm.Cond.methodLink "JarMinutes$Person" (3 : Nat) ({ cls := "java/lang/Object", name := "<init>", desc := "()V" } : Jvm.MethodName)) ∈ fm_all := fm_m 32 (by decide +kernel) rfl
theorem fw_33 : (Jvm.Cond.fieldLink "JarMinutes$Person" (9 : Nat) "JarMinutes$Person" "kind" "I") ∈ fm_all := fm_m 33 (by decide +kernel) rfl
theorem fw_34 : (Jvm.Cond.fieldLink "JarMinutes" (83 : Nat) "JarMinutes$Person" "kind" "I") ∈ fm_all := fm_m 34 (by decide +kernel) rfl
theorem fw_35 : (Jvm.Cond.fieldLink "JarMinutes$Person" (15 : Nat) "JarMinutes$Person" "likedHour" "I") ∈ fm_all := fm_m 35 (by decide +kernel) rfl
theorem fw_36 : (Jvm.Cond.fieldLink "JarMinutes" (86 : Nat) "JarMinutes$Person" "likedHour" "I") ∈ fm_all := fm_m 36 (by decide +kernel) rfl
theorem fw_37 : (Jvm.Cond.fieldLink "JarMinutes$Person" (18 : Nat) "JarMinutes$Person" "weight" "I") ∈ fm_all := fm_m 37 (by decide +kernel) rfl
theorem fw_38 : (Jvm.Cond.fieldLink "JarMinutes" (89 : Nat) "JarMinutes$Person" "weight" "I") ∈ fm_all := fm_m 38 (by decide +kernel) rfl
theorem fw_39 : (Jvm.Cond.fieldLink "JarMinutes$Town" (114 : Nat) "JarMinutes$Person" "weight" "I") ∈ fm_all := fm_m 39 (by decide +kernel) rfl
theorem fw_40 : (Jvm.Cond.fieldLink "JarMinutes$Person" (21 : Nat) "JarMinutes$Person" "mayAct" "I") ∈ fm_all := fm_m 40 (by decide +kernel) rfl
theorem fw_41 : (Jvm.Cond.fieldLink "JarMinutes" (80 : Nat) "JarMinutes$Person" "mayAct" "I") ∈ fm_all := fm_m 41 (by decide +kernel) rfl
theorem fw_42 : (Jvm.Cond.fieldLink "JarMinutes$Town" (79 : Nat) "JarMinutes$Person" "mayAct" "I") ∈ fm_all := fm_m 42 (by decide +kernel) rfl
theorem fw_43 : (Jvm.Cond.lays "JarMinutes$Person" "JarMinutes$Person" "kind" "I") ∈ fm_all := fm_m 43 (by decide +kernel) rfl
theorem fw_44 : (Jvm.Cond.soleField "JarMinutes$Person" "kind") ∈ fm_all := fm_m 44 (by decide +kernel) rfl
theorem fw_45 : (Jvm.Cond.lays "JarMinutes$Person" "JarMinutes$Person" "likedHour" "I") ∈ fm_all := fm_m 45 (by decide +kernel) rfl
theorem fw_46 : (Jvm.Cond.soleField "JarMinutes$Person" "likedHour") ∈ fm_all := fm_m 46 (by decide +kernel) rfl
theorem fw_47 : (Jvm.Cond.lays "JarMinutes$Person" "JarMinutes$Person" "weight" "I") ∈ fm_all := fm_m 47 (by decide +kernel) rfl
theorem fw_48 : (Jvm.Cond.soleField "JarMinutes$Person" "weight") ∈ fm_all := fm_m 48 (by decide +kernel) rfl
theorem fw_49 : (Jvm.Cond.lays "JarMinutes$Person" "JarMinutes$Person" "mayAct" "I") ∈ fm_all := fm_m 49 (by decide +kernel) rfl
theorem fw_50 : (Jvm.Cond.soleField "JarMinutes$Person" "mayAct") ∈ fm_all := fm_m 50 (by decide +kernel) rfl
theorem fw_51 : (Jvm.Cond.superclass "JarMinutes$Person" "java/lang/Object") ∈ fm_all := fm_m 51 (by decide +kernel) rfl
theorem fw_52 : (Jvm.Cond.arrayClass Jvm.ClassFile.FieldType.int) ∈ fm_all := fm_m 52 (by decide +kernel) rfl
theorem fw_53 : (Jvm.Cond.methodLink "JarMinutes$Town" (59 : Nat) ({ cls := "java/util/Arrays", name := "fill", desc := "([II)V" } : Jvm.MethodName)) ∈ fm_all := fm_m 53 (by decide +kernel) rfl
theorem fw_54 : (Jvm.Cond.static ({ cls := "java/util/Arrays", name := "fill", desc := "([II)V" } : Jvm.MethodName)) ∈ fm_all := fm_m 54 (by decide +kernel) rfl
theorem fw_55 : (Jvm.Cond.code ({ cls := "java/util/Arrays", name := "fill", desc := "([II)V" } : Jvm.MethodName) prog_12_method_103_code (4 : Nat) (Option.none : Option Jvm.ClassFile.FieldType)) ∈ fm_all := fm_m 55 (by decide +kernel) rfl
theorem fw_56 : (Jvm.Cond.fieldLink "JarMinutes$Town" (11 : Nat) "JarMinutes$Town" "people" "[LJarMinutes$Person;") ∈ fm_all := fm_m 56 (by decide +kernel) rfl
theorem fw_57 : (Jvm.Cond.fieldLink "JarMinutes" (67 : Nat) "JarMinutes$Town" "people" "[LJarMinutes$Person;") ∈ fm_all := fm_m 57 (by decide +kernel) rfl
theorem fw_58 : (Jvm.Cond.fieldLink "JarMinutes$Town" (17 : Nat) "JarMinutes$Town" "peopleCount" "I") ∈ fm_all := fm_m 58 (by decide +kernel) rfl
theorem fw_59 : (Jvm.Cond.fieldLink "JarMinutes" (63 : Nat) "JarMinutes$Town" "peopleCount" "I") ∈ fm_all := fm_m 59 (by decide +kernel) rfl
theorem fw_60 : (Jvm.Cond.fieldLink "JarMinutes$Town" (21 : Nat) "JarMinutes$Town" "trainHours" "[I") ∈ fm_all := fm_m 60 (by decide +kernel) rfl
theorem fw_61 : (Jvm.Cond.fieldLink "JarMinutes" (99 : Nat) "JarMinutes$Town" "trainHours" "[I") ∈ fm_all := fm_m 61 (by decide +kernel) rfl
theorem fw_62 : (Jvm.Cond.fieldLink "JarMinutes$Town" (25 : Nat) "JarMinutes$Town" "trainWaits" "[I") ∈ fm_all := fm_m 62 (by decide +kernel) rfl
theorem fw_63 : (Jvm.Cond.fieldLink "JarMinutes" (102 : Nat) "JarMinutes$Town" "trainWaits" "[I") ∈ fm_all := fm_m 63 (by decide +kernel) rfl
theorem fw_64 : (Jvm.Cond.fieldLink "JarMinutes$Town" (28 : Nat) "JarMinutes$Town" "trainCount" "I") ∈ fm_all := fm_m 64 (by decide +kernel) rfl
theorem fw_65 : (Jvm.Cond.fieldLink "JarMinutes" (96 : Nat) "JarMinutes$Town" "trainCount" "I") ∈ fm_all := fm_m 65 (by decide +kernel) rfl
theorem fw_66 : (Jvm.Cond.fieldLink "JarMinutes$Town" (31 : Nat) "JarMinutes$Town" "losses" "[I") ∈ fm_all := fm_m 66 (by decide +kernel) rfl
theorem fw_67 : (Jvm.Cond.fieldLink "JarMinutes" (124 : Nat) "JarMinutes$Town" "losses" "[I") ∈ fm_all := fm_m 67 (by decide +kernel) rfl
theorem fw_68 : (Jvm.Cond.fieldLink "JarMinutes$Town" (34 : Nat) "JarMinutes$Town" "planned" "[I") ∈ fm_all := fm_m 68 (by decide +kernel) rfl
theorem fw_69 : (Jvm.Cond.fieldLink "JarMinutes" (161 : Nat) "JarMinutes$Town" "planned" "[I") ∈ fm_all := fm_m 69 (by decide +kernel) rfl
theorem fw_70 : (Jvm.Cond.fieldLink "JarMinutes$Town" (37 : Nat) "JarMinutes$Town" "jar" "I") ∈ fm_all := fm_m 70 (by decide +kernel) rfl
theorem fw_71 : (Jvm.Cond.fieldLink "JarMinutes" (112 : Nat) "JarMinutes$Town" "jar" "I") ∈ fm_all := fm_m 71 (by decide +kernel) rfl
theorem fw_72 : (Jvm.Cond.fieldLink "JarMinutes$Town" (40 : Nat) "JarMinutes$Town" "leak" "I") ∈ fm_all := fm_m 72 (by decide +kernel) rfl
theorem fw_73 : (Jvm.Cond.fieldLink "JarMinutes" (115 : Nat) "JarMinutes$Town" "leak" "I") ∈ fm_all := fm_m 73 (by decide +kernel) rfl
theorem fw_74 : (Jvm.Cond.fieldLink "JarMinutes$Town" (43 : Nat) "JarMinutes$Town" "term" "I") ∈ fm_all := fm_m 74 (by decide +kernel) rfl
theorem fw_75 : (Jvm.Cond.fieldLink "JarMinutes" (118 : Nat) "JarMinutes$Town" "term" "I") ∈ fm_all := fm_m 75 (by decide +kernel) rfl
theorem fw_76 : (Jvm.Cond.fieldLink "JarMinutes$Town" (46 : Nat) "JarMinutes$Town" "due" "I") ∈ fm_all := fm_m 76 (by decide +kernel) rfl
theorem fw_77 : (Jvm.Cond.fieldLink "JarMinutes" (121 : Nat) "JarMinutes$Town" "due" "I") ∈ fm_all := fm_m 77 (by decide +kernel) rfl
theorem fw_78 : (Jvm.Cond.fieldLink "JarMinutes$Town" (49 : Nat) "JarMinutes$Town" "daysDone" "I") ∈ fm_all := fm_m 78 (by decide +kernel) rfl
theorem fw_79 : (Jvm.Cond.fieldLink "JarMinutes" (175 : Nat) "JarMinutes$Town" "daysDone" "I") ∈ fm_all := fm_m 79 (by decide +kernel) rfl
theorem fw_80 : (Jvm.Cond.fieldLink "JarMinutes$Town" (52 : Nat) "JarMinutes$Town" "happiness" "I") ∈ fm_all := fm_m 80 (by decide +kernel) rfl
theorem fw_81 : (Jvm.Cond.fieldLink "JarMinutes" (178 : Nat) "JarMinutes$Town" "happiness" "I") ∈ fm_all := fm_m 81 (by decide +kernel) rfl
theorem fw_82 : (Jvm.Cond.fieldLink "JarMinutes$Town" (55 : Nat) "JarMinutes$Town" "draw" "I") ∈ fm_all := fm_m 82 (by decide +kernel) rfl
theorem fw_83 : (Jvm.Cond.fieldLink "JarMinutes" (220 : Nat) "JarMinutes$Town" "draw" "I") ∈ fm_all := fm_m 83 (by decide +kernel) rfl
theorem fw_84 : (Jvm.Cond.laysFinal "JarMinutes$Town" "JarMinutes$Town" "people" "[LJarMinutes$Person;") ∈ fm_all := fm_m 84 (by decide +kernel) rfl
theorem fw_85 : (Jvm.Cond.soleField "JarMinutes$Town" "people") ∈ fm_all := fm_m 85 (by decide +kernel) rfl
theorem fw_86 : (Jvm.Cond.lays "JarMinutes$Town" "JarMinutes$Town" "peopleCount" "I") ∈ fm_all := fm_m 86 (by decide +kernel) rfl
theorem fw_87 : (Jvm.Cond.soleField "JarMinutes$Town" "peopleCount") ∈ fm_all := fm_m 87 (by decide +kernel) rfl
theorem fw_88 : (Jvm.Cond.laysFinal "JarMinutes$Town" "JarMinutes$Town" "trainHours" "[I") ∈ fm_all := fm_m 88 (by decide +kernel) rfl
theorem fw_89 : (Jvm.Cond.soleField "JarMinutes$Town" "trainHours") ∈ fm_all := fm_m 89 (by decide +kernel) rfl
theorem fw_90 : (Jvm.Cond.laysFinal "JarMinutes$Town" "JarMinutes$Town" "trainWaits" "[I") ∈ fm_all := fm_m 90 (by decide +kernel) rfl
theorem fw_91 : (Jvm.Cond.soleField "JarMinutes$Town" "trainWaits") ∈ fm_all := fm_m 91 (by decide +kernel) rfl
theorem fw_92 : (Jvm.Cond.lays "JarMinutes$Town" "JarMinutes$Town" "trainCount" "I") ∈ fm_all := fm_m 92 (by decide +kernel) rfl
theorem fw_93 : (Jvm.Cond.soleField "JarMinutes$Town" "trainCount") ∈ fm_all := fm_m 93 (by decide +kernel) rfl
theorem fw_94 : (Jvm.Cond.laysFinal "JarMinutes$Town" "JarMinutes$Town" "losses" "[I") ∈ fm_all := fm_m 94 (by decide +kernel) rfl
theorem fw_95 : (Jvm.Cond.soleField "JarMinutes$Town" "losses") ∈ fm_all := fm_m 95 (by decide +kernel) rfl
theorem fw_96 : (Jvm.Cond.laysFinal "JarMinutes$Town" "JarMinutes$Town" "planned" "[I") ∈ fm_all := fm_m 96 (by decide +kernel) rfl
theorem fw_97 : (Jvm.Cond.soleField "JarMinutes$Town" "planned") ∈ fm_all := fm_m 97 (by decide +kernel) rfl
theorem fw_98 : (Jvm.Cond.lays "JarMinutes$Town" "JarMinutes$Town" "jar" "I") ∈ fm_all := fm_m 98 (by decide +kernel) rfl
theorem fw_99 : (Jvm.Cond.soleField "JarMinutes$Town" "jar") ∈ fm_all := fm_m 99 (by decide +kernel) rfl
theorem fw_100 : (Jvm.Cond.lays "JarMinutes$Town" "JarMinutes$Town" "leak" "I") ∈ fm_all := fm_m 100 (by decide +kernel) rfl
theorem fw_101 : (Jvm.Cond.soleField "JarMinutes$Town" "leak") ∈ fm_all := fm_m 101 (by decide +kernel) rfl
theorem fw_102 : (Jvm.Cond.lays "JarMinutes$Town" "JarMinutes$Town" "term" "I") ∈ fm_all := fm_m 102 (by decide +kernel) rfl
theorem fw_103 : (Jvm.Cond.soleField "JarMinutes$Town" "term") ∈ fm_all := fm_m 103 (by decide +kernel) rfl
theorem fw_104 : (Jvm.Cond.lays "JarMinutes$Town" "JarMinutes$Town" "due" "I") ∈ fm_all := fm_m 104 (by decide +kernel) rfl
theorem fw_105 : (Jvm.Cond.soleField "JarMinutes$Town" "due") ∈ fm_all := fm_m 105 (by decide +kernel) rfl
theorem fw_106 : (Jvm.Cond.lays "JarMinutes$Town" "JarMinutes$Town" "daysDone" "I") ∈ fm_all := fm_m 106 (by decide +kernel) rfl
theorem fw_107 : (Jvm.Cond.soleField "JarMinutes$Town" "daysDone") ∈ fm_all := fm_m 107 (by decide +kernel) rfl
theorem fw_108 : (Jvm.Cond.lays "JarMinutes$Town" "JarMinutes$Town" "happiness" "I") ∈ fm_all := fm_m 108 (by decide +kernel) rfl
theorem fw_109 : (Jvm.Cond.soleField "JarMinutes$Town" "happiness") ∈ fm_all := fm_m 109 (by decide +kernel) rfl
theorem fw_110 : (Jvm.Cond.lays "JarMinutes$Town" "JarMinutes$Town" "draw" "I") ∈ fm_all := fm_m 110 (by decide +kernel) rfl
theorem fw_111 : (Jvm.Cond.soleField "JarMinutes$Town" "draw") ∈ fm_all := fm_m 111 (by decide +kernel) rfl
theorem fw_112 : (Jvm.Cond.superclass "JarMinutes$Town" "java/lang/Object") ∈ fm_all := fm_m 112 (by decide +kernel) rfl
theorem fw_113 : (Jvm.Cond.classLink "JarMinutes" (23 : Nat) "JarMinutes$Tape") ∈ fm_all := fm_m 113 (by decide +kernel) rfl
theorem fw_114 : (Jvm.Cond.instantiable "JarMinutes$Tape" (6 : Nat)) ∈ fm_all := fm_m 114 (by decide +kernel) rfl
theorem fw_115 : (Jvm.Cond.methodLink "JarMinutes" (25 : Nat) ({ cls := "JarMinutes$Tape", name := "<init>", desc := "()V" } : Jvm.MethodName)) ∈ fm_all := fm_m 115 (by decide +kernel) rfl
theorem fw_116 : (Jvm.Cond.instanceMethod ({ cls := "JarMinutes$Tape", name := "<init>", desc := "()V" } : Jvm.MethodName)) ∈ fm_all := fm_m 116 (by decide +kernel) rfl
theorem fw_117 : (Jvm.Cond.code ({ cls := "JarMinutes$Tape", name := "<init>", desc := "()V" } : Jvm.MethodName) prog_6_method_1_code (2 : Nat) (Option.none : Option Jvm.ClassFile.FieldType)) ∈ fm_all := fm_m 117 (by decide +kernel) rfl
theorem fw_118 : (Jvm.Cond.methodLink "JarMinutes$Tape" (3 : Nat) ({ cls := "java/lang/Object", name := "<init>", desc := "()V" } : Jvm.MethodName)) ∈ fm_all := fm_m 118 (by decide +kernel) rfl
theorem fw_119 : (Jvm.Cond.classLink "JarMinutes$Tape" (25 : Nat) "JarMinutes$Person") ∈ fm_all := fm_m 119 (by decide +kernel) rfl
theorem fw_121 : (Jvm.Cond.fieldLink "JarMinutes$Tape" (9 : Nat) "JarMinutes$Tape" "bytes" "[C") ∈ fm_all := fm_m 121 (by decide +kernel) rfl
theorem fw_122 : (Jvm.Cond.fieldLink "JarMinutes$Tape" (15 : Nat) "JarMinutes$Tape" "count" "I") ∈ fm_all := fm_m 122 (by decide +kernel) rfl
theorem fw_123 : (Jvm.Cond.fieldLink "JarMinutes" (134 : Nat) "JarMinutes$Tape" "count" "I") ∈ fm_all := fm_m 123 (by decide +kernel) rfl
theorem fw_124 : (Jvm.Cond.fieldLink "JarMinutes$Tape" (19 : Nat) "JarMinutes$Tape" "place" "I") ∈ fm_all := fm_m 124 (by decide +kernel) rfl
theorem fw_125 : (Jvm.Cond.fieldLink "JarMinutes$Tape" (22 : Nat) "JarMinutes$Tape" "numberPlace" "I") ∈ fm_all := fm_m 125 (by decide +kernel) rfl
theorem fw_126 : (Jvm.Cond.fieldLink "JarMinutes$Tape" (27 : Nat) "JarMinutes$Tape" "readPeople" "[LJarMinutes$Person;") ∈ fm_all := fm_m 126 (by decide +kernel) rfl
theorem fw_127 : (Jvm.Cond.fieldLink "JarMinutes" (148 : Nat) "JarMinutes$Tape" "readPeople" "[LJarMinutes$Person;") ∈ fm_all := fm_m 127 (by decide +kernel) rfl
theorem fw_128 : (Jvm.Cond.fieldLink "JarMinutes$Tape" (31 : Nat) "JarMinutes$Tape" "readNumbers" "[I") ∈ fm_all := fm_m 128 (by decide +kernel) rfl
theorem fw_129 : (Jvm.Cond.fieldLink "JarMinutes" (158 : Nat) "JarMinutes$Tape" "readNumbers" "[I") ∈ fm_all := fm_m 129 (by decide +kernel) rfl
theorem fw_130 : (Jvm.Cond.laysFinal "JarMinutes$Tape" "JarMinutes$Tape" "bytes" "[C") ∈ fm_all := fm_m 130 (by decide +kernel) rfl
theorem fw_131 : (Jvm.Cond.soleField "JarMinutes$Tape" "bytes") ∈ fm_all := fm_m 131 (by decide +kernel) rfl
theorem fw_132 : (Jvm.Cond.lays "JarMinutes$Tape" "JarMinutes$Tape" "count" "I") ∈ fm_all := fm_m 132 (by decide +kernel) rfl
theorem fw_133 : (Jvm.Cond.soleField "JarMinutes$Tape" "count") ∈ fm_all := fm_m 133 (by decide +kernel) rfl
theorem fw_134 : (Jvm.Cond.lays "JarMinutes$Tape" "JarMinutes$Tape" "place" "I") ∈ fm_all := fm_m 134 (by decide +kernel) rfl
theorem fw_135 : (Jvm.Cond.soleField "JarMinutes$Tape" "place") ∈ fm_all := fm_m 135 (by decide +kernel) rfl
theorem fw_136 : (Jvm.Cond.lays "JarMinutes$Tape" "JarMinutes$Tape" "numberPlace" "I") ∈ fm_all := fm_m 136 (by decide +kernel) rfl
theorem fw_137 : (Jvm.Cond.soleField "JarMinutes$Tape" "numberPlace") ∈ fm_all := fm_m 137 (by decide +kernel) rfl
theorem fw_138 : (Jvm.Cond.laysFinal "JarMinutes$Tape" "JarMinutes$Tape" "readPeople" "[LJarMinutes$Person;") ∈ fm_all := fm_m 138 (by decide +kernel) rfl
theorem fw_139 : (Jvm.Cond.soleField "JarMinutes$Tape" "readPeople") ∈ fm_all := fm_m 139 (by decide +kernel) rfl
theorem fw_140 : (Jvm.Cond.laysFinal "JarMinutes$Tape" "JarMinutes$Tape" "readNumbers" "[I") ∈ fm_all := fm_m 140 (by decide +kernel) rfl
theorem fw_141 : (Jvm.Cond.soleField "JarMinutes$Tape" "readNumbers") ∈ fm_all := fm_m 141 (by decide +kernel) rfl
theorem fw_142 : (Jvm.Cond.superclass "JarMinutes$Tape" "java/lang/Object") ∈ fm_all := fm_m 142 (by decide +kernel) rfl
theorem fw_143 : (Jvm.Cond.arrayClass Jvm.ClassFile.FieldType.char) ∈ fm_all := fm_m 143 (by decide +kernel) rfl
theorem fw_144 : (Jvm.Cond.classLink "JarMinutes" (30 : Nat) "JarMinutes$Planner") ∈ fm_all := fm_m 144 (by decide +kernel) rfl
theorem fw_145 : (Jvm.Cond.instantiable "JarMinutes$Planner" (3 : Nat)) ∈ fm_all := fm_m 145 (by decide +kernel) rfl
theorem fw_147 : (Jvm.Cond.instanceMethod ({ cls := "JarMinutes$Planner", name := "<init>", desc := "()V" } : Jvm.MethodName)) ∈ fm_all := fm_m 147 (by decide +kernel) rfl
theorem fw_148 : (Jvm.Cond.code ({ cls := "JarMinutes$Planner", name := "<init>", desc := "()V" } : Jvm.MethodName) prog_4_method_1_code (1 : Nat) (Option.none : Option Jvm.ClassFile.FieldType)) ∈ fm_all := fm_m 148 (by decide +kernel) rfl
theorem fw_149 : (Jvm.Cond.methodLink "JarMinutes$Planner" (3 : Nat) ({ cls := "java/lang/Object", name := "<init>", desc := "()V" } : Jvm.MethodName)) ∈ fm_all := fm_m 149 (by decide +kernel) rfl
theorem fw_150 : (Jvm.Cond.fieldLink "JarMinutes$Planner" (9 : Nat) "JarMinutes$Planner" "gains" "[I") ∈ fm_all := fm_m 150 (by decide +kernel) rfl
theorem fw_151 : (Jvm.Cond.fieldLink "JarMinutes$Planner" (15 : Nat) "JarMinutes$Planner" "most" "[I") ∈ fm_all := fm_m 151 (by decide +kernel) rfl
theorem fw_152 : (Jvm.Cond.fieldLink "JarMinutes$Planner" (18 : Nat) "JarMinutes$Planner" "row" "[I") ∈ fm_all := fm_m 152 (by decide +kernel) rfl
theorem fw_153 : (Jvm.Cond.fieldLink "JarMinutes" (207 : Nat) "JarMinutes$Planner" "row" "[I") ∈ fm_all := fm_m 153 (by decide +kernel) rfl
theorem fw_154 : (Jvm.Cond.laysFinal "JarMinutes$Planner" "JarMinutes$Planner" "gains" "[I") ∈ fm_all := fm_m 154 (by decide +kernel) rfl
theorem fw_155 : (Jvm.Cond.soleField "JarMinutes$Planner" "gains") ∈ fm_all := fm_m 155 (by decide +kernel) rfl
theorem fw_156 : (Jvm.Cond.laysFinal "JarMinutes$Planner" "JarMinutes$Planner" "most" "[I") ∈ fm_all := fm_m 156 (by decide +kernel) rfl
theorem fw_157 : (Jvm.Cond.soleField "JarMinutes$Planner" "most") ∈ fm_all := fm_m 157 (by decide +kernel) rfl
theorem fw_158 : (Jvm.Cond.laysFinal "JarMinutes$Planner" "JarMinutes$Planner" "row" "[I") ∈ fm_all := fm_m 158 (by decide +kernel) rfl
theorem fw_159 : (Jvm.Cond.soleField "JarMinutes$Planner" "row") ∈ fm_all := fm_m 159 (by decide +kernel) rfl
theorem fw_160 : (Jvm.Cond.superclass "JarMinutes$Planner" "java/lang/Object") ∈ fm_all := fm_m 160 (by decide +kernel) rfl
theorem fw_161 : (Jvm.Cond.classLink "JarMinutes" (37 : Nat) "JarMinutes$ClockRows") ∈ fm_all := fm_m 161 (by decide +kernel) rfl
theorem fw_162 : (Jvm.Cond.instantiable "JarMinutes$ClockRows" (2 : Nat)) ∈ fm_all := fm_m 162 (by decide +kernel) rfl
theorem fw_164 : (Jvm.Cond.instanceMethod ({ cls := "JarMinutes$ClockRows", name := "<init>", desc := "()V" } : Jvm.MethodName)) ∈ fm_all := fm_m 164 (by decide +kernel) rfl
theorem fw_165 : (Jvm.Cond.code ({ cls := "JarMinutes$ClockRows", name := "<init>", desc := "()V" } : Jvm.MethodName) prog_2_method_1_code (1 : Nat) (Option.none : Option Jvm.ClassFile.FieldType)) ∈ fm_all := fm_m 165 (by decide +kernel) rfl
theorem fw_166 : (Jvm.Cond.methodLink "JarMinutes$ClockRows" (3 : Nat) ({ cls := "java/lang/Object", name := "<init>", desc := "()V" } : Jvm.MethodName)) ∈ fm_all := fm_m 166 (by decide +kernel) rfl
theorem fw_167 : (Jvm.Cond.fieldLink "JarMinutes$ClockRows" (9 : Nat) "JarMinutes$ClockRows" "told" "[I") ∈ fm_all := fm_m 167 (by decide +kernel) rfl
theorem fw_168 : (Jvm.Cond.fieldLink "JarMinutes$ClockRows" (15 : Nat) "JarMinutes$ClockRows" "ways" "[J") ∈ fm_all := fm_m 168 (by decide +kernel) rfl
theorem fw_169 : (Jvm.Cond.laysFinal "JarMinutes$ClockRows" "JarMinutes$ClockRows" "told" "[I") ∈ fm_all := fm_m 169 (by decide +kernel) rfl
theorem fw_170 : (Jvm.Cond.soleField "JarMinutes$ClockRows" "told") ∈ fm_all := fm_m 170 (by decide +kernel) rfl
theorem fw_171 : (Jvm.Cond.laysFinal "JarMinutes$ClockRows" "JarMinutes$ClockRows" "ways" "[J") ∈ fm_all := fm_m 171 (by decide +kernel) rfl
theorem fw_172 : (Jvm.Cond.soleField "JarMinutes$ClockRows" "ways") ∈ fm_all := fm_m 172 (by decide +kernel) rfl
theorem fw_173 : (Jvm.Cond.superclass "JarMinutes$ClockRows" "java/lang/Object") ∈ fm_all := fm_m 173 (by decide +kernel) rfl
theorem fw_174 : (Jvm.Cond.arrayClass Jvm.ClassFile.FieldType.long) ∈ fm_all := fm_m 174 (by decide +kernel) rfl
theorem fw_175 : (Jvm.Cond.classLink "JarMinutes" (44 : Nat) "JarMinutes$Sheet") ∈ fm_all := fm_m 175 (by decide +kernel) rfl
theorem fw_177 : (Jvm.Cond.instantiable "JarMinutes$Sheet" (3 : Nat)) ∈ fm_all := fm_m 177 (by decide +kernel) rfl
theorem fw_179 : (Jvm.Cond.instanceMethod ({ cls := "JarMinutes$Sheet", name := "<init>", desc := "()V" } : Jvm.MethodName)) ∈ fm_all := fm_m 179 (by decide +kernel) rfl
theorem fw_180 : (Jvm.Cond.code ({ cls := "JarMinutes$Sheet", name := "<init>", desc := "()V" } : Jvm.MethodName) prog_5_method_1_code (1 : Nat) (Option.none : Option Jvm.ClassFile.FieldType)) ∈ fm_all := fm_m 180 (by decide +kernel) rfl
theorem fw_181 : (Jvm.Cond.methodLink "JarMinutes$Sheet" (3 : Nat) ({ cls := "java/lang/Object", name := "<init>", desc := "()V" } : Jvm.MethodName)) ∈ fm_all := fm_m 181 (by decide +kernel) rfl
theorem fw_182 : (Jvm.Cond.fieldLink "JarMinutes$Sheet" (9 : Nat) "JarMinutes$Sheet" "lane" "I") ∈ fm_all := fm_m 182 (by decide +kernel) rfl
theorem fw_183 : (Jvm.Cond.fieldLink "JarMinutes" (264 : Nat) "JarMinutes$Sheet" "lane" "I") ∈ fm_all := fm_m 183 (by decide +kernel) rfl
theorem fw_184 : (Jvm.Cond.fieldLink "JarMinutes$Sheet" (15 : Nat) "JarMinutes$Sheet" "count" "I") ∈ fm_all := fm_m 184 (by decide +kernel) rfl
theorem fw_185 : (Jvm.Cond.fieldLink "JarMinutes" (267 : Nat) "JarMinutes$Sheet" "count" "I") ∈ fm_all := fm_m 185 (by decide +kernel) rfl
theorem fw_186 : (Jvm.Cond.fieldLink "JarMinutes$Sheet" (18 : Nat) "JarMinutes$Sheet" "items" "[J") ∈ fm_all := fm_m 186 (by decide +kernel) rfl
theorem fw_187 : (Jvm.Cond.fieldLink "JarMinutes$ClockRows" (25 : Nat) "JarMinutes$Sheet" "items" "[J") ∈ fm_all := fm_m 187 (by decide +kernel) rfl
theorem fw_188 : (Jvm.Cond.fieldLink "JarMinutes" (250 : Nat) "JarMinutes$Sheet" "items" "[J") ∈ fm_all := fm_m 188 (by decide +kernel) rfl
theorem fw_189 : (Jvm.Cond.lays "JarMinutes$Sheet" "JarMinutes$Sheet" "lane" "I") ∈ fm_all := fm_m 189 (by decide +kernel) rfl
theorem fw_190 : (Jvm.Cond.soleField "JarMinutes$Sheet" "lane") ∈ fm_all := fm_m 190 (by decide +kernel) rfl
theorem fw_191 : (Jvm.Cond.lays "JarMinutes$Sheet" "JarMinutes$Sheet" "count" "I") ∈ fm_all := fm_m 191 (by decide +kernel) rfl
theorem fw_192 : (Jvm.Cond.soleField "JarMinutes$Sheet" "count") ∈ fm_all := fm_m 192 (by decide +kernel) rfl
theorem fw_193 : (Jvm.Cond.laysFinal "JarMinutes$Sheet" "JarMinutes$Sheet" "items" "[J") ∈ fm_all := fm_m 193 (by decide +kernel) rfl
theorem fw_194 : (Jvm.Cond.soleField "JarMinutes$Sheet" "items") ∈ fm_all := fm_m 194 (by decide +kernel) rfl
theorem fw_195 : (Jvm.Cond.superclass "JarMinutes$Sheet" "java/lang/Object") ∈ fm_all := fm_m 195 (by decide +kernel) rfl
theorem fw_196 : (Jvm.Cond.fieldLink "JarMinutes" (12 : Nat) "JarMinutes" "now" "LJarMinutes$Town;") ∈ fm_all := fm_m 196 (by decide +kernel) rfl
theorem fw_197 : (Jvm.Cond.fieldLink "JarMinutes" (16 : Nat) "JarMinutes" "kept" "LJarMinutes$Town;") ∈ fm_all := fm_m 197 (by decide +kernel) rfl
theorem fw_198 : (Jvm.Cond.fieldLink "JarMinutes" (19 : Nat) "JarMinutes" "hasImage" "Z") ∈ fm_all := fm_m 198 (by decide +kernel) rfl
theorem fw_199 : (Jvm.Cond.fieldLink "JarMinutes" (26 : Nat) "JarMinutes" "tape" "LJarMinutes$Tape;") ∈ fm_all := fm_m 199 (by decide +kernel) rfl
theorem fw_200 : (Jvm.Cond.fieldLink "JarMinutes" (33 : Nat) "JarMinutes" "planner" "LJarMinutes$Planner;") ∈ fm_all := fm_m 200 (by decide +kernel) rfl
theorem fw_201 : (Jvm.Cond.fieldLink "JarMinutes" (40 : Nat) "JarMinutes" "clockRows" "LJarMinutes$ClockRows;") ∈ fm_all := fm_m 201 (by decide +kernel) rfl
theorem fw_202 : (Jvm.Cond.fieldLink "JarMinutes" (46 : Nat) "JarMinutes" "sheets" "[LJarMinutes$Sheet;") ∈ fm_all := fm_m 202 (by decide +kernel) rfl
theorem fw_203 : (Jvm.Cond.fieldLink "JarMinutes" (50 : Nat) "JarMinutes" "drawnRow" "[I") ∈ fm_all := fm_m 203 (by decide +kernel) rfl
theorem fw_204 : (Jvm.Cond.laysFinal "JarMinutes" "JarMinutes" "now" "LJarMinutes$Town;") ∈ fm_all := fm_m 204 (by decide +kernel) rfl
theorem fw_205 : (Jvm.Cond.soleField "JarMinutes" "now") ∈ fm_all := fm_m 205 (by decide +kernel) rfl
theorem fw_206 : (Jvm.Cond.laysFinal "JarMinutes" "JarMinutes" "kept" "LJarMinutes$Town;") ∈ fm_all := fm_m 206 (by decide +kernel) rfl
theorem fw_207 : (Jvm.Cond.soleField "JarMinutes" "kept") ∈ fm_all := fm_m 207 (by decide +kernel) rfl
theorem fw_208 : (Jvm.Cond.lays "JarMinutes" "JarMinutes" "hasImage" "Z") ∈ fm_all := fm_m 208 (by decide +kernel) rfl
theorem fw_209 : (Jvm.Cond.soleField "JarMinutes" "hasImage") ∈ fm_all := fm_m 209 (by decide +kernel) rfl
theorem fw_210 : (Jvm.Cond.laysFinal "JarMinutes" "JarMinutes" "tape" "LJarMinutes$Tape;") ∈ fm_all := fm_m 210 (by decide +kernel) rfl
theorem fw_211 : (Jvm.Cond.soleField "JarMinutes" "tape") ∈ fm_all := fm_m 211 (by decide +kernel) rfl
theorem fw_212 : (Jvm.Cond.laysFinal "JarMinutes" "JarMinutes" "planner" "LJarMinutes$Planner;") ∈ fm_all := fm_m 212 (by decide +kernel) rfl
theorem fw_213 : (Jvm.Cond.soleField "JarMinutes" "planner") ∈ fm_all := fm_m 213 (by decide +kernel) rfl
theorem fw_214 : (Jvm.Cond.laysFinal "JarMinutes" "JarMinutes" "clockRows" "LJarMinutes$ClockRows;") ∈ fm_all := fm_m 214 (by decide +kernel) rfl
theorem fw_215 : (Jvm.Cond.soleField "JarMinutes" "clockRows") ∈ fm_all := fm_m 215 (by decide +kernel) rfl
theorem fw_216 : (Jvm.Cond.laysFinal "JarMinutes" "JarMinutes" "sheets" "[LJarMinutes$Sheet;") ∈ fm_all := fm_m 216 (by decide +kernel) rfl
theorem fw_217 : (Jvm.Cond.soleField "JarMinutes" "sheets") ∈ fm_all := fm_m 217 (by decide +kernel) rfl
theorem fw_218 : (Jvm.Cond.laysFinal "JarMinutes" "JarMinutes" "drawnRow" "[I") ∈ fm_all := fm_m 218 (by decide +kernel) rfl
theorem fw_219 : (Jvm.Cond.soleField "JarMinutes" "drawnRow") ∈ fm_all := fm_m 219 (by decide +kernel) rfl
theorem fw_220 : (Jvm.Cond.superclass "JarMinutes" "java/lang/Object") ∈ fm_all := fm_m 220 (by decide +kernel) rfl
theorem fw_221 : (Jvm.Cond.methodLink "JarMinutesLaw" (13 : Nat) ({ cls := "JarMinutes", name := "person", desc := "(III)I" } : Jvm.MethodName)) ∈ fm_all := fm_m 221 (by decide +kernel) rfl
theorem fw_222 : (Jvm.Cond.instanceMethod ({ cls := "JarMinutes", name := "person", desc := "(III)I" } : Jvm.MethodName)) ∈ fm_all := fm_m 222 (by decide +kernel) rfl
theorem fw_223 : (Jvm.Cond.selects "JarMinutes" ({ cls := "JarMinutes", name := "person", desc := "(III)I" } : Jvm.MethodName) ({ cls := "JarMinutes", name := "person", desc := "(III)I" } : Jvm.MethodName)) ∈ fm_all := fm_m 223 (by decide +kernel) rfl
theorem fw_224 : (Jvm.Cond.code ({ cls := "JarMinutes", name := "person", desc := "(III)I" } : Jvm.MethodName) prog_1_method_2_code (4 : Nat) (Option.some Jvm.ClassFile.FieldType.int)) ∈ fm_all := fm_m 224 (by decide +kernel) rfl
theorem fw_225 : (Jvm.Cond.methodLink "JarMinutes" (55 : Nat) ({ cls := "JarMinutes", name := "isHour", desc := "(I)Z" } : Jvm.MethodName)) ∈ fm_all := fm_m 225 (by decide +kernel) rfl
theorem fw_226 : (Jvm.Cond.static ({ cls := "JarMinutes", name := "isHour", desc := "(I)Z" } : Jvm.MethodName)) ∈ fm_all := fm_m 226 (by decide +kernel) rfl
theorem fw_227 : (Jvm.Cond.code ({ cls := "JarMinutes", name := "isHour", desc := "(I)Z" } : Jvm.MethodName) prog_1_method_38_code (1 : Nat) (Option.some Jvm.ClassFile.FieldType.boolean)) ∈ fm_all := fm_m 227 (by decide +kernel) rfl
theorem fw_228 : (Jvm.Cond.methodLink "JarMinutes" (59 : Nat) ({ cls := "JarMinutes", name := "isWithin", desc := "(II)Z" } : Jvm.MethodName)) ∈ fm_all := fm_m 228 (by decide +kernel) rfl
theorem fw_229 : (Jvm.Cond.static ({ cls := "JarMinutes", name := "isWithin", desc := "(II)Z" } : Jvm.MethodName)) ∈ fm_all := fm_m 229 (by decide +kernel) rfl
theorem fw_230 : (Jvm.Cond.code ({ cls := "JarMinutes", name := "isWithin", desc := "(II)Z" } : Jvm.MethodName) prog_1_method_37_code (2 : Nat) (Option.some Jvm.ClassFile.FieldType.boolean)) ∈ fm_all := fm_m 230 (by decide +kernel) rfl
theorem fw_231 : (Jvm.Cond.methodLink "JarMinutes" (71 : Nat) ({ cls := "JarMinutes$Person", name := "become", desc := "(IIII)V" } : Jvm.MethodName)) ∈ fm_all := fm_m 231 (by decide +kernel) rfl
theorem fw_232 : (Jvm.Cond.instanceMethod ({ cls := "JarMinutes$Person", name := "become", desc := "(IIII)V" } : Jvm.MethodName)) ∈ fm_all := fm_m 232 (by decide +kernel) rfl
theorem fw_233 : (Jvm.Cond.selects "JarMinutes$Person" ({ cls := "JarMinutes$Person", name := "become", desc := "(IIII)V" } : Jvm.MethodName) ({ cls := "JarMinutes$Person", name := "become", desc := "(IIII)V" } : Jvm.MethodName)) ∈ fm_all := fm_m 233 (by decide +kernel) rfl
theorem fw_234 : (Jvm.Cond.code ({ cls := "JarMinutes$Person", name := "become", desc := "(IIII)V" } : Jvm.MethodName) prog_3_method_2_code (5 : Nat) (Option.none : Option Jvm.ClassFile.FieldType)) ∈ fm_all := fm_m 234 (by decide +kernel) rfl
theorem fw_235 : (Jvm.Cond.methodLink "JarMinutesLaw" (18 : Nat) ({ cls := "JarMinutes", name := "may", desc := "(II)I" } : Jvm.MethodName)) ∈ fm_all := fm_m 235 (by decide +kernel) rfl
theorem fw_236 : (Jvm.Cond.instanceMethod ({ cls := "JarMinutes", name := "may", desc := "(II)I" } : Jvm.MethodName)) ∈ fm_all := fm_m 236 (by decide +kernel) rfl
theorem fw_237 : (Jvm.Cond.selects "JarMinutes" ({ cls := "JarMinutes", name := "may", desc := "(II)I" } : Jvm.MethodName) ({ cls := "JarMinutes", name := "may", desc := "(II)I" } : Jvm.MethodName)) ∈ fm_all := fm_m 237 (by decide +kernel) rfl
theorem fw_238 : (Jvm.Cond.code ({ cls := "JarMinutes", name := "may", desc := "(II)I" } : Jvm.MethodName) prog_1_method_3_code (4 : Nat) (Option.some Jvm.ClassFile.FieldType.int)) ∈ fm_all := fm_m 238 (by decide +kernel) rfl
theorem fw_239 : (Jvm.Cond.methodLink "JarMinutes" (77 : Nat) ({ cls := "JarMinutes$Town", name := "hasPerson", desc := "(I)Z" } : Jvm.MethodName)) ∈ fm_all := fm_m 239 (by decide +kernel) rfl
theorem fw_240 : (Jvm.Cond.instanceMethod ({ cls := "JarMinutes$Town", name := "hasPerson", desc := "(I)Z" } : Jvm.MethodName)) ∈ fm_all := fm_m 240 (by decide +kernel) rfl
theorem fw_241 : (Jvm.Cond.selects "JarMinutes$Town" ({ cls := "JarMinutes$Town", name := "hasPerson", desc := "(I)Z" } : Jvm.MethodName) ({ cls := "JarMinutes$Town", name := "hasPerson", desc := "(I)Z" } : Jvm.MethodName)) ∈ fm_all := fm_m 241 (by decide +kernel) rfl
theorem fw_242 : (Jvm.Cond.code ({ cls := "JarMinutes$Town", name := "hasPerson", desc := "(I)Z" } : Jvm.MethodName) prog_7_method_4_code (2 : Nat) (Option.some Jvm.ClassFile.FieldType.boolean)) ∈ fm_all := fm_m 242 (by decide +kernel) rfl
theorem fw_243 : (Jvm.Cond.methodLink "JarMinutesLaw" (23 : Nat) ({ cls := "JarMinutes", name := "told", desc := "(II)I" } : Jvm.MethodName)) ∈ fm_all := fm_m 243 (by decide +kernel) rfl
theorem fw_244 : (Jvm.Cond.instanceMethod ({ cls := "JarMinutes", name := "told", desc := "(II)I" } : Jvm.MethodName)) ∈ fm_all := fm_m 244 (by decide +kernel) rfl
theorem fw_245 : (Jvm.Cond.selects "JarMinutes" ({ cls := "JarMinutes", name := "told", desc := "(II)I" } : Jvm.MethodName) ({ cls := "JarMinutes", name := "told", desc := "(II)I" } : Jvm.MethodName)) ∈ fm_all := fm_m 245 (by decide +kernel) rfl
theorem fw_246 : (Jvm.Cond.code ({ cls := "JarMinutes", name := "told", desc := "(II)I" } : Jvm.MethodName) prog_1_method_4_code (4 : Nat) (Option.some Jvm.ClassFile.FieldType.int)) ∈ fm_all := fm_m 246 (by decide +kernel) rfl
theorem fw_247 : (Jvm.Cond.methodLink "JarMinutesLaw" (27 : Nat) ({ cls := "JarMinutes", name := "worth", desc := "(III)I" } : Jvm.MethodName)) ∈ fm_all := fm_m 247 (by decide +kernel) rfl
theorem fw_248 : (Jvm.Cond.instanceMethod ({ cls := "JarMinutes", name := "worth", desc := "(III)I" } : Jvm.MethodName)) ∈ fm_all := fm_m 248 (by decide +kernel) rfl
theorem fw_249 : (Jvm.Cond.selects "JarMinutes" ({ cls := "JarMinutes", name := "worth", desc := "(III)I" } : Jvm.MethodName) ({ cls := "JarMinutes", name := "worth", desc := "(III)I" } : Jvm.MethodName)) ∈ fm_all := fm_m 249 (by decide +kernel) rfl
theorem fw_250 : (Jvm.Cond.code ({ cls := "JarMinutes", name := "worth", desc := "(III)I" } : Jvm.MethodName) prog_1_method_5_code (4 : Nat) (Option.some Jvm.ClassFile.FieldType.int)) ∈ fm_all := fm_m 250 (by decide +kernel) rfl
theorem fw_251 : (Jvm.Cond.methodLink "JarMinutes" (92 : Nat) ({ cls := "JarMinutes$Person", name := "worthOf", desc := "(II)I" } : Jvm.MethodName)) ∈ fm_all := fm_m 251 (by decide +kernel) rfl
theorem fw_252 : (Jvm.Cond.instanceMethod ({ cls := "JarMinutes$Person", name := "worthOf", desc := "(II)I" } : Jvm.MethodName)) ∈ fm_all := fm_m 252 (by decide +kernel) rfl
theorem fw_253 : (Jvm.Cond.selects "JarMinutes$Person" ({ cls := "JarMinutes$Person", name := "worthOf", desc := "(II)I" } : Jvm.MethodName) ({ cls := "JarMinutes$Person", name := "worthOf", desc := "(II)I" } : Jvm.MethodName)) ∈ fm_all := fm_m 253 (by decide +kernel) rfl
theorem fw_254 : (Jvm.Cond.code ({ cls := "JarMinutes$Person", name := "worthOf", desc := "(II)I" } : Jvm.MethodName) prog_3_method_4_code (4 : Nat) (Option.some Jvm.ClassFile.FieldType.int)) ∈ fm_all := fm_m 254 (by decide +kernel) rfl
theorem fw_256 : (Jvm.Cond.static ({ cls := "JarMinutes", name := "apart", desc := "(II)I" } : Jvm.MethodName)) ∈ fm_all := fm_m 256 (by decide +kernel) rfl
theorem fw_257 : (Jvm.Cond.code ({ cls := "JarMinutes", name := "apart", desc := "(II)I" } : Jvm.MethodName) prog_1_method_44_code (3 : Nat) (Option.some Jvm.ClassFile.FieldType.int)) ∈ fm_all := fm_m 257 (by decide +kernel) rfl
theorem fw_258 : (Jvm.Cond.methodLink "JarMinutes" (275 : Nat) ({ cls := "java/lang/Math", name := "abs", desc := "(I)I" } : Jvm.MethodName)) ∈ fm_all := fm_m 258 (by decide +kernel) rfl
theorem fw_259 : (Jvm.Cond.static ({ cls := "java/lang/Math", name := "abs", desc := "(I)I" } : Jvm.MethodName)) ∈ fm_all := fm_m 259 (by decide +kernel) rfl
theorem fw_260 : (Jvm.Cond.code ({ cls := "java/lang/Math", name := "abs", desc := "(I)I" } : Jvm.MethodName) prog_10_method_59_code (1 : Nat) (Option.some Jvm.ClassFile.FieldType.int)) ∈ fm_all := fm_m 260 (by decide +kernel) rfl
theorem fw_261 : (Jvm.Cond.methodLink "JarMinutes" (280 : Nat) ({ cls := "java/lang/Math", name := "min", desc := "(II)I" } : Jvm.MethodName)) ∈ fm_all := fm_m 261 (by decide +kernel) rfl
theorem fw_262 : (Jvm.Cond.static ({ cls := "java/lang/Math", name := "min", desc := "(II)I" } : Jvm.MethodName)) ∈ fm_all := fm_m 262 (by decide +kernel) rfl
theorem fw_263 : (Jvm.Cond.code ({ cls := "java/lang/Math", name := "min", desc := "(II)I" } : Jvm.MethodName) prog_10_method_69_code (2 : Nat) (Option.some Jvm.ClassFile.FieldType.int)) ∈ fm_all := fm_m 263 (by decide +kernel) rfl
theorem fw_264 : (Jvm.Cond.methodLink "JarMinutes$Person" (32 : Nat) ({ cls := "JarMinutes$Person", name := "cookWorth", desc := "(I)I" } : Jvm.MethodName)) ∈ fm_all := fm_m 264 (by decide +kernel) rfl
theorem fw_266 : (Jvm.Cond.instanceMethod ({ cls := "JarMinutes$Person", name := "cookWorth", desc := "(I)I" } : Jvm.MethodName)) ∈ fm_all := fm_m 266 (by decide +kernel) rfl
theorem fw_267 : (Jvm.Cond.code ({ cls := "JarMinutes$Person", name := "cookWorth", desc := "(I)I" } : Jvm.MethodName) prog_3_method_5_code (2 : Nat) (Option.some Jvm.ClassFile.FieldType.int)) ∈ fm_all := fm_m 267 (by decide +kernel) rfl
theorem fw_268 : (Jvm.Cond.methodLink "JarMinutes$Person" (36 : Nat) ({ cls := "java/lang/Math", name := "max", desc := "(II)I" } : Jvm.MethodName)) ∈ fm_all := fm_m 268 (by decide +kernel) rfl
theorem fw_269 : (Jvm.Cond.static ({ cls := "java/lang/Math", name := "max", desc := "(II)I" } : Jvm.MethodName)) ∈ fm_all := fm_m 269 (by decide +kernel) rfl
theorem fw_270 : (Jvm.Cond.code ({ cls := "java/lang/Math", name := "max", desc := "(II)I" } : Jvm.MethodName) prog_10_method_65_code (2 : Nat) (Option.some Jvm.ClassFile.FieldType.int)) ∈ fm_all := fm_m 270 (by decide +kernel) rfl
theorem fw_271 : (Jvm.Cond.methodLink "JarMinutesLaw" (31 : Nat) ({ cls := "JarMinutes", name := "train", desc := "(II)I" } : Jvm.MethodName)) ∈ fm_all := fm_m 271 (by decide +kernel) rfl
theorem fw_272 : (Jvm.Cond.instanceMethod ({ cls := "JarMinutes", name := "train", desc := "(II)I" } : Jvm.MethodName)) ∈ fm_all := fm_m 272 (by decide +kernel) rfl
theorem fw_273 : (Jvm.Cond.selects "JarMinutes" ({ cls := "JarMinutes", name := "train", desc := "(II)I" } : Jvm.MethodName) ({ cls := "JarMinutes", name := "train", desc := "(II)I" } : Jvm.MethodName)) ∈ fm_all := fm_m 273 (by decide +kernel) rfl
theorem fw_274 : (Jvm.Cond.code ({ cls := "JarMinutes", name := "train", desc := "(II)I" } : Jvm.MethodName) prog_1_method_6_code (3 : Nat) (Option.some Jvm.ClassFile.FieldType.int)) ∈ fm_all := fm_m 274 (by decide +kernel) rfl
theorem fw_275 : (Jvm.Cond.methodLink "JarMinutesLaw" (35 : Nat) ({ cls := "JarMinutes", name := "strike", desc := "()I" } : Jvm.MethodName)) ∈ fm_all := fm_m 275 (by decide +kernel) rfl
theorem fw_276 : (Jvm.Cond.instanceMethod ({ cls := "JarMinutes", name := "strike", desc := "()I" } : Jvm.MethodName)) ∈ fm_all := fm_m 276 (by decide +kernel) rfl
theorem fw_277 : (Jvm.Cond.selects "JarMinutes" ({ cls := "JarMinutes", name := "strike", desc := "()I" } : Jvm.MethodName) ({ cls := "JarMinutes", name := "strike", desc := "()I" } : Jvm.MethodName)) ∈ fm_all := fm_m 277 (by decide +kernel) rfl
theorem fw_278 : (Jvm.Cond.code ({ cls := "JarMinutes", name := "strike", desc := "()I" } : Jvm.MethodName) prog_1_method_7_code (1 : Nat) (Option.some Jvm.ClassFile.FieldType.int)) ∈ fm_all := fm_m 278 (by decide +kernel) rfl
theorem fw_279 : (Jvm.Cond.methodLink "JarMinutesLaw" (40 : Nat) ({ cls := "JarMinutes", name := "set", desc := "(II)I" } : Jvm.MethodName)) ∈ fm_all := fm_m 279 (by decide +kernel) rfl
theorem fw_280 : (Jvm.Cond.instanceMethod ({ cls := "JarMinutes", name := "set", desc := "(II)I" } : Jvm.MethodName)) ∈ fm_all := fm_m 280 (by decide +kernel) rfl
theorem fw_281 : (Jvm.Cond.selects "JarMinutes" ({ cls := "JarMinutes", name := "set", desc := "(II)I" } : Jvm.MethodName) ({ cls := "JarMinutes", name := "set", desc := "(II)I" } : Jvm.MethodName)) ∈ fm_all := fm_m 281 (by decide +kernel) rfl
theorem fw_282 : (Jvm.Cond.code ({ cls := "JarMinutes", name := "set", desc := "(II)I" } : Jvm.MethodName) prog_1_method_8_code (4 : Nat) (Option.some Jvm.ClassFile.FieldType.int)) ∈ fm_all := fm_m 282 (by decide +kernel) rfl
theorem fw_283 : (Jvm.Cond.methodLink "JarMinutes" (105 : Nat) ({ cls := "JarMinutes", name := "mostOfSetting", desc := "(I)I" } : Jvm.MethodName)) ∈ fm_all := fm_m 283 (by decide +kernel) rfl
theorem fw_284 : (Jvm.Cond.static ({ cls := "JarMinutes", name := "mostOfSetting", desc := "(I)I" } : Jvm.MethodName)) ∈ fm_all := fm_m 284 (by decide +kernel) rfl
theorem fw_285 : (Jvm.Cond.code ({ cls := "JarMinutes", name := "mostOfSetting", desc := "(I)I" } : Jvm.MethodName) prog_1_method_42_code (1 : Nat) (Option.some Jvm.ClassFile.FieldType.int)) ∈ fm_all := fm_m 285 (by decide +kernel) rfl
theorem fw_286 : (Jvm.Cond.methodLink "JarMinutes" (109 : Nat) ({ cls := "JarMinutes", name := "is", desc := "(I)I" } : Jvm.MethodName)) ∈ fm_all := fm_m 286 (by decide +kernel) rfl
theorem fw_287 : (Jvm.Cond.instanceMethod ({ cls := "JarMinutes", name := "is", desc := "(I)I" } : Jvm.MethodName)) ∈ fm_all := fm_m 287 (by decide +kernel) rfl
theorem fw_288 : (Jvm.Cond.selects "JarMinutes" ({ cls := "JarMinutes", name := "is", desc := "(I)I" } : Jvm.MethodName) ({ cls := "JarMinutes", name := "is", desc := "(I)I" } : Jvm.MethodName)) ∈ fm_all := fm_m 288 (by decide +kernel) rfl
theorem fw_289 : (Jvm.Cond.code ({ cls := "JarMinutes", name := "is", desc := "(I)I" } : Jvm.MethodName) prog_1_method_14_code (2 : Nat) (Option.some Jvm.ClassFile.FieldType.int)) ∈ fm_all := fm_m 289 (by decide +kernel) rfl
theorem fw_290 : (Jvm.Cond.constant "JarMinutes" (174 : Nat) (-100000001 : Int32)) ∈ fm_all := fm_m 290 (by decide +kernel) rfl
theorem fw_291 : (Jvm.Cond.methodLink "JarMinutesLaw" (44 : Nat) ({ cls := "JarMinutes", name := "loss", desc := "(II)I" } : Jvm.MethodName)) ∈ fm_all := fm_m 291 (by decide +kernel) rfl
theorem fw_292 : (Jvm.Cond.instanceMethod ({ cls := "JarMinutes", name := "loss", desc := "(II)I" } : Jvm.MethodName)) ∈ fm_all := fm_m 292 (by decide +kernel) rfl
theorem fw_293 : (Jvm.Cond.selects "JarMinutes" ({ cls := "JarMinutes", name := "loss", desc := "(II)I" } : Jvm.MethodName) ({ cls := "JarMinutes", name := "loss", desc := "(II)I" } : Jvm.MethodName)) ∈ fm_all := fm_m 293 (by decide +kernel) rfl
theorem fw_294 : (Jvm.Cond.code ({ cls := "JarMinutes", name := "loss", desc := "(II)I" } : Jvm.MethodName) prog_1_method_9_code (4 : Nat) (Option.some Jvm.ClassFile.FieldType.int)) ∈ fm_all := fm_m 294 (by decide +kernel) rfl
theorem fw_295 : (Jvm.Cond.methodLink "JarMinutesLaw" (50 : Nat) ({ cls := "JarMinutes", name := "type", desc := "(JI)I" } : Jvm.MethodName)) ∈ fm_all := fm_m 295 (by decide +kernel) rfl
theorem fw_296 : (Jvm.Cond.instanceMethod ({ cls := "JarMinutes", name := "type", desc := "(JI)I" } : Jvm.MethodName)) ∈ fm_all := fm_m 296 (by decide +kernel) rfl
theorem fw_297 : (Jvm.Cond.selects "JarMinutes" ({ cls := "JarMinutes", name := "type", desc := "(JI)I" } : Jvm.MethodName) ({ cls := "JarMinutes", name := "type", desc := "(JI)I" } : Jvm.MethodName)) ∈ fm_all := fm_m 297 (by decide +kernel) rfl
theorem fw_298 : (Jvm.Cond.code ({ cls := "JarMinutes", name := "type", desc := "(JI)I" } : Jvm.MethodName) prog_1_method_10_code (5 : Nat) (Option.some Jvm.ClassFile.FieldType.int)) ∈ fm_all := fm_m 298 (by decide +kernel) rfl
theorem fw_299 : (Jvm.Cond.methodLink "JarMinutes" (127 : Nat) ({ cls := "JarMinutes", name := "byteOf", desc := "(JI)I" } : Jvm.MethodName)) ∈ fm_all := fm_m 299 (by decide +kernel) rfl
theorem fw_300 : (Jvm.Cond.static ({ cls := "JarMinutes", name := "byteOf", desc := "(JI)I" } : Jvm.MethodName)) ∈ fm_all := fm_m 300 (by decide +kernel) rfl
theorem fw_301 : (Jvm.Cond.code ({ cls := "JarMinutes", name := "byteOf", desc := "(JI)I" } : Jvm.MethodName) prog_1_method_43_code (3 : Nat) (Option.some Jvm.ClassFile.FieldType.int)) ∈ fm_all := fm_m 301 (by decide +kernel) rfl
theorem fw_302 : (Jvm.Cond.methodLink "JarMinutes" (131 : Nat) ({ cls := "JarMinutes$Tape", name := "isSign", desc := "(I)Z" } : Jvm.MethodName)) ∈ fm_all := fm_m 302 (by decide +kernel) rfl
theorem fw_303 : (Jvm.Cond.static ({ cls := "JarMinutes$Tape", name := "isSign", desc := "(I)Z" } : Jvm.MethodName)) ∈ fm_all := fm_m 303 (by decide +kernel) rfl
theorem fw_304 : (Jvm.Cond.code ({ cls := "JarMinutes$Tape", name := "isSign", desc := "(I)Z" } : Jvm.MethodName) prog_6_method_2_code (1 : Nat) (Option.some Jvm.ClassFile.FieldType.boolean)) ∈ fm_all := fm_m 304 (by decide +kernel) rfl
theorem fw_305 : (Jvm.Cond.methodLink "JarMinutes" (137 : Nat) ({ cls := "JarMinutes$Tape", name := "add", desc := "(I)V" } : Jvm.MethodName)) ∈ fm_all := fm_m 305 (by decide +kernel) rfl
theorem fw_306 : (Jvm.Cond.instanceMethod ({ cls := "JarMinutes$Tape", name := "add", desc := "(I)V" } : Jvm.MethodName)) ∈ fm_all := fm_m 306 (by decide +kernel) rfl
theorem fw_307 : (Jvm.Cond.selects "JarMinutes$Tape" ({ cls := "JarMinutes$Tape", name := "add", desc := "(I)V" } : Jvm.MethodName) ({ cls := "JarMinutes$Tape", name := "add", desc := "(I)V" } : Jvm.MethodName)) ∈ fm_all := fm_m 307 (by decide +kernel) rfl
theorem fw_308 : (Jvm.Cond.code ({ cls := "JarMinutes$Tape", name := "add", desc := "(I)V" } : Jvm.MethodName) prog_6_method_4_code (2 : Nat) (Option.none : Option Jvm.ClassFile.FieldType)) ∈ fm_all := fm_m 308 (by decide +kernel) rfl
theorem fw_309 : (Jvm.Cond.methodLink "JarMinutesLaw" (55 : Nat) ({ cls := "JarMinutes", name := "town", desc := "()I" } : Jvm.MethodName)) ∈ fm_all := fm_m 309 (by decide +kernel) rfl
theorem fw_310 : (Jvm.Cond.instanceMethod ({ cls := "JarMinutes", name := "town", desc := "()I" } : Jvm.MethodName)) ∈ fm_all := fm_m 310 (by decide +kernel) rfl
theorem fw_311 : (Jvm.Cond.selects "JarMinutes" ({ cls := "JarMinutes", name := "town", desc := "()I" } : Jvm.MethodName) ({ cls := "JarMinutes", name := "town", desc := "()I" } : Jvm.MethodName)) ∈ fm_all := fm_m 311 (by decide +kernel) rfl
theorem fw_312 : (Jvm.Cond.code ({ cls := "JarMinutes", name := "town", desc := "()I" } : Jvm.MethodName) prog_1_method_11_code (2 : Nat) (Option.some Jvm.ClassFile.FieldType.int)) ∈ fm_all := fm_m 312 (by decide +kernel) rfl
theorem fw_313 : (Jvm.Cond.methodLink "JarMinutes" (141 : Nat) ({ cls := "JarMinutes$Tape", name := "readTown", desc := "()I" } : Jvm.MethodName)) ∈ fm_all := fm_m 313 (by decide +kernel) rfl
theorem fw_314 : (Jvm.Cond.instanceMethod ({ cls := "JarMinutes$Tape", name := "readTown", desc := "()I" } : Jvm.MethodName)) ∈ fm_all := fm_m 314 (by decide +kernel) rfl
theorem fw_315 : (Jvm.Cond.selects "JarMinutes$Tape" ({ cls := "JarMinutes$Tape", name := "readTown", desc := "()I" } : Jvm.MethodName) ({ cls := "JarMinutes$Tape", name := "readTown", desc := "()I" } : Jvm.MethodName)) ∈ fm_all := fm_m 315 (by decide +kernel) rfl
theorem fw_316 : (Jvm.Cond.code ({ cls := "JarMinutes$Tape", name := "readTown", desc := "()I" } : Jvm.MethodName) prog_6_method_10_code (3 : Nat) (Option.some Jvm.ClassFile.FieldType.int)) ∈ fm_all := fm_m 316 (by decide +kernel) rfl
theorem fw_317 : (Jvm.Cond.methodLink "JarMinutes$Tape" (53 : Nat) ({ cls := "JarMinutes$Tape", name := "readPerson", desc := "(LJarMinutes$Person;)I" } : Jvm.MethodName)) ∈ fm_all := fm_m 317 (by decide +kernel) rfl
theorem fw_319 : (Jvm.Cond.instanceMethod ({ cls := "JarMinutes$Tape", name := "readPerson", desc := "(LJarMinutes$Person;)I" } : Jvm.MethodName)) ∈ fm_all := fm_m 319 (by decide +kernel) rfl
theorem fw_320 : (Jvm.Cond.code ({ cls := "JarMinutes$Tape", name := "readPerson", desc := "(LJarMinutes$Person;)I" } : Jvm.MethodName) prog_6_method_11_code (5 : Nat) (Option.some Jvm.ClassFile.FieldType.int)) ∈ fm_all := fm_m 320 (by decide +kernel) rfl
theorem fw_321 : (Jvm.Cond.methodLink "JarMinutes$Tape" (36 : Nat) ({ cls := "JarMinutes$Tape", name := "next", desc := "()I" } : Jvm.MethodName)) ∈ fm_all := fm_m 321 (by decide +kernel) rfl
theorem fw_323 : (Jvm.Cond.instanceMethod ({ cls := "JarMinutes$Tape", name := "next", desc := "()I" } : Jvm.MethodName)) ∈ fm_all := fm_m 323 (by decide +kernel) rfl
theorem fw_324 : (Jvm.Cond.code ({ cls := "JarMinutes$Tape", name := "next", desc := "()I" } : Jvm.MethodName) prog_6_method_6_code (1 : Nat) (Option.some Jvm.ClassFile.FieldType.int)) ∈ fm_all := fm_m 324 (by decide +kernel) rfl
theorem fw_325 : (Jvm.Cond.methodLink "JarMinutes$Tape" (61 : Nat) ({ cls := "JarMinutes$Tape", name := "kindOf", desc := "(I)I" } : Jvm.MethodName)) ∈ fm_all := fm_m 325 (by decide +kernel) rfl
theorem fw_326 : (Jvm.Cond.static ({ cls := "JarMinutes$Tape", name := "kindOf", desc := "(I)I" } : Jvm.MethodName)) ∈ fm_all := fm_m 326 (by decide +kernel) rfl
theorem fw_327 : (Jvm.Cond.code ({ cls := "JarMinutes$Tape", name := "kindOf", desc := "(I)I" } : Jvm.MethodName) prog_6_method_12_code (1 : Nat) (Option.some Jvm.ClassFile.FieldType.int)) ∈ fm_all := fm_m 327 (by decide +kernel) rfl
theorem fw_328 : (Jvm.Cond.methodLink "JarMinutes$Tape" (44 : Nat) ({ cls := "JarMinutes$Tape", name := "faultHere", desc := "()I" } : Jvm.MethodName)) ∈ fm_all := fm_m 328 (by decide +kernel) rfl
theorem fw_330 : (Jvm.Cond.instanceMethod ({ cls := "JarMinutes$Tape", name := "faultHere", desc := "()I" } : Jvm.MethodName)) ∈ fm_all := fm_m 330 (by decide +kernel) rfl
theorem fw_331 : (Jvm.Cond.code ({ cls := "JarMinutes$Tape", name := "faultHere", desc := "()I" } : Jvm.MethodName) prog_6_method_8_code (1 : Nat) (Option.some Jvm.ClassFile.FieldType.int)) ∈ fm_all := fm_m 331 (by decide +kernel) rfl
theorem fw_332 : (Jvm.Cond.methodLink "JarMinutes$Tape" (65 : Nat) ({ cls := "JarMinutes$Tape", name := "readNumber", desc := "(I)I" } : Jvm.MethodName)) ∈ fm_all := fm_m 332 (by decide +kernel) rfl
theorem fw_334 : (Jvm.Cond.instanceMethod ({ cls := "JarMinutes$Tape", name := "readNumber", desc := "(I)I" } : Jvm.MethodName)) ∈ fm_all := fm_m 334 (by decide +kernel) rfl
theorem fw_335 : (Jvm.Cond.code ({ cls := "JarMinutes$Tape", name := "readNumber", desc := "(I)I" } : Jvm.MethodName) prog_6_method_9_code (3 : Nat) (Option.some Jvm.ClassFile.FieldType.int)) ∈ fm_all := fm_m 335 (by decide +kernel) rfl
theorem fw_336 : (Jvm.Cond.methodLink "JarMinutes$Tape" (40 : Nat) ({ cls := "JarMinutes$Tape", name := "isFigure", desc := "(I)Z" } : Jvm.MethodName)) ∈ fm_all := fm_m 336 (by decide +kernel) rfl
theorem fw_337 : (Jvm.Cond.static ({ cls := "JarMinutes$Tape", name := "isFigure", desc := "(I)Z" } : Jvm.MethodName)) ∈ fm_all := fm_m 337 (by decide +kernel) rfl
theorem fw_338 : (Jvm.Cond.code ({ cls := "JarMinutes$Tape", name := "isFigure", desc := "(I)Z" } : Jvm.MethodName) prog_6_method_3_code (1 : Nat) (Option.some Jvm.ClassFile.FieldType.boolean)) ∈ fm_all := fm_m 338 (by decide +kernel) rfl
theorem fw_339 : (Jvm.Cond.methodLink "JarMinutes$Tape" (47 : Nat) ({ cls := "java/lang/Math", name := "min", desc := "(II)I" } : Jvm.MethodName)) ∈ fm_all := fm_m 339 (by decide +kernel) rfl
theorem fw_340 : (Jvm.Cond.methodLink "JarMinutes$Tape" (57 : Nat) ({ cls := "JarMinutes$Tape", name := "passes", desc := "(C)Z" } : Jvm.MethodName)) ∈ fm_all := fm_m 340 (by decide +kernel) rfl
theorem fw_342 : (Jvm.Cond.instanceMethod ({ cls := "JarMinutes$Tape", name := "passes", desc := "(C)Z" } : Jvm.MethodName)) ∈ fm_all := fm_m 342 (by decide +kernel) rfl
theorem fw_343 : (Jvm.Cond.code ({ cls := "JarMinutes$Tape", name := "passes", desc := "(C)Z" } : Jvm.MethodName) prog_6_method_7_code (2 : Nat) (Option.some Jvm.ClassFile.FieldType.boolean)) ∈ fm_all := fm_m 343 (by decide +kernel) rfl
theorem fw_344 : (Jvm.Cond.methodLink "JarMinutes$Tape" (68 : Nat) ({ cls := "JarMinutes$Person", name := "become", desc := "(IIII)V" } : Jvm.MethodName)) ∈ fm_all := fm_m 344 (by decide +kernel) rfl
theorem fw_345 : (Jvm.Cond.methodLink "JarMinutes" (145 : Nat) ({ cls := "JarMinutes$Tape", name := "clear", desc := "()V" } : Jvm.MethodName)) ∈ fm_all := fm_m 345 (by decide +kernel) rfl
theorem fw_346 : (Jvm.Cond.instanceMethod ({ cls := "JarMinutes$Tape", name := "clear", desc := "()V" } : Jvm.MethodName)) ∈ fm_all := fm_m 346 (by decide +kernel) rfl
theorem fw_347 : (Jvm.Cond.selects "JarMinutes$Tape" ({ cls := "JarMinutes$Tape", name := "clear", desc := "()V" } : Jvm.MethodName) ({ cls := "JarMinutes$Tape", name := "clear", desc := "()V" } : Jvm.MethodName)) ∈ fm_all := fm_m 347 (by decide +kernel) rfl
theorem fw_348 : (Jvm.Cond.code ({ cls := "JarMinutes$Tape", name := "clear", desc := "()V" } : Jvm.MethodName) prog_6_method_5_code (1 : Nat) (Option.none : Option Jvm.ClassFile.FieldType)) ∈ fm_all := fm_m 348 (by decide +kernel) rfl
theorem fw_349 : (Jvm.Cond.methodLink "JarMinutes" (151 : Nat) ({ cls := "JarMinutes$Town", name := "takePeople", desc := "([LJarMinutes$Person;I)V" } : Jvm.MethodName)) ∈ fm_all := fm_m 349 (by decide +kernel) rfl
theorem fw_350 : (Jvm.Cond.instanceMethod ({ cls := "JarMinutes$Town", name := "takePeople", desc := "([LJarMinutes$Person;I)V" } : Jvm.MethodName)) ∈ fm_all := fm_m 350 (by decide +kernel) rfl
theorem fw_351 : (Jvm.Cond.selects "JarMinutes$Town" ({ cls := "JarMinutes$Town", name := "takePeople", desc := "([LJarMinutes$Person;I)V" } : Jvm.MethodName) ({ cls := "JarMinutes$Town", name := "takePeople", desc := "([LJarMinutes$Person;I)V" } : Jvm.MethodName)) ∈ fm_all := fm_m 351 (by decide +kernel) rfl
theorem fw_352 : (Jvm.Cond.code ({ cls := "JarMinutes$Town", name := "takePeople", desc := "([LJarMinutes$Person;I)V" } : Jvm.MethodName) prog_7_method_3_code (4 : Nat) (Option.none : Option Jvm.ClassFile.FieldType)) ∈ fm_all := fm_m 352 (by decide +kernel) rfl
theorem fw_353 : (Jvm.Cond.methodLink "JarMinutes$Town" (75 : Nat) ({ cls := "JarMinutes$Person", name := "becomeLike", desc := "(LJarMinutes$Person;)V" } : Jvm.MethodName)) ∈ fm_all := fm_m 353 (by decide +kernel) rfl
theorem fw_354 : (Jvm.Cond.instanceMethod ({ cls := "JarMinutes$Person", name := "becomeLike", desc := "(LJarMinutes$Person;)V" } : Jvm.MethodName)) ∈ fm_all := fm_m 354 (by decide +kernel) rfl
theorem fw_355 : (Jvm.Cond.selects "JarMinutes$Person" ({ cls := "JarMinutes$Person", name := "becomeLike", desc := "(LJarMinutes$Person;)V" } : Jvm.MethodName) ({ cls := "JarMinutes$Person", name := "becomeLike", desc := "(LJarMinutes$Person;)V" } : Jvm.MethodName)) ∈ fm_all := fm_m 355 (by decide +kernel) rfl
theorem fw_356 : (Jvm.Cond.code ({ cls := "JarMinutes$Person", name := "becomeLike", desc := "(LJarMinutes$Person;)V" } : Jvm.MethodName) prog_3_method_3_code (2 : Nat) (Option.none : Option Jvm.ClassFile.FieldType)) ∈ fm_all := fm_m 356 (by decide +kernel) rfl
theorem fw_357 : (Jvm.Cond.methodLink "JarMinutes$Person" (24 : Nat) ({ cls := "JarMinutes$Person", name := "become", desc := "(IIII)V" } : Jvm.MethodName)) ∈ fm_all := fm_m 357 (by decide +kernel) rfl
theorem fw_358 : (Jvm.Cond.methodLink "JarMinutesLaw" (59 : Nat) ({ cls := "JarMinutes", name := "plan", desc := "()I" } : Jvm.MethodName)) ∈ fm_all := fm_m 358 (by decide +kernel) rfl
theorem fw_359 : (Jvm.Cond.instanceMethod ({ cls := "JarMinutes", name := "plan", desc := "()I" } : Jvm.MethodName)) ∈ fm_all := fm_m 359 (by decide +kernel) rfl
theorem fw_360 : (Jvm.Cond.selects "JarMinutes" ({ cls := "JarMinutes", name := "plan", desc := "()I" } : Jvm.MethodName) ({ cls := "JarMinutes", name := "plan", desc := "()I" } : Jvm.MethodName)) ∈ fm_all := fm_m 360 (by decide +kernel) rfl
theorem fw_361 : (Jvm.Cond.code ({ cls := "JarMinutes", name := "plan", desc := "()I" } : Jvm.MethodName) prog_1_method_12_code (2 : Nat) (Option.some Jvm.ClassFile.FieldType.int)) ∈ fm_all := fm_m 361 (by decide +kernel) rfl
theorem fw_362 : (Jvm.Cond.methodLink "JarMinutes" (155 : Nat) ({ cls := "JarMinutes$Tape", name := "readPlan", desc := "()I" } : Jvm.MethodName)) ∈ fm_all := fm_m 362 (by decide +kernel) rfl
theorem fw_363 : (Jvm.Cond.instanceMethod ({ cls := "JarMinutes$Tape", name := "readPlan", desc := "()I" } : Jvm.MethodName)) ∈ fm_all := fm_m 363 (by decide +kernel) rfl
theorem fw_364 : (Jvm.Cond.selects "JarMinutes$Tape" ({ cls := "JarMinutes$Tape", name := "readPlan", desc := "()I" } : Jvm.MethodName) ({ cls := "JarMinutes$Tape", name := "readPlan", desc := "()I" } : Jvm.MethodName)) ∈ fm_all := fm_m 364 (by decide +kernel) rfl
theorem fw_365 : (Jvm.Cond.code ({ cls := "JarMinutes$Tape", name := "readPlan", desc := "()I" } : Jvm.MethodName) prog_6_method_13_code (5 : Nat) (Option.some Jvm.ClassFile.FieldType.int)) ∈ fm_all := fm_m 365 (by decide +kernel) rfl
theorem fw_366 : (Jvm.Cond.methodLink "JarMinutes$Tape" (72 : Nat) ({ cls := "java/util/Arrays", name := "fill", desc := "([II)V" } : Jvm.MethodName)) ∈ fm_all := fm_m 366 (by decide +kernel) rfl
theorem fw_367 : (Jvm.Cond.methodLink "JarMinutes$Tape" (78 : Nat) ({ cls := "JarMinutes$Tape", name := "readHourNumber", desc := "(I)I" } : Jvm.MethodName)) ∈ fm_all := fm_m 367 (by decide +kernel) rfl
theorem fw_369 : (Jvm.Cond.instanceMethod ({ cls := "JarMinutes$Tape", name := "readHourNumber", desc := "(I)I" } : Jvm.MethodName)) ∈ fm_all := fm_m 369 (by decide +kernel) rfl
theorem fw_370 : (Jvm.Cond.code ({ cls := "JarMinutes$Tape", name := "readHourNumber", desc := "(I)I" } : Jvm.MethodName) prog_6_method_14_code (5 : Nat) (Option.some Jvm.ClassFile.FieldType.int)) ∈ fm_all := fm_m 370 (by decide +kernel) rfl
theorem fw_371 : (Jvm.Cond.methodLink "JarMinutes" (164 : Nat) ({ cls := "java/lang/System", name := "arraycopy", desc := "(Ljava/lang/Object;ILjava/lang/Object;II)V" } : Jvm.MethodName)) ∈ fm_all := fm_m 371 (by decide +kernel) rfl
theorem fw_372 : (Jvm.Cond.static ({ cls := "java/lang/System", name := "arraycopy", desc := "(Ljava/lang/Object;ILjava/lang/Object;II)V" } : Jvm.MethodName)) ∈ fm_all := fm_m 372 (by decide +kernel) rfl
theorem fw_373 : (Jvm.Cond.native ({ cls := "java/lang/System", name := "arraycopy", desc := "(Ljava/lang/Object;ILjava/lang/Object;II)V" } : Jvm.MethodName)) ∈ fm_all := fm_m 373 (by decide +kernel) rfl
theorem fw_374 : (Jvm.Cond.methodLink "JarMinutesLaw" (63 : Nat) ({ cls := "JarMinutes", name := "lay", desc := "(II)I" } : Jvm.MethodName)) ∈ fm_all := fm_m 374 (by decide +kernel) rfl
theorem fw_375 : (Jvm.Cond.instanceMethod ({ cls := "JarMinutes", name := "lay", desc := "(II)I" } : Jvm.MethodName)) ∈ fm_all := fm_m 375 (by decide +kernel) rfl
theorem fw_376 : (Jvm.Cond.selects "JarMinutes" ({ cls := "JarMinutes", name := "lay", desc := "(II)I" } : Jvm.MethodName) ({ cls := "JarMinutes", name := "lay", desc := "(II)I" } : Jvm.MethodName)) ∈ fm_all := fm_m 376 (by decide +kernel) rfl
theorem fw_377 : (Jvm.Cond.code ({ cls := "JarMinutes", name := "lay", desc := "(II)I" } : Jvm.MethodName) prog_1_method_13_code (4 : Nat) (Option.some Jvm.ClassFile.FieldType.int)) ∈ fm_all := fm_m 377 (by decide +kernel) rfl
theorem fw_378 : (Jvm.Cond.methodLink "JarMinutes" (170 : Nat) ({ cls := "JarMinutes", name := "isNumber", desc := "(J)Z" } : Jvm.MethodName)) ∈ fm_all := fm_m 378 (by decide +kernel) rfl
theorem fw_379 : (Jvm.Cond.static ({ cls := "JarMinutes", name := "isNumber", desc := "(J)Z" } : Jvm.MethodName)) ∈ fm_all := fm_m 379 (by decide +kernel) rfl
theorem fw_380 : (Jvm.Cond.code ({ cls := "JarMinutes", name := "isNumber", desc := "(J)Z" } : Jvm.MethodName) prog_1_method_39_code (2 : Nat) (Option.some Jvm.ClassFile.FieldType.boolean)) ∈ fm_all := fm_m 380 (by decide +kernel) rfl
theorem fw_381 : (Jvm.Cond.constantLong "JarMinutes" (271 : Nat) (-2 : Int64)) ∈ fm_all := fm_m 381 (by decide +kernel) rfl
theorem fw_382 : (Jvm.Cond.constantLong "JarMinutes" (273 : Nat) (5 : Int64)) ∈ fm_all := fm_m 382 (by decide +kernel) rfl
theorem fw_383 : (Jvm.Cond.methodLink "JarMinutesLaw" (67 : Nat) ({ cls := "JarMinutes", name := "is", desc := "(I)I" } : Jvm.MethodName)) ∈ fm_all := fm_m 383 (by decide +kernel) rfl
theorem fw_384 : (Jvm.Cond.methodLink "JarMinutesLaw" (72 : Nat) ({ cls := "JarMinutes", name := "late", desc := "(I)I" } : Jvm.MethodName)) ∈ fm_all := fm_m 384 (by decide +kernel) rfl
theorem fw_385 : (Jvm.Cond.instanceMethod ({ cls := "JarMinutes", name := "late", desc := "(I)I" } : Jvm.MethodName)) ∈ fm_all := fm_m 385 (by decide +kernel) rfl
theorem fw_386 : (Jvm.Cond.selects "JarMinutes" ({ cls := "JarMinutes", name := "late", desc := "(I)I" } : Jvm.MethodName) ({ cls := "JarMinutes", name := "late", desc := "(I)I" } : Jvm.MethodName)) ∈ fm_all := fm_m 386 (by decide +kernel) rfl
theorem fw_387 : (Jvm.Cond.code ({ cls := "JarMinutes", name := "late", desc := "(I)I" } : Jvm.MethodName) prog_1_method_15_code (2 : Nat) (Option.some Jvm.ClassFile.FieldType.int)) ∈ fm_all := fm_m 387 (by decide +kernel) rfl
theorem fw_388 : (Jvm.Cond.methodLink "JarMinutes" (181 : Nat) ({ cls := "JarMinutes", name := "lateAt", desc := "([II)I" } : Jvm.MethodName)) ∈ fm_all := fm_m 388 (by decide +kernel) rfl
theorem fw_389 : (Jvm.Cond.static ({ cls := "JarMinutes", name := "lateAt", desc := "([II)I" } : Jvm.MethodName)) ∈ fm_all := fm_m 389 (by decide +kernel) rfl
theorem fw_390 : (Jvm.Cond.code ({ cls := "JarMinutes", name := "lateAt", desc := "([II)I" } : Jvm.MethodName) prog_1_method_45_code (4 : Nat) (Option.some Jvm.ClassFile.FieldType.int)) ∈ fm_all := fm_m 390 (by decide +kernel) rfl
theorem fw_391 : (Jvm.Cond.methodLink "JarMinutesLaw" (76 : Nat) ({ cls := "JarMinutes", name := "gain", desc := "()I" } : Jvm.MethodName)) ∈ fm_all := fm_m 391 (by decide +kernel) rfl
theorem fw_392 : (Jvm.Cond.instanceMethod ({ cls := "JarMinutes", name := "gain", desc := "()I" } : Jvm.MethodName)) ∈ fm_all := fm_m 392 (by decide +kernel) rfl
theorem fw_393 : (Jvm.Cond.selects "JarMinutes" ({ cls := "JarMinutes", name := "gain", desc := "()I" } : Jvm.MethodName) ({ cls := "JarMinutes", name := "gain", desc := "()I" } : Jvm.MethodName)) ∈ fm_all := fm_m 393 (by decide +kernel) rfl
theorem fw_394 : (Jvm.Cond.code ({ cls := "JarMinutes", name := "gain", desc := "()I" } : Jvm.MethodName) prog_1_method_16_code (1 : Nat) (Option.some Jvm.ClassFile.FieldType.int)) ∈ fm_all := fm_m 394 (by decide +kernel) rfl
theorem fw_395 : (Jvm.Cond.methodLink "JarMinutes" (185 : Nat) ({ cls := "JarMinutes$Town", name := "gainOf", desc := "([I)I" } : Jvm.MethodName)) ∈ fm_all := fm_m 395 (by decide +kernel) rfl
theorem fw_396 : (Jvm.Cond.instanceMethod ({ cls := "JarMinutes$Town", name := "gainOf", desc := "([I)I" } : Jvm.MethodName)) ∈ fm_all := fm_m 396 (by decide +kernel) rfl
theorem fw_397 : (Jvm.Cond.selects "JarMinutes$Town" ({ cls := "JarMinutes$Town", name := "gainOf", desc := "([I)I" } : Jvm.MethodName) ({ cls := "JarMinutes$Town", name := "gainOf", desc := "([I)I" } : Jvm.MethodName)) ∈ fm_all := fm_m 397 (by decide +kernel) rfl
theorem fw_398 : (Jvm.Cond.code ({ cls := "JarMinutes$Town", name := "gainOf", desc := "([I)I" } : Jvm.MethodName) prog_7_method_6_code (4 : Nat) (Option.some Jvm.ClassFile.FieldType.int)) ∈ fm_all := fm_m 398 (by decide +kernel) rfl
theorem fw_399 : (Jvm.Cond.methodLink "JarMinutes$Town" (86 : Nat) ({ cls := "JarMinutes$Town", name := "gainAt", desc := "(III)I" } : Jvm.MethodName)) ∈ fm_all := fm_m 399 (by decide +kernel) rfl
theorem fw_400 : (Jvm.Cond.instanceMethod ({ cls := "JarMinutes$Town", name := "gainAt", desc := "(III)I" } : Jvm.MethodName)) ∈ fm_all := fm_m 400 (by decide +kernel) rfl
theorem fw_401 : (Jvm.Cond.selects "JarMinutes$Town" ({ cls := "JarMinutes$Town", name := "gainAt", desc := "(III)I" } : Jvm.MethodName) ({ cls := "JarMinutes$Town", name := "gainAt", desc := "(III)I" } : Jvm.MethodName)) ∈ fm_all := fm_m 401 (by decide +kernel) rfl
theorem fw_402 : (Jvm.Cond.code ({ cls := "JarMinutes$Town", name := "gainAt", desc := "(III)I" } : Jvm.MethodName) prog_7_method_5_code (7 : Nat) (Option.some Jvm.ClassFile.FieldType.int)) ∈ fm_all := fm_m 402 (by decide +kernel) rfl
theorem fw_403 : (Jvm.Cond.methodLink "JarMinutes$Town" (82 : Nat) ({ cls := "JarMinutes$Person", name := "worthOf", desc := "(II)I" } : Jvm.MethodName)) ∈ fm_all := fm_m 403 (by decide +kernel) rfl
theorem fw_404 : (Jvm.Cond.methodLink "JarMinutesLaw" (80 : Nat) ({ cls := "JarMinutes", name := "wrong", desc := "()I" } : Jvm.MethodName)) ∈ fm_all := fm_m 404 (by decide +kernel) rfl
theorem fw_405 : (Jvm.Cond.instanceMethod ({ cls := "JarMinutes", name := "wrong", desc := "()I" } : Jvm.MethodName)) ∈ fm_all := fm_m 405 (by decide +kernel) rfl
theorem fw_406 : (Jvm.Cond.selects "JarMinutes" ({ cls := "JarMinutes", name := "wrong", desc := "()I" } : Jvm.MethodName) ({ cls := "JarMinutes", name := "wrong", desc := "()I" } : Jvm.MethodName)) ∈ fm_all := fm_m 406 (by decide +kernel) rfl
theorem fw_407 : (Jvm.Cond.code ({ cls := "JarMinutes", name := "wrong", desc := "()I" } : Jvm.MethodName) prog_1_method_17_code (1 : Nat) (Option.some Jvm.ClassFile.FieldType.int)) ∈ fm_all := fm_m 407 (by decide +kernel) rfl
theorem fw_408 : (Jvm.Cond.methodLink "JarMinutes" (189 : Nat) ({ cls := "JarMinutes$Town", name := "firstWrong", desc := "([I)I" } : Jvm.MethodName)) ∈ fm_all := fm_m 408 (by decide +kernel) rfl
theorem fw_409 : (Jvm.Cond.instanceMethod ({ cls := "JarMinutes$Town", name := "firstWrong", desc := "([I)I" } : Jvm.MethodName)) ∈ fm_all := fm_m 409 (by decide +kernel) rfl
theorem fw_410 : (Jvm.Cond.selects "JarMinutes$Town" ({ cls := "JarMinutes$Town", name := "firstWrong", desc := "([I)I" } : Jvm.MethodName) ({ cls := "JarMinutes$Town", name := "firstWrong", desc := "([I)I" } : Jvm.MethodName)) ∈ fm_all := fm_m 410 (by decide +kernel) rfl
theorem fw_411 : (Jvm.Cond.code ({ cls := "JarMinutes$Town", name := "firstWrong", desc := "([I)I" } : Jvm.MethodName) prog_7_method_9_code (4 : Nat) (Option.some Jvm.ClassFile.FieldType.int)) ∈ fm_all := fm_m 411 (by decide +kernel) rfl
theorem fw_412 : (Jvm.Cond.methodLink "JarMinutes$Town" (99 : Nat) ({ cls := "JarMinutes$Town", name := "mostLateAt", desc := "(I)I" } : Jvm.MethodName)) ∈ fm_all := fm_m 412 (by decide +kernel) rfl
theorem fw_413 : (Jvm.Cond.instanceMethod ({ cls := "JarMinutes$Town", name := "mostLateAt", desc := "(I)I" } : Jvm.MethodName)) ∈ fm_all := fm_m 413 (by decide +kernel) rfl
theorem fw_414 : (Jvm.Cond.selects "JarMinutes$Town" ({ cls := "JarMinutes$Town", name := "mostLateAt", desc := "(I)I" } : Jvm.MethodName) ({ cls := "JarMinutes$Town", name := "mostLateAt", desc := "(I)I" } : Jvm.MethodName)) ∈ fm_all := fm_m 414 (by decide +kernel) rfl
theorem fw_415 : (Jvm.Cond.code ({ cls := "JarMinutes$Town", name := "mostLateAt", desc := "(I)I" } : Jvm.MethodName) prog_7_method_7_code (4 : Nat) (Option.some Jvm.ClassFile.FieldType.int)) ∈ fm_all := fm_m 415 (by decide +kernel) rfl
theorem fw_416 : (Jvm.Cond.methodLink "JarMinutes$Town" (90 : Nat) ({ cls := "java/lang/Math", name := "min", desc := "(II)I" } : Jvm.MethodName)) ∈ fm_all := fm_m 416 (by decide +kernel) rfl
theorem fw_417 : (Jvm.Cond.methodLink "JarMinutesLaw" (84 : Nat) ({ cls := "JarMinutes", name := "missed", desc := "()I" } : Jvm.MethodName)) ∈ fm_all := fm_m 417 (by decide +kernel) rfl
theorem fw_418 : (Jvm.Cond.instanceMethod ({ cls := "JarMinutes", name := "missed", desc := "()I" } : Jvm.MethodName)) ∈ fm_all := fm_m 418 (by decide +kernel) rfl
theorem fw_419 : (Jvm.Cond.selects "JarMinutes" ({ cls := "JarMinutes", name := "missed", desc := "()I" } : Jvm.MethodName) ({ cls := "JarMinutes", name := "missed", desc := "()I" } : Jvm.MethodName)) ∈ fm_all := fm_m 419 (by decide +kernel) rfl
theorem fw_420 : (Jvm.Cond.code ({ cls := "JarMinutes", name := "missed", desc := "()I" } : Jvm.MethodName) prog_1_method_18_code (1 : Nat) (Option.some Jvm.ClassFile.FieldType.int)) ∈ fm_all := fm_m 420 (by decide +kernel) rfl
theorem fw_421 : (Jvm.Cond.methodLink "JarMinutes" (192 : Nat) ({ cls := "JarMinutes$Town", name := "missedBy", desc := "([I)I" } : Jvm.MethodName)) ∈ fm_all := fm_m 421 (by decide +kernel) rfl
theorem fw_422 : (Jvm.Cond.instanceMethod ({ cls := "JarMinutes$Town", name := "missedBy", desc := "([I)I" } : Jvm.MethodName)) ∈ fm_all := fm_m 422 (by decide +kernel) rfl
theorem fw_423 : (Jvm.Cond.selects "JarMinutes$Town" ({ cls := "JarMinutes$Town", name := "missedBy", desc := "([I)I" } : Jvm.MethodName) ({ cls := "JarMinutes$Town", name := "missedBy", desc := "([I)I" } : Jvm.MethodName)) ∈ fm_all := fm_m 423 (by decide +kernel) rfl
theorem fw_424 : (Jvm.Cond.code ({ cls := "JarMinutes$Town", name := "missedBy", desc := "([I)I" } : Jvm.MethodName) prog_7_method_8_code (4 : Nat) (Option.some Jvm.ClassFile.FieldType.int)) ∈ fm_all := fm_m 424 (by decide +kernel) rfl
theorem fw_426 : (Jvm.Cond.methodLink "JarMinutesLaw" (88 : Nat) ({ cls := "JarMinutes", name := "day", desc := "()I" } : Jvm.MethodName)) ∈ fm_all := fm_m 426 (by decide +kernel) rfl
theorem fw_427 : (Jvm.Cond.instanceMethod ({ cls := "JarMinutes", name := "day", desc := "()I" } : Jvm.MethodName)) ∈ fm_all := fm_m 427 (by decide +kernel) rfl
theorem fw_428 : (Jvm.Cond.selects "JarMinutes" ({ cls := "JarMinutes", name := "day", desc := "()I" } : Jvm.MethodName) ({ cls := "JarMinutes", name := "day", desc := "()I" } : Jvm.MethodName)) ∈ fm_all := fm_m 428 (by decide +kernel) rfl
theorem fw_429 : (Jvm.Cond.code ({ cls := "JarMinutes", name := "day", desc := "()I" } : Jvm.MethodName) prog_1_method_19_code (1 : Nat) (Option.some Jvm.ClassFile.FieldType.int)) ∈ fm_all := fm_m 429 (by decide +kernel) rfl
theorem fw_430 : (Jvm.Cond.constant "JarMinutes" (195 : Nat) (-100000002 : Int32)) ∈ fm_all := fm_m 430 (by decide +kernel) rfl
theorem fw_431 : (Jvm.Cond.constant "JarMinutes" (196 : Nat) (-100000003 : Int32)) ∈ fm_all := fm_m 431 (by decide +kernel) rfl
theorem fw_432 : (Jvm.Cond.methodLink "JarMinutes" (197 : Nat) ({ cls := "JarMinutes$Town", name := "liveDay", desc := "([I)I" } : Jvm.MethodName)) ∈ fm_all := fm_m 432 (by decide +kernel) rfl
theorem fw_433 : (Jvm.Cond.instanceMethod ({ cls := "JarMinutes$Town", name := "liveDay", desc := "([I)I" } : Jvm.MethodName)) ∈ fm_all := fm_m 433 (by decide +kernel) rfl
theorem fw_434 : (Jvm.Cond.selects "JarMinutes$Town" ({ cls := "JarMinutes$Town", name := "liveDay", desc := "([I)I" } : Jvm.MethodName) ({ cls := "JarMinutes$Town", name := "liveDay", desc := "([I)I" } : Jvm.MethodName)) ∈ fm_all := fm_m 434 (by decide +kernel) rfl
theorem fw_435 : (Jvm.Cond.code ({ cls := "JarMinutes$Town", name := "liveDay", desc := "([I)I" } : Jvm.MethodName) prog_7_method_10_code (3 : Nat) (Option.some Jvm.ClassFile.FieldType.int)) ∈ fm_all := fm_m 435 (by decide +kernel) rfl
theorem fw_436 : (Jvm.Cond.methodLink "JarMinutes$Town" (103 : Nat) ({ cls := "JarMinutes$Town", name := "gainOf", desc := "([I)I" } : Jvm.MethodName)) ∈ fm_all := fm_m 436 (by decide +kernel) rfl
theorem fw_437 : (Jvm.Cond.methodLink "JarMinutes$Town" (107 : Nat) ({ cls := "java/lang/Math", name := "max", desc := "(II)I" } : Jvm.MethodName)) ∈ fm_all := fm_m 437 (by decide +kernel) rfl
theorem fw_438 : (Jvm.Cond.methodLink "JarMinutesLaw" (92 : Nat) ({ cls := "JarMinutes", name := "best", desc := "(II)I" } : Jvm.MethodName)) ∈ fm_all := fm_m 438 (by decide +kernel) rfl
theorem fw_439 : (Jvm.Cond.instanceMethod ({ cls := "JarMinutes", name := "best", desc := "(II)I" } : Jvm.MethodName)) ∈ fm_all := fm_m 439 (by decide +kernel) rfl
theorem fw_440 : (Jvm.Cond.selects "JarMinutes" ({ cls := "JarMinutes", name := "best", desc := "(II)I" } : Jvm.MethodName) ({ cls := "JarMinutes", name := "best", desc := "(II)I" } : Jvm.MethodName)) ∈ fm_all := fm_m 440 (by decide +kernel) rfl
theorem fw_441 : (Jvm.Cond.code ({ cls := "JarMinutes", name := "best", desc := "(II)I" } : Jvm.MethodName) prog_1_method_20_code (4 : Nat) (Option.some Jvm.ClassFile.FieldType.int)) ∈ fm_all := fm_m 441 (by decide +kernel) rfl
theorem fw_442 : (Jvm.Cond.methodLink "JarMinutes" (200 : Nat) ({ cls := "JarMinutes$Planner", name := "mostGain", desc := "(LJarMinutes$Town;IZ)I" } : Jvm.MethodName)) ∈ fm_all := fm_m 442 (by decide +kernel) rfl
theorem fw_443 : (Jvm.Cond.instanceMethod ({ cls := "JarMinutes$Planner", name := "mostGain", desc := "(LJarMinutes$Town;IZ)I" } : Jvm.MethodName)) ∈ fm_all := fm_m 443 (by decide +kernel) rfl
theorem fw_444 : (Jvm.Cond.selects "JarMinutes$Planner" ({ cls := "JarMinutes$Planner", name := "mostGain", desc := "(LJarMinutes$Town;IZ)I" } : Jvm.MethodName) ({ cls := "JarMinutes$Planner", name := "mostGain", desc := "(LJarMinutes$Town;IZ)I" } : Jvm.MethodName)) ∈ fm_all := fm_m 444 (by decide +kernel) rfl
theorem fw_445 : (Jvm.Cond.code ({ cls := "JarMinutes$Planner", name := "mostGain", desc := "(LJarMinutes$Town;IZ)I" } : Jvm.MethodName) prog_4_method_2_code (8 : Nat) (Option.some Jvm.ClassFile.FieldType.int)) ∈ fm_all := fm_m 445 (by decide +kernel) rfl
theorem fw_446 : (Jvm.Cond.methodLink "JarMinutes$Planner" (21 : Nat) ({ cls := "JarMinutes$Town", name := "gainAt", desc := "(III)I" } : Jvm.MethodName)) ∈ fm_all := fm_m 446 (by decide +kernel) rfl
theorem fw_447 : (Jvm.Cond.constant "JarMinutes$Planner" (27 : Nat) (-100000000 : Int32)) ∈ fm_all := fm_m 447 (by decide +kernel) rfl
theorem fw_448 : (Jvm.Cond.methodLink "JarMinutes$Planner" (28 : Nat) ({ cls := "java/util/Arrays", name := "fill", desc := "([II)V" } : Jvm.MethodName)) ∈ fm_all := fm_m 448 (by decide +kernel) rfl
theorem fw_449 : (Jvm.Cond.methodLink "JarMinutes$Planner" (34 : Nat) ({ cls := "JarMinutes$Town", name := "mostLateAt", desc := "(I)I" } : Jvm.MethodName)) ∈ fm_all := fm_m 449 (by decide +kernel) rfl
theorem fw_450 : (Jvm.Cond.methodLink "JarMinutes$Planner" (38 : Nat) ({ cls := "JarMinutes$Planner", name := "mostFrom", desc := "(II)I" } : Jvm.MethodName)) ∈ fm_all := fm_m 450 (by decide +kernel) rfl
theorem fw_452 : (Jvm.Cond.instanceMethod ({ cls := "JarMinutes$Planner", name := "mostFrom", desc := "(II)I" } : Jvm.MethodName)) ∈ fm_all := fm_m 452 (by decide +kernel) rfl
theorem fw_453 : (Jvm.Cond.code ({ cls := "JarMinutes$Planner", name := "mostFrom", desc := "(II)I" } : Jvm.MethodName) prog_4_method_3_code (5 : Nat) (Option.some Jvm.ClassFile.FieldType.int)) ∈ fm_all := fm_m 453 (by decide +kernel) rfl
theorem fw_454 : (Jvm.Cond.methodLink "JarMinutes$Planner" (42 : Nat) ({ cls := "JarMinutes$Planner", name := "mostBy", desc := "(III)I" } : Jvm.MethodName)) ∈ fm_all := fm_m 454 (by decide +kernel) rfl
theorem fw_456 : (Jvm.Cond.instanceMethod ({ cls := "JarMinutes$Planner", name := "mostBy", desc := "(III)I" } : Jvm.MethodName)) ∈ fm_all := fm_m 456 (by decide +kernel) rfl
theorem fw_457 : (Jvm.Cond.code ({ cls := "JarMinutes$Planner", name := "mostBy", desc := "(III)I" } : Jvm.MethodName) prog_4_method_4_code (6 : Nat) (Option.some Jvm.ClassFile.FieldType.int)) ∈ fm_all := fm_m 457 (by decide +kernel) rfl
theorem fw_458 : (Jvm.Cond.methodLink "JarMinutes$Planner" (45 : Nat) ({ cls := "java/lang/Math", name := "max", desc := "(II)I" } : Jvm.MethodName)) ∈ fm_all := fm_m 458 (by decide +kernel) rfl
theorem fw_459 : (Jvm.Cond.methodLink "JarMinutes" (204 : Nat) ({ cls := "JarMinutes$Planner", name := "findRow", desc := "()V" } : Jvm.MethodName)) ∈ fm_all := fm_m 459 (by decide +kernel) rfl
theorem fw_460 : (Jvm.Cond.instanceMethod ({ cls := "JarMinutes$Planner", name := "findRow", desc := "()V" } : Jvm.MethodName)) ∈ fm_all := fm_m 460 (by decide +kernel) rfl
theorem fw_461 : (Jvm.Cond.selects "JarMinutes$Planner" ({ cls := "JarMinutes$Planner", name := "findRow", desc := "()V" } : Jvm.MethodName) ({ cls := "JarMinutes$Planner", name := "findRow", desc := "()V" } : Jvm.MethodName)) ∈ fm_all := fm_m 461 (by decide +kernel) rfl
theorem fw_462 : (Jvm.Cond.code ({ cls := "JarMinutes$Planner", name := "findRow", desc := "()V" } : Jvm.MethodName) prog_4_method_5_code (4 : Nat) (Option.none : Option Jvm.ClassFile.FieldType)) ∈ fm_all := fm_m 462 (by decide +kernel) rfl
theorem fw_463 : (Jvm.Cond.methodLink "JarMinutes$Planner" (50 : Nat) ({ cls := "JarMinutes$Planner", name := "firstBest", desc := "(II)I" } : Jvm.MethodName)) ∈ fm_all := fm_m 463 (by decide +kernel) rfl
theorem fw_465 : (Jvm.Cond.instanceMethod ({ cls := "JarMinutes$Planner", name := "firstBest", desc := "(II)I" } : Jvm.MethodName)) ∈ fm_all := fm_m 465 (by decide +kernel) rfl
theorem fw_466 : (Jvm.Cond.code ({ cls := "JarMinutes$Planner", name := "firstBest", desc := "(II)I" } : Jvm.MethodName) prog_4_method_6_code (5 : Nat) (Option.some Jvm.ClassFile.FieldType.int)) ∈ fm_all := fm_m 466 (by decide +kernel) rfl
theorem fw_467 : (Jvm.Cond.methodLink "JarMinutesLaw" (96 : Nat) ({ cls := "JarMinutes", name := "spend", desc := "(I)I" } : Jvm.MethodName)) ∈ fm_all := fm_m 467 (by decide +kernel) rfl
theorem fw_468 : (Jvm.Cond.instanceMethod ({ cls := "JarMinutes", name := "spend", desc := "(I)I" } : Jvm.MethodName)) ∈ fm_all := fm_m 468 (by decide +kernel) rfl
theorem fw_469 : (Jvm.Cond.selects "JarMinutes" ({ cls := "JarMinutes", name := "spend", desc := "(I)I" } : Jvm.MethodName) ({ cls := "JarMinutes", name := "spend", desc := "(I)I" } : Jvm.MethodName)) ∈ fm_all := fm_m 469 (by decide +kernel) rfl
theorem fw_470 : (Jvm.Cond.code ({ cls := "JarMinutes", name := "spend", desc := "(I)I" } : Jvm.MethodName) prog_1_method_21_code (4 : Nat) (Option.some Jvm.ClassFile.FieldType.int)) ∈ fm_all := fm_m 470 (by decide +kernel) rfl
theorem fw_471 : (Jvm.Cond.methodLink "JarMinutesLaw" (100 : Nat) ({ cls := "JarMinutes", name := "share", desc := "(I)I" } : Jvm.MethodName)) ∈ fm_all := fm_m 471 (by decide +kernel) rfl
theorem fw_472 : (Jvm.Cond.instanceMethod ({ cls := "JarMinutes", name := "share", desc := "(I)I" } : Jvm.MethodName)) ∈ fm_all := fm_m 472 (by decide +kernel) rfl
theorem fw_473 : (Jvm.Cond.selects "JarMinutes" ({ cls := "JarMinutes", name := "share", desc := "(I)I" } : Jvm.MethodName) ({ cls := "JarMinutes", name := "share", desc := "(I)I" } : Jvm.MethodName)) ∈ fm_all := fm_m 473 (by decide +kernel) rfl
theorem fw_474 : (Jvm.Cond.code ({ cls := "JarMinutes", name := "share", desc := "(I)I" } : Jvm.MethodName) prog_1_method_22_code (4 : Nat) (Option.some Jvm.ClassFile.FieldType.int)) ∈ fm_all := fm_m 474 (by decide +kernel) rfl
theorem fw_475 : (Jvm.Cond.methodLink "JarMinutesLaw" (104 : Nat) ({ cls := "JarMinutes", name := "vote", desc := "(I)I" } : Jvm.MethodName)) ∈ fm_all := fm_m 475 (by decide +kernel) rfl
theorem fw_476 : (Jvm.Cond.instanceMethod ({ cls := "JarMinutes", name := "vote", desc := "(I)I" } : Jvm.MethodName)) ∈ fm_all := fm_m 476 (by decide +kernel) rfl
theorem fw_477 : (Jvm.Cond.selects "JarMinutes" ({ cls := "JarMinutes", name := "vote", desc := "(I)I" } : Jvm.MethodName) ({ cls := "JarMinutes", name := "vote", desc := "(I)I" } : Jvm.MethodName)) ∈ fm_all := fm_m 477 (by decide +kernel) rfl
theorem fw_478 : (Jvm.Cond.code ({ cls := "JarMinutes", name := "vote", desc := "(I)I" } : Jvm.MethodName) prog_1_method_23_code (6 : Nat) (Option.some Jvm.ClassFile.FieldType.int)) ∈ fm_all := fm_m 478 (by decide +kernel) rfl
theorem fw_479 : (Jvm.Cond.methodLink "JarMinutes" (210 : Nat) ({ cls := "JarMinutes$Town", name := "votesFor", desc := "(II)I" } : Jvm.MethodName)) ∈ fm_all := fm_m 479 (by decide +kernel) rfl
theorem fw_480 : (Jvm.Cond.instanceMethod ({ cls := "JarMinutes$Town", name := "votesFor", desc := "(II)I" } : Jvm.MethodName)) ∈ fm_all := fm_m 480 (by decide +kernel) rfl
theorem fw_481 : (Jvm.Cond.selects "JarMinutes$Town" ({ cls := "JarMinutes$Town", name := "votesFor", desc := "(II)I" } : Jvm.MethodName) ({ cls := "JarMinutes$Town", name := "votesFor", desc := "(II)I" } : Jvm.MethodName)) ∈ fm_all := fm_m 481 (by decide +kernel) rfl
theorem fw_482 : (Jvm.Cond.code ({ cls := "JarMinutes$Town", name := "votesFor", desc := "(II)I" } : Jvm.MethodName) prog_7_method_11_code (6 : Nat) (Option.some Jvm.ClassFile.FieldType.int)) ∈ fm_all := fm_m 482 (by decide +kernel) rfl
theorem fw_483 : (Jvm.Cond.methodLink "JarMinutes$Town" (110 : Nat) ({ cls := "JarMinutes$Person", name := "favouriteHour", desc := "()I" } : Jvm.MethodName)) ∈ fm_all := fm_m 483 (by decide +kernel) rfl
theorem fw_484 : (Jvm.Cond.instanceMethod ({ cls := "JarMinutes$Person", name := "favouriteHour", desc := "()I" } : Jvm.MethodName)) ∈ fm_all := fm_m 484 (by decide +kernel) rfl
theorem fw_485 : (Jvm.Cond.selects "JarMinutes$Person" ({ cls := "JarMinutes$Person", name := "favouriteHour", desc := "()I" } : Jvm.MethodName) ({ cls := "JarMinutes$Person", name := "favouriteHour", desc := "()I" } : Jvm.MethodName)) ∈ fm_all := fm_m 485 (by decide +kernel) rfl
theorem fw_486 : (Jvm.Cond.code ({ cls := "JarMinutes$Person", name := "favouriteHour", desc := "()I" } : Jvm.MethodName) prog_3_method_6_code (5 : Nat) (Option.some Jvm.ClassFile.FieldType.int)) ∈ fm_all := fm_m 486 (by decide +kernel) rfl
theorem fw_487 : (Jvm.Cond.methodLink "JarMinutes$Person" (41 : Nat) ({ cls := "JarMinutes$Person", name := "worthOf", desc := "(II)I" } : Jvm.MethodName)) ∈ fm_all := fm_m 487 (by decide +kernel) rfl
theorem fw_488 : (Jvm.Cond.methodLink "JarMinutesLaw" (108 : Nat) ({ cls := "JarMinutes", name := "choice", desc := "(I)I" } : Jvm.MethodName)) ∈ fm_all := fm_m 488 (by decide +kernel) rfl
theorem fw_489 : (Jvm.Cond.instanceMethod ({ cls := "JarMinutes", name := "choice", desc := "(I)I" } : Jvm.MethodName)) ∈ fm_all := fm_m 489 (by decide +kernel) rfl
theorem fw_490 : (Jvm.Cond.selects "JarMinutes" ({ cls := "JarMinutes", name := "choice", desc := "(I)I" } : Jvm.MethodName) ({ cls := "JarMinutes", name := "choice", desc := "(I)I" } : Jvm.MethodName)) ∈ fm_all := fm_m 490 (by decide +kernel) rfl
theorem fw_491 : (Jvm.Cond.code ({ cls := "JarMinutes", name := "choice", desc := "(I)I" } : Jvm.MethodName) prog_1_method_24_code (2 : Nat) (Option.some Jvm.ClassFile.FieldType.int)) ∈ fm_all := fm_m 491 (by decide +kernel) rfl
theorem fw_492 : (Jvm.Cond.methodLink "JarMinutes" (213 : Nat) ({ cls := "JarMinutes$Person", name := "favouriteHour", desc := "()I" } : Jvm.MethodName)) ∈ fm_all := fm_m 492 (by decide +kernel) rfl
theorem fw_493 : (Jvm.Cond.methodLink "JarMinutesLaw" (112 : Nat) ({ cls := "JarMinutes", name := "lots", desc := "(I)I" } : Jvm.MethodName)) ∈ fm_all := fm_m 493 (by decide +kernel) rfl
theorem fw_494 : (Jvm.Cond.instanceMethod ({ cls := "JarMinutes", name := "lots", desc := "(I)I" } : Jvm.MethodName)) ∈ fm_all := fm_m 494 (by decide +kernel) rfl
theorem fw_495 : (Jvm.Cond.selects "JarMinutes" ({ cls := "JarMinutes", name := "lots", desc := "(I)I" } : Jvm.MethodName) ({ cls := "JarMinutes", name := "lots", desc := "(I)I" } : Jvm.MethodName)) ∈ fm_all := fm_m 495 (by decide +kernel) rfl
theorem fw_496 : (Jvm.Cond.code ({ cls := "JarMinutes", name := "lots", desc := "(I)I" } : Jvm.MethodName) prog_1_method_25_code (4 : Nat) (Option.some Jvm.ClassFile.FieldType.int)) ∈ fm_all := fm_m 496 (by decide +kernel) rfl
theorem fw_497 : (Jvm.Cond.methodLink "JarMinutes" (216 : Nat) ({ cls := "JarMinutes$Town", name := "drawPlan", desc := "([I)V" } : Jvm.MethodName)) ∈ fm_all := fm_m 497 (by decide +kernel) rfl
theorem fw_498 : (Jvm.Cond.instanceMethod ({ cls := "JarMinutes$Town", name := "drawPlan", desc := "([I)V" } : Jvm.MethodName)) ∈ fm_all := fm_m 498 (by decide +kernel) rfl
theorem fw_499 : (Jvm.Cond.selects "JarMinutes$Town" ({ cls := "JarMinutes$Town", name := "drawPlan", desc := "([I)V" } : Jvm.MethodName) ({ cls := "JarMinutes$Town", name := "drawPlan", desc := "([I)V" } : Jvm.MethodName)) ∈ fm_all := fm_m 499 (by decide +kernel) rfl
theorem fw_500 : (Jvm.Cond.code ({ cls := "JarMinutes$Town", name := "drawPlan", desc := "([I)V" } : Jvm.MethodName) prog_7_method_12_code (6 : Nat) (Option.none : Option Jvm.ClassFile.FieldType)) ∈ fm_all := fm_m 500 (by decide +kernel) rfl
theorem fw_501 : (Jvm.Cond.constantLong "JarMinutes$Town" (117 : Nat) (1103515245 : Int64)) ∈ fm_all := fm_m 501 (by decide +kernel) rfl
theorem fw_502 : (Jvm.Cond.constantLong "JarMinutes$Town" (119 : Nat) (12345 : Int64)) ∈ fm_all := fm_m 502 (by decide +kernel) rfl
theorem fw_503 : (Jvm.Cond.constantLong "JarMinutes$Town" (121 : Nat) (2147483647 : Int64)) ∈ fm_all := fm_m 503 (by decide +kernel) rfl
theorem fw_504 : (Jvm.Cond.constant "JarMinutes$Town" (123 : Nat) (65536 : Int32)) ∈ fm_all := fm_m 504 (by decide +kernel) rfl
theorem fw_505 : (Jvm.Cond.methodLink "JarMinutes$Town" (124 : Nat) ({ cls := "JarMinutes$Town", name := "firstWrong", desc := "([I)I" } : Jvm.MethodName)) ∈ fm_all := fm_m 505 (by decide +kernel) rfl
theorem fw_506 : (Jvm.Cond.methodLink "JarMinutesLaw" (116 : Nat) ({ cls := "JarMinutes", name := "seed", desc := "(I)I" } : Jvm.MethodName)) ∈ fm_all := fm_m 506 (by decide +kernel) rfl
theorem fw_507 : (Jvm.Cond.instanceMethod ({ cls := "JarMinutes", name := "seed", desc := "(I)I" } : Jvm.MethodName)) ∈ fm_all := fm_m 507 (by decide +kernel) rfl
theorem fw_508 : (Jvm.Cond.selects "JarMinutes" ({ cls := "JarMinutes", name := "seed", desc := "(I)I" } : Jvm.MethodName) ({ cls := "JarMinutes", name := "seed", desc := "(I)I" } : Jvm.MethodName)) ∈ fm_all := fm_m 508 (by decide +kernel) rfl
theorem fw_509 : (Jvm.Cond.code ({ cls := "JarMinutes", name := "seed", desc := "(I)I" } : Jvm.MethodName) prog_1_method_26_code (3 : Nat) (Option.some Jvm.ClassFile.FieldType.int)) ∈ fm_all := fm_m 509 (by decide +kernel) rfl
theorem fw_510 : (Jvm.Cond.methodLink "JarMinutesLaw" (120 : Nat) ({ cls := "JarMinutes", name := "image", desc := "()I" } : Jvm.MethodName)) ∈ fm_all := fm_m 510 (by decide +kernel) rfl
theorem fw_511 : (Jvm.Cond.instanceMethod ({ cls := "JarMinutes", name := "image", desc := "()I" } : Jvm.MethodName)) ∈ fm_all := fm_m 511 (by decide +kernel) rfl
theorem fw_512 : (Jvm.Cond.selects "JarMinutes" ({ cls := "JarMinutes", name := "image", desc := "()I" } : Jvm.MethodName) ({ cls := "JarMinutes", name := "image", desc := "()I" } : Jvm.MethodName)) ∈ fm_all := fm_m 512 (by decide +kernel) rfl
theorem fw_513 : (Jvm.Cond.code ({ cls := "JarMinutes", name := "image", desc := "()I" } : Jvm.MethodName) prog_1_method_27_code (1 : Nat) (Option.some Jvm.ClassFile.FieldType.int)) ∈ fm_all := fm_m 513 (by decide +kernel) rfl
theorem fw_514 : (Jvm.Cond.methodLink "JarMinutes" (223 : Nat) ({ cls := "JarMinutes$Town", name := "becomeLike", desc := "(LJarMinutes$Town;)V" } : Jvm.MethodName)) ∈ fm_all := fm_m 514 (by decide +kernel) rfl
theorem fw_515 : (Jvm.Cond.instanceMethod ({ cls := "JarMinutes$Town", name := "becomeLike", desc := "(LJarMinutes$Town;)V" } : Jvm.MethodName)) ∈ fm_all := fm_m 515 (by decide +kernel) rfl
theorem fw_516 : (Jvm.Cond.selects "JarMinutes$Town" ({ cls := "JarMinutes$Town", name := "becomeLike", desc := "(LJarMinutes$Town;)V" } : Jvm.MethodName) ({ cls := "JarMinutes$Town", name := "becomeLike", desc := "(LJarMinutes$Town;)V" } : Jvm.MethodName)) ∈ fm_all := fm_m 516 (by decide +kernel) rfl
theorem fw_517 : (Jvm.Cond.code ({ cls := "JarMinutes$Town", name := "becomeLike", desc := "(LJarMinutes$Town;)V" } : Jvm.MethodName) prog_7_method_2_code (2 : Nat) (Option.none : Option Jvm.ClassFile.FieldType)) ∈ fm_all := fm_m 517 (by decide +kernel) rfl
theorem fw_518 : (Jvm.Cond.methodLink "JarMinutes$Town" (65 : Nat) ({ cls := "JarMinutes$Town", name := "takePeople", desc := "([LJarMinutes$Person;I)V" } : Jvm.MethodName)) ∈ fm_all := fm_m 518 (by decide +kernel) rfl
theorem fw_519 : (Jvm.Cond.methodLink "JarMinutes$Town" (69 : Nat) ({ cls := "java/lang/System", name := "arraycopy", desc := "(Ljava/lang/Object;ILjava/lang/Object;II)V" } : Jvm.MethodName)) ∈ fm_all := fm_m 519 (by decide +kernel) rfl
theorem fw_520 : (Jvm.Cond.methodLink "JarMinutesLaw" (124 : Nat) ({ cls := "JarMinutes", name := "restore", desc := "()I" } : Jvm.MethodName)) ∈ fm_all := fm_m 520 (by decide +kernel) rfl
theorem fw_521 : (Jvm.Cond.instanceMethod ({ cls := "JarMinutes", name := "restore", desc := "()I" } : Jvm.MethodName)) ∈ fm_all := fm_m 521 (by decide +kernel) rfl
theorem fw_522 : (Jvm.Cond.selects "JarMinutes" ({ cls := "JarMinutes", name := "restore", desc := "()I" } : Jvm.MethodName) ({ cls := "JarMinutes", name := "restore", desc := "()I" } : Jvm.MethodName)) ∈ fm_all := fm_m 522 (by decide +kernel) rfl
theorem fw_523 : (Jvm.Cond.code ({ cls := "JarMinutes", name := "restore", desc := "()I" } : Jvm.MethodName) prog_1_method_28_code (1 : Nat) (Option.some Jvm.ClassFile.FieldType.int)) ∈ fm_all := fm_m 523 (by decide +kernel) rfl
theorem fw_524 : (Jvm.Cond.methodLink "JarMinutesLaw" (128 : Nat) ({ cls := "JarMinutes", name := "clocks", desc := "(IIII)J" } : Jvm.MethodName)) ∈ fm_all := fm_m 524 (by decide +kernel) rfl
theorem fw_525 : (Jvm.Cond.instanceMethod ({ cls := "JarMinutes", name := "clocks", desc := "(IIII)J" } : Jvm.MethodName)) ∈ fm_all := fm_m 525 (by decide +kernel) rfl
theorem fw_526 : (Jvm.Cond.selects "JarMinutes" ({ cls := "JarMinutes", name := "clocks", desc := "(IIII)J" } : Jvm.MethodName) ({ cls := "JarMinutes", name := "clocks", desc := "(IIII)J" } : Jvm.MethodName)) ∈ fm_all := fm_m 526 (by decide +kernel) rfl
theorem fw_527 : (Jvm.Cond.code ({ cls := "JarMinutes", name := "clocks", desc := "(IIII)J" } : Jvm.MethodName) prog_1_method_29_code (6 : Nat) (Option.some Jvm.ClassFile.FieldType.long)) ∈ fm_all := fm_m 527 (by decide +kernel) rfl
theorem fw_528 : (Jvm.Cond.methodLink "JarMinutes" (227 : Nat) ({ cls := "JarMinutes", name := "clocksRefusal", desc := "(IIII)I" } : Jvm.MethodName)) ∈ fm_all := fm_m 528 (by decide +kernel) rfl
theorem fw_530 : (Jvm.Cond.instanceMethod ({ cls := "JarMinutes", name := "clocksRefusal", desc := "(IIII)I" } : Jvm.MethodName)) ∈ fm_all := fm_m 530 (by decide +kernel) rfl
theorem fw_531 : (Jvm.Cond.code ({ cls := "JarMinutes", name := "clocksRefusal", desc := "(IIII)I" } : Jvm.MethodName) prog_1_method_47_code (10 : Nat) (Option.some Jvm.ClassFile.FieldType.int)) ∈ fm_all := fm_m 531 (by decide +kernel) rfl
theorem fw_532 : (Jvm.Cond.methodLink "JarMinutes" (242 : Nat) ({ cls := "JarMinutes", name := "rowRefusal", desc := "(IIII)I" } : Jvm.MethodName)) ∈ fm_all := fm_m 532 (by decide +kernel) rfl
theorem fw_534 : (Jvm.Cond.instanceMethod ({ cls := "JarMinutes", name := "rowRefusal", desc := "(IIII)I" } : Jvm.MethodName)) ∈ fm_all := fm_m 534 (by decide +kernel) rfl
theorem fw_535 : (Jvm.Cond.code ({ cls := "JarMinutes", name := "rowRefusal", desc := "(IIII)I" } : Jvm.MethodName) prog_1_method_46_code (5 : Nat) (Option.some Jvm.ClassFile.FieldType.int)) ∈ fm_all := fm_m 535 (by decide +kernel) rfl
theorem fw_536 : (Jvm.Cond.methodLink "JarMinutes" (254 : Nat) ({ cls := "JarMinutes", name := "isSheet", desc := "(I)Z" } : Jvm.MethodName)) ∈ fm_all := fm_m 536 (by decide +kernel) rfl
theorem fw_537 : (Jvm.Cond.static ({ cls := "JarMinutes", name := "isSheet", desc := "(I)Z" } : Jvm.MethodName)) ∈ fm_all := fm_m 537 (by decide +kernel) rfl
theorem fw_538 : (Jvm.Cond.code ({ cls := "JarMinutes", name := "isSheet", desc := "(I)Z" } : Jvm.MethodName) prog_1_method_40_code (1 : Nat) (Option.some Jvm.ClassFile.FieldType.boolean)) ∈ fm_all := fm_m 538 (by decide +kernel) rfl
theorem fw_539 : (Jvm.Cond.methodLink "JarMinutes" (257 : Nat) ({ cls := "JarMinutes", name := "isLane", desc := "(I)Z" } : Jvm.MethodName)) ∈ fm_all := fm_m 539 (by decide +kernel) rfl
theorem fw_540 : (Jvm.Cond.static ({ cls := "JarMinutes", name := "isLane", desc := "(I)Z" } : Jvm.MethodName)) ∈ fm_all := fm_m 540 (by decide +kernel) rfl
theorem fw_541 : (Jvm.Cond.code ({ cls := "JarMinutes", name := "isLane", desc := "(I)Z" } : Jvm.MethodName) prog_1_method_41_code (1 : Nat) (Option.some Jvm.ClassFile.FieldType.boolean)) ∈ fm_all := fm_m 541 (by decide +kernel) rfl
theorem fw_542 : (Jvm.Cond.methodLink "JarMinutes" (268 : Nat) ({ cls := "JarMinutes$Sheet", name := "hasRange", desc := "(II)Z" } : Jvm.MethodName)) ∈ fm_all := fm_m 542 (by decide +kernel) rfl
theorem fw_543 : (Jvm.Cond.instanceMethod ({ cls := "JarMinutes$Sheet", name := "hasRange", desc := "(II)Z" } : Jvm.MethodName)) ∈ fm_all := fm_m 543 (by decide +kernel) rfl
theorem fw_544 : (Jvm.Cond.selects "JarMinutes$Sheet" ({ cls := "JarMinutes$Sheet", name := "hasRange", desc := "(II)Z" } : Jvm.MethodName) ({ cls := "JarMinutes$Sheet", name := "hasRange", desc := "(II)Z" } : Jvm.MethodName)) ∈ fm_all := fm_m 544 (by decide +kernel) rfl
theorem fw_545 : (Jvm.Cond.code ({ cls := "JarMinutes$Sheet", name := "hasRange", desc := "(II)Z" } : Jvm.MethodName) prog_5_method_4_code (3 : Nat) (Option.some Jvm.ClassFile.FieldType.boolean)) ∈ fm_all := fm_m 545 (by decide +kernel) rfl
theorem fw_546 : (Jvm.Cond.constantLong "JarMinutes" (283 : Nat) (24 : Int64)) ∈ fm_all := fm_m 546 (by decide +kernel) rfl
theorem fw_547 : (Jvm.Cond.methodLink "JarMinutes" (231 : Nat) ({ cls := "JarMinutes$ClockRows", name := "tell", desc := "(LJarMinutes$Sheet;II)V" } : Jvm.MethodName)) ∈ fm_all := fm_m 547 (by decide +kernel) rfl
theorem fw_548 : (Jvm.Cond.instanceMethod ({ cls := "JarMinutes$ClockRows", name := "tell", desc := "(LJarMinutes$Sheet;II)V" } : Jvm.MethodName)) ∈ fm_all := fm_m 548 (by decide +kernel) rfl
theorem fw_549 : (Jvm.Cond.selects "JarMinutes$ClockRows" ({ cls := "JarMinutes$ClockRows", name := "tell", desc := "(LJarMinutes$Sheet;II)V" } : Jvm.MethodName) ({ cls := "JarMinutes$ClockRows", name := "tell", desc := "(LJarMinutes$Sheet;II)V" } : Jvm.MethodName)) ∈ fm_all := fm_m 549 (by decide +kernel) rfl
theorem fw_550 : (Jvm.Cond.code ({ cls := "JarMinutes$ClockRows", name := "tell", desc := "(LJarMinutes$Sheet;II)V" } : Jvm.MethodName) prog_2_method_2_code (9 : Nat) (Option.none : Option Jvm.ClassFile.FieldType)) ∈ fm_all := fm_m 550 (by decide +kernel) rfl
theorem fw_551 : (Jvm.Cond.methodLink "JarMinutes$ClockRows" (19 : Nat) ({ cls := "java/util/Arrays", name := "fill", desc := "([II)V" } : Jvm.MethodName)) ∈ fm_all := fm_m 551 (by decide +kernel) rfl
theorem fw_552 : (Jvm.Cond.constantLong "JarMinutes$ClockRows" (30 : Nat) (48 : Int64)) ∈ fm_all := fm_m 552 (by decide +kernel) rfl
theorem fw_553 : (Jvm.Cond.methodLink "JarMinutes" (235 : Nat) ({ cls := "JarMinutes$ClockRows", name := "countAll", desc := "()J" } : Jvm.MethodName)) ∈ fm_all := fm_m 553 (by decide +kernel) rfl
theorem fw_554 : (Jvm.Cond.instanceMethod ({ cls := "JarMinutes$ClockRows", name := "countAll", desc := "()J" } : Jvm.MethodName)) ∈ fm_all := fm_m 554 (by decide +kernel) rfl
theorem fw_555 : (Jvm.Cond.selects "JarMinutes$ClockRows" ({ cls := "JarMinutes$ClockRows", name := "countAll", desc := "()J" } : Jvm.MethodName) ({ cls := "JarMinutes$ClockRows", name := "countAll", desc := "()J" } : Jvm.MethodName)) ∈ fm_all := fm_m 555 (by decide +kernel) rfl
theorem fw_556 : (Jvm.Cond.code ({ cls := "JarMinutes$ClockRows", name := "countAll", desc := "()J" } : Jvm.MethodName) prog_2_method_3_code (1 : Nat) (Option.some Jvm.ClassFile.FieldType.long)) ∈ fm_all := fm_m 556 (by decide +kernel) rfl
theorem fw_557 : (Jvm.Cond.methodLink "JarMinutes$ClockRows" (32 : Nat) ({ cls := "JarMinutes$ClockRows", name := "countWith", desc := "(II)J" } : Jvm.MethodName)) ∈ fm_all := fm_m 557 (by decide +kernel) rfl
theorem fw_559 : (Jvm.Cond.instanceMethod ({ cls := "JarMinutes$ClockRows", name := "countWith", desc := "(II)J" } : Jvm.MethodName)) ∈ fm_all := fm_m 559 (by decide +kernel) rfl
theorem fw_560 : (Jvm.Cond.code ({ cls := "JarMinutes$ClockRows", name := "countWith", desc := "(II)J" } : Jvm.MethodName) prog_2_method_5_code (6 : Nat) (Option.some Jvm.ClassFile.FieldType.long)) ∈ fm_all := fm_m 560 (by decide +kernel) rfl
theorem fw_561 : (Jvm.Cond.methodLink "JarMinutes$ClockRows" (36 : Nat) ({ cls := "java/util/Arrays", name := "fill", desc := "([JJ)V" } : Jvm.MethodName)) ∈ fm_all := fm_m 561 (by decide +kernel) rfl
theorem fw_562 : (Jvm.Cond.static ({ cls := "java/util/Arrays", name := "fill", desc := "([JJ)V" } : Jvm.MethodName)) ∈ fm_all := fm_m 562 (by decide +kernel) rfl
theorem fw_563 : (Jvm.Cond.code ({ cls := "java/util/Arrays", name := "fill", desc := "([JJ)V" } : Jvm.MethodName) prog_12_method_101_code (5 : Nat) (Option.none : Option Jvm.ClassFile.FieldType)) ∈ fm_all := fm_m 563 (by decide +kernel) rfl
theorem fw_564 : (Jvm.Cond.methodLink "JarMinutes$ClockRows" (39 : Nat) ({ cls := "JarMinutes$ClockRows", name := "keepTold", desc := "(I)V" } : Jvm.MethodName)) ∈ fm_all := fm_m 564 (by decide +kernel) rfl
theorem fw_566 : (Jvm.Cond.instanceMethod ({ cls := "JarMinutes$ClockRows", name := "keepTold", desc := "(I)V" } : Jvm.MethodName)) ∈ fm_all := fm_m 566 (by decide +kernel) rfl
theorem fw_567 : (Jvm.Cond.code ({ cls := "JarMinutes$ClockRows", name := "keepTold", desc := "(I)V" } : Jvm.MethodName) prog_2_method_7_code (3 : Nat) (Option.none : Option Jvm.ClassFile.FieldType)) ∈ fm_all := fm_m 567 (by decide +kernel) rfl
theorem fw_568 : (Jvm.Cond.methodLink "JarMinutes$ClockRows" (43 : Nat) ({ cls := "JarMinutes$ClockRows", name := "passHour", desc := "(II)V" } : Jvm.MethodName)) ∈ fm_all := fm_m 568 (by decide +kernel) rfl
theorem fw_570 : (Jvm.Cond.instanceMethod ({ cls := "JarMinutes$ClockRows", name := "passHour", desc := "(II)V" } : Jvm.MethodName)) ∈ fm_all := fm_m 570 (by decide +kernel) rfl
theorem fw_571 : (Jvm.Cond.code ({ cls := "JarMinutes$ClockRows", name := "passHour", desc := "(II)V" } : Jvm.MethodName) prog_2_method_6_code (7 : Nat) (Option.none : Option Jvm.ClassFile.FieldType)) ∈ fm_all := fm_m 571 (by decide +kernel) rfl
theorem fw_572 : (Jvm.Cond.methodLink "JarMinutesLaw" (133 : Nat) ({ cls := "JarMinutes", name := "sure", desc := "(IIIII)I" } : Jvm.MethodName)) ∈ fm_all := fm_m 572 (by decide +kernel) rfl
theorem fw_573 : (Jvm.Cond.instanceMethod ({ cls := "JarMinutes", name := "sure", desc := "(IIIII)I" } : Jvm.MethodName)) ∈ fm_all := fm_m 573 (by decide +kernel) rfl
theorem fw_574 : (Jvm.Cond.selects "JarMinutes" ({ cls := "JarMinutes", name := "sure", desc := "(IIIII)I" } : Jvm.MethodName) ({ cls := "JarMinutes", name := "sure", desc := "(IIIII)I" } : Jvm.MethodName)) ∈ fm_all := fm_m 574 (by decide +kernel) rfl
theorem fw_575 : (Jvm.Cond.code ({ cls := "JarMinutes", name := "sure", desc := "(IIIII)I" } : Jvm.MethodName) prog_1_method_30_code (7 : Nat) (Option.some Jvm.ClassFile.FieldType.int)) ∈ fm_all := fm_m 575 (by decide +kernel) rfl
theorem fw_576 : (Jvm.Cond.methodLink "JarMinutes" (239 : Nat) ({ cls := "JarMinutes$ClockRows", name := "sureNumber", desc := "(I)I" } : Jvm.MethodName)) ∈ fm_all := fm_m 576 (by decide +kernel) rfl
theorem fw_577 : (Jvm.Cond.instanceMethod ({ cls := "JarMinutes$ClockRows", name := "sureNumber", desc := "(I)I" } : Jvm.MethodName)) ∈ fm_all := fm_m 577 (by decide +kernel) rfl
theorem fw_578 : (Jvm.Cond.selects "JarMinutes$ClockRows" ({ cls := "JarMinutes$ClockRows", name := "sureNumber", desc := "(I)I" } : Jvm.MethodName) ({ cls := "JarMinutes$ClockRows", name := "sureNumber", desc := "(I)I" } : Jvm.MethodName)) ∈ fm_all := fm_m 578 (by decide +kernel) rfl
theorem fw_579 : (Jvm.Cond.code ({ cls := "JarMinutes$ClockRows", name := "sureNumber", desc := "(I)I" } : Jvm.MethodName) prog_2_method_4_code (4 : Nat) (Option.some Jvm.ClassFile.FieldType.int)) ∈ fm_all := fm_m 579 (by decide +kernel) rfl
theorem fw_580 : (Jvm.Cond.methodLink "JarMinutesLaw" (138 : Nat) ({ cls := "JarMinutes", name := "film", desc := "(III)I" } : Jvm.MethodName)) ∈ fm_all := fm_m 580 (by decide +kernel) rfl
theorem fw_581 : (Jvm.Cond.instanceMethod ({ cls := "JarMinutes", name := "film", desc := "(III)I" } : Jvm.MethodName)) ∈ fm_all := fm_m 581 (by decide +kernel) rfl
theorem fw_582 : (Jvm.Cond.selects "JarMinutes" ({ cls := "JarMinutes", name := "film", desc := "(III)I" } : Jvm.MethodName) ({ cls := "JarMinutes", name := "film", desc := "(III)I" } : Jvm.MethodName)) ∈ fm_all := fm_m 582 (by decide +kernel) rfl
theorem fw_583 : (Jvm.Cond.code ({ cls := "JarMinutes", name := "film", desc := "(III)I" } : Jvm.MethodName) prog_1_method_31_code (6 : Nat) (Option.some Jvm.ClassFile.FieldType.int)) ∈ fm_all := fm_m 583 (by decide +kernel) rfl
theorem fw_584 : (Jvm.Cond.methodLink "JarMinutes" (245 : Nat) ({ cls := "JarMinutes$Sheet", name := "put", desc := "(IJ)V" } : Jvm.MethodName)) ∈ fm_all := fm_m 584 (by decide +kernel) rfl
theorem fw_585 : (Jvm.Cond.instanceMethod ({ cls := "JarMinutes$Sheet", name := "put", desc := "(IJ)V" } : Jvm.MethodName)) ∈ fm_all := fm_m 585 (by decide +kernel) rfl
theorem fw_586 : (Jvm.Cond.selects "JarMinutes$Sheet" ({ cls := "JarMinutes$Sheet", name := "put", desc := "(IJ)V" } : Jvm.MethodName) ({ cls := "JarMinutes$Sheet", name := "put", desc := "(IJ)V" } : Jvm.MethodName)) ∈ fm_all := fm_m 586 (by decide +kernel) rfl
theorem fw_587 : (Jvm.Cond.code ({ cls := "JarMinutes$Sheet", name := "put", desc := "(IJ)V" } : Jvm.MethodName) prog_5_method_3_code (4 : Nat) (Option.none : Option Jvm.ClassFile.FieldType)) ∈ fm_all := fm_m 587 (by decide +kernel) rfl
theorem fw_588 : (Jvm.Cond.methodLink "JarMinutesLaw" (142 : Nat) ({ cls := "JarMinutes", name := "build", desc := "(III)I" } : Jvm.MethodName)) ∈ fm_all := fm_m 588 (by decide +kernel) rfl
theorem fw_589 : (Jvm.Cond.instanceMethod ({ cls := "JarMinutes", name := "build", desc := "(III)I" } : Jvm.MethodName)) ∈ fm_all := fm_m 589 (by decide +kernel) rfl
theorem fw_590 : (Jvm.Cond.selects "JarMinutes" ({ cls := "JarMinutes", name := "build", desc := "(III)I" } : Jvm.MethodName) ({ cls := "JarMinutes", name := "build", desc := "(III)I" } : Jvm.MethodName)) ∈ fm_all := fm_m 590 (by decide +kernel) rfl
theorem fw_591 : (Jvm.Cond.code ({ cls := "JarMinutes", name := "build", desc := "(III)I" } : Jvm.MethodName) prog_1_method_32_code (7 : Nat) (Option.some Jvm.ClassFile.FieldType.int)) ∈ fm_all := fm_m 591 (by decide +kernel) rfl
theorem fw_592 : (Jvm.Cond.constant "JarMinutes" (249 : Nat) (100000000 : Int32)) ∈ fm_all := fm_m 592 (by decide +kernel) rfl
theorem fw_593 : (Jvm.Cond.methodLink "JarMinutesLaw" (146 : Nat) ({ cls := "JarMinutes", name := "sheet", desc := "(III)I" } : Jvm.MethodName)) ∈ fm_all := fm_m 593 (by decide +kernel) rfl
theorem fw_594 : (Jvm.Cond.instanceMethod ({ cls := "JarMinutes", name := "sheet", desc := "(III)I" } : Jvm.MethodName)) ∈ fm_all := fm_m 594 (by decide +kernel) rfl
theorem fw_595 : (Jvm.Cond.selects "JarMinutes" ({ cls := "JarMinutes", name := "sheet", desc := "(III)I" } : Jvm.MethodName) ({ cls := "JarMinutes", name := "sheet", desc := "(III)I" } : Jvm.MethodName)) ∈ fm_all := fm_m 595 (by decide +kernel) rfl
theorem fw_596 : (Jvm.Cond.code ({ cls := "JarMinutes", name := "sheet", desc := "(III)I" } : Jvm.MethodName) prog_1_method_33_code (4 : Nat) (Option.some Jvm.ClassFile.FieldType.int)) ∈ fm_all := fm_m 596 (by decide +kernel) rfl
theorem fw_597 : (Jvm.Cond.methodLink "JarMinutes" (260 : Nat) ({ cls := "JarMinutes$Sheet", name := "begin", desc := "(II)V" } : Jvm.MethodName)) ∈ fm_all := fm_m 597 (by decide +kernel) rfl
theorem fw_598 : (Jvm.Cond.instanceMethod ({ cls := "JarMinutes$Sheet", name := "begin", desc := "(II)V" } : Jvm.MethodName)) ∈ fm_all := fm_m 598 (by decide +kernel) rfl
theorem fw_599 : (Jvm.Cond.selects "JarMinutes$Sheet" ({ cls := "JarMinutes$Sheet", name := "begin", desc := "(II)V" } : Jvm.MethodName) ({ cls := "JarMinutes$Sheet", name := "begin", desc := "(II)V" } : Jvm.MethodName)) ∈ fm_all := fm_m 599 (by decide +kernel) rfl
theorem fw_600 : (Jvm.Cond.code ({ cls := "JarMinutes$Sheet", name := "begin", desc := "(II)V" } : Jvm.MethodName) prog_5_method_2_code (3 : Nat) (Option.none : Option Jvm.ClassFile.FieldType)) ∈ fm_all := fm_m 600 (by decide +kernel) rfl
theorem fw_601 : (Jvm.Cond.methodLink "JarMinutes$Sheet" (22 : Nat) ({ cls := "java/util/Arrays", name := "fill", desc := "([JJ)V" } : Jvm.MethodName)) ∈ fm_all := fm_m 601 (by decide +kernel) rfl
theorem fw_602 : (Jvm.Cond.methodLink "JarMinutesLaw" (150 : Nat) ({ cls := "JarMinutes", name := "drop", desc := "(I)I" } : Jvm.MethodName)) ∈ fm_all := fm_m 602 (by decide +kernel) rfl
theorem fw_603 : (Jvm.Cond.instanceMethod ({ cls := "JarMinutes", name := "drop", desc := "(I)I" } : Jvm.MethodName)) ∈ fm_all := fm_m 603 (by decide +kernel) rfl
theorem fw_604 : (Jvm.Cond.selects "JarMinutes" ({ cls := "JarMinutes", name := "drop", desc := "(I)I" } : Jvm.MethodName) ({ cls := "JarMinutes", name := "drop", desc := "(I)I" } : Jvm.MethodName)) ∈ fm_all := fm_m 604 (by decide +kernel) rfl
theorem fw_605 : (Jvm.Cond.code ({ cls := "JarMinutes", name := "drop", desc := "(I)I" } : Jvm.MethodName) prog_1_method_34_code (3 : Nat) (Option.some Jvm.ClassFile.FieldType.int)) ∈ fm_all := fm_m 605 (by decide +kernel) rfl
theorem fw_606 : (Jvm.Cond.methodLink "JarMinutesLaw" (154 : Nat) ({ cls := "JarMinutes", name := "item", desc := "(IIIJ)I" } : Jvm.MethodName)) ∈ fm_all := fm_m 606 (by decide +kernel) rfl
theorem fw_607 : (Jvm.Cond.instanceMethod ({ cls := "JarMinutes", name := "item", desc := "(IIIJ)I" } : Jvm.MethodName)) ∈ fm_all := fm_m 607 (by decide +kernel) rfl
theorem fw_608 : (Jvm.Cond.selects "JarMinutes" ({ cls := "JarMinutes", name := "item", desc := "(IIIJ)I" } : Jvm.MethodName) ({ cls := "JarMinutes", name := "item", desc := "(IIIJ)I" } : Jvm.MethodName)) ∈ fm_all := fm_m 608 (by decide +kernel) rfl
theorem fw_609 : (Jvm.Cond.code ({ cls := "JarMinutes", name := "item", desc := "(IIIJ)I" } : Jvm.MethodName) prog_1_method_35_code (7 : Nat) (Option.some Jvm.ClassFile.FieldType.int)) ∈ fm_all := fm_m 609 (by decide +kernel) rfl
theorem fw_610 : (Jvm.Cond.methodLink "JarMinutesLaw" (159 : Nat) ({ cls := "JarMinutes", name := "copy", desc := "(IIIII)I" } : Jvm.MethodName)) ∈ fm_all := fm_m 610 (by decide +kernel) rfl
theorem fw_611 : (Jvm.Cond.instanceMethod ({ cls := "JarMinutes", name := "copy", desc := "(IIIII)I" } : Jvm.MethodName)) ∈ fm_all := fm_m 611 (by decide +kernel) rfl
theorem fw_612 : (Jvm.Cond.selects "JarMinutes" ({ cls := "JarMinutes", name := "copy", desc := "(IIIII)I" } : Jvm.MethodName) ({ cls := "JarMinutes", name := "copy", desc := "(IIIII)I" } : Jvm.MethodName)) ∈ fm_all := fm_m 612 (by decide +kernel) rfl
theorem fw_613 : (Jvm.Cond.code ({ cls := "JarMinutes", name := "copy", desc := "(IIIII)I" } : Jvm.MethodName) prog_1_method_36_code (8 : Nat) (Option.some Jvm.ClassFile.FieldType.int)) ∈ fm_all := fm_m 613 (by decide +kernel) rfl
theorem fw_614 : (Jvm.Cond.classLink "JarMinutesLaw" (10 : Nat) "JarMinutesModel") ∈ fm_all := fm_m 614 (by decide +kernel) rfl
theorem fw_615 : (Jvm.Cond.instantiable "JarMinutesModel" (33 : Nat)) ∈ fm_all := fm_m 615 (by decide +kernel) rfl
theorem fw_616 : (Jvm.Cond.methodLink "JarMinutesLaw" (12 : Nat) ({ cls := "JarMinutesModel", name := "<init>", desc := "()V" } : Jvm.MethodName)) ∈ fm_all := fm_m 616 (by decide +kernel) rfl
theorem fw_617 : (Jvm.Cond.instanceMethod ({ cls := "JarMinutesModel", name := "<init>", desc := "()V" } : Jvm.MethodName)) ∈ fm_all := fm_m 617 (by decide +kernel) rfl
theorem fw_618 : (Jvm.Cond.code ({ cls := "JarMinutesModel", name := "<init>", desc := "()V" } : Jvm.MethodName) prog_9_method_1_code (2 : Nat) (Option.none : Option Jvm.ClassFile.FieldType)) ∈ fm_all := fm_m 618 (by decide +kernel) rfl
theorem fw_619 : (Jvm.Cond.methodLink "JarMinutesModel" (1 : Nat) ({ cls := "java/lang/Object", name := "<init>", desc := "()V" } : Jvm.MethodName)) ∈ fm_all := fm_m 619 (by decide +kernel) rfl
theorem fw_620 : (Jvm.Cond.fieldLink "JarMinutesModel" (7 : Nat) "JarMinutesModel" "kinds" "[I") ∈ fm_all := fm_m 620 (by decide +kernel) rfl
theorem fw_621 : (Jvm.Cond.fieldLink "JarMinutesModel" (13 : Nat) "JarMinutesModel" "likes" "[I") ∈ fm_all := fm_m 621 (by decide +kernel) rfl
theorem fw_622 : (Jvm.Cond.fieldLink "JarMinutesModel" (16 : Nat) "JarMinutesModel" "weights" "[I") ∈ fm_all := fm_m 622 (by decide +kernel) rfl
theorem fw_623 : (Jvm.Cond.fieldLink "JarMinutesModel" (19 : Nat) "JarMinutesModel" "mays" "[I") ∈ fm_all := fm_m 623 (by decide +kernel) rfl
theorem fw_624 : (Jvm.Cond.fieldLink "JarMinutesModel" (84 : Nat) "JarMinutesModel" "people" "I") ∈ fm_all := fm_m 624 (by decide +kernel) rfl
theorem fw_625 : (Jvm.Cond.fieldLink "JarMinutesModel" (22 : Nat) "JarMinutesModel" "trainHours" "[I") ∈ fm_all := fm_m 625 (by decide +kernel) rfl
theorem fw_626 : (Jvm.Cond.fieldLink "JarMinutesModel" (25 : Nat) "JarMinutesModel" "waits" "[I") ∈ fm_all := fm_m 626 (by decide +kernel) rfl
theorem fw_627 : (Jvm.Cond.fieldLink "JarMinutesModel" (116 : Nat) "JarMinutesModel" "trains" "I") ∈ fm_all := fm_m 627 (by decide +kernel) rfl
theorem fw_628 : (Jvm.Cond.fieldLink "JarMinutesModel" (28 : Nat) "JarMinutesModel" "losses" "[I") ∈ fm_all := fm_m 628 (by decide +kernel) rfl
theorem fw_629 : (Jvm.Cond.fieldLink "JarMinutesModel" (31 : Nat) "JarMinutesModel" "plan" "[I") ∈ fm_all := fm_m 629 (by decide +kernel) rfl
theorem fw_630 : (Jvm.Cond.fieldLink "JarMinutesModel" (34 : Nat) "JarMinutesModel" "jar" "I") ∈ fm_all := fm_m 630 (by decide +kernel) rfl
theorem fw_631 : (Jvm.Cond.fieldLink "JarMinutesModel" (123 : Nat) "JarMinutesModel" "leak" "I") ∈ fm_all := fm_m 631 (by decide +kernel) rfl
theorem fw_632 : (Jvm.Cond.fieldLink "JarMinutesModel" (126 : Nat) "JarMinutesModel" "term" "I") ∈ fm_all := fm_m 632 (by decide +kernel) rfl
theorem fw_633 : (Jvm.Cond.fieldLink "JarMinutesModel" (38 : Nat) "JarMinutesModel" "due" "I") ∈ fm_all := fm_m 633 (by decide +kernel) rfl
theorem fw_634 : (Jvm.Cond.fieldLink "JarMinutesModel" (129 : Nat) "JarMinutesModel" "days" "I") ∈ fm_all := fm_m 634 (by decide +kernel) rfl
theorem fw_635 : (Jvm.Cond.fieldLink "JarMinutesModel" (132 : Nat) "JarMinutesModel" "happiness" "I") ∈ fm_all := fm_m 635 (by decide +kernel) rfl
theorem fw_636 : (Jvm.Cond.fieldLink "JarMinutesModel" (41 : Nat) "JarMinutesModel" "drawn" "I") ∈ fm_all := fm_m 636 (by decide +kernel) rfl
theorem fw_637 : (Jvm.Cond.fieldLink "JarMinutesModel" (44 : Nat) "JarMinutesModel" "tape" "[I") ∈ fm_all := fm_m 637 (by decide +kernel) rfl
theorem fw_638 : (Jvm.Cond.fieldLink "JarMinutesModel" (144 : Nat) "JarMinutesModel" "taped" "I") ∈ fm_all := fm_m 638 (by decide +kernel) rfl
theorem fw_639 : (Jvm.Cond.fieldLink "JarMinutesModel" (147 : Nat) "JarMinutesModel" "place" "I") ∈ fm_all := fm_m 639 (by decide +kernel) rfl
theorem fw_640 : (Jvm.Cond.fieldLink "JarMinutesModel" (169 : Nat) "JarMinutesModel" "reads" "I") ∈ fm_all := fm_m 640 (by decide +kernel) rfl
theorem fw_641 : (Jvm.Cond.fieldLink "JarMinutesModel" (47 : Nat) "JarMinutesModel" "read" "[I") ∈ fm_all := fm_m 641 (by decide +kernel) rfl
theorem fw_642 : (Jvm.Cond.fieldLink "JarMinutesModel" (180 : Nat) "JarMinutesModel" "readSet" "I") ∈ fm_all := fm_m 642 (by decide +kernel) rfl
theorem fw_643 : (Jvm.Cond.fieldLink "JarMinutesModel" (50 : Nat) "JarMinutesModel" "gains" "[I") ∈ fm_all := fm_m 643 (by decide +kernel) rfl
theorem fw_644 : (Jvm.Cond.fieldLink "JarMinutesModel" (53 : Nat) "JarMinutesModel" "mosts" "[I") ∈ fm_all := fm_m 644 (by decide +kernel) rfl
theorem fw_645 : (Jvm.Cond.fieldLink "JarMinutesModel" (56 : Nat) "JarMinutesModel" "row" "[I") ∈ fm_all := fm_m 645 (by decide +kernel) rfl
theorem fw_646 : (Jvm.Cond.fieldLink "JarMinutesModel" (245 : Nat) "JarMinutesModel" "isKept" "Z") ∈ fm_all := fm_m 646 (by decide +kernel) rfl
theorem fw_647 : (Jvm.Cond.fieldLink "JarMinutesModel" (59 : Nat) "JarMinutesModel" "kept" "[I") ∈ fm_all := fm_m 647 (by decide +kernel) rfl
theorem fw_648 : (Jvm.Cond.fieldLink "JarMinutesModel" (62 : Nat) "JarMinutesModel" "lanes" "[I") ∈ fm_all := fm_m 648 (by decide +kernel) rfl
theorem fw_649 : (Jvm.Cond.fieldLink "JarMinutesModel" (65 : Nat) "JarMinutesModel" "rowSizes" "[I") ∈ fm_all := fm_m 649 (by decide +kernel) rfl
theorem fw_650 : (Jvm.Cond.fieldLink "JarMinutesModel" (68 : Nat) "JarMinutesModel" "items" "[J") ∈ fm_all := fm_m 650 (by decide +kernel) rfl
theorem fw_651 : (Jvm.Cond.fieldLink "JarMinutesModel" (72 : Nat) "JarMinutesModel" "ways" "[J") ∈ fm_all := fm_m 651 (by decide +kernel) rfl
theorem fw_652 : (Jvm.Cond.fieldLink "JarMinutesModel" (75 : Nat) "JarMinutesModel" "moved" "[J") ∈ fm_all := fm_m 652 (by decide +kernel) rfl
theorem fw_653 : (Jvm.Cond.laysFinal "JarMinutesModel" "JarMinutesModel" "kinds" "[I") ∈ fm_all := fm_m 653 (by decide +kernel) rfl
theorem fw_654 : (Jvm.Cond.soleField "JarMinutesModel" "kinds") ∈ fm_all := fm_m 654 (by decide +kernel) rfl
theorem fw_655 : (Jvm.Cond.laysFinal "JarMinutesModel" "JarMinutesModel" "likes" "[I") ∈ fm_all := fm_m 655 (by decide +kernel) rfl
theorem fw_656 : (Jvm.Cond.soleField "JarMinutesModel" "likes") ∈ fm_all := fm_m 656 (by decide +kernel) rfl
theorem fw_657 : (Jvm.Cond.laysFinal "JarMinutesModel" "JarMinutesModel" "weights" "[I") ∈ fm_all := fm_m 657 (by decide +kernel) rfl
theorem fw_658 : (Jvm.Cond.soleField "JarMinutesModel" "weights") ∈ fm_all := fm_m 658 (by decide +kernel) rfl
theorem fw_659 : (Jvm.Cond.laysFinal "JarMinutesModel" "JarMinutesModel" "mays" "[I") ∈ fm_all := fm_m 659 (by decide +kernel) rfl
theorem fw_660 : (Jvm.Cond.soleField "JarMinutesModel" "mays") ∈ fm_all := fm_m 660 (by decide +kernel) rfl
theorem fw_661 : (Jvm.Cond.lays "JarMinutesModel" "JarMinutesModel" "people" "I") ∈ fm_all := fm_m 661 (by decide +kernel) rfl
theorem fw_662 : (Jvm.Cond.soleField "JarMinutesModel" "people") ∈ fm_all := fm_m 662 (by decide +kernel) rfl
theorem fw_663 : (Jvm.Cond.laysFinal "JarMinutesModel" "JarMinutesModel" "trainHours" "[I") ∈ fm_all := fm_m 663 (by decide +kernel) rfl
theorem fw_664 : (Jvm.Cond.soleField "JarMinutesModel" "trainHours") ∈ fm_all := fm_m 664 (by decide +kernel) rfl
theorem fw_665 : (Jvm.Cond.laysFinal "JarMinutesModel" "JarMinutesModel" "waits" "[I") ∈ fm_all := fm_m 665 (by decide +kernel) rfl
theorem fw_666 : (Jvm.Cond.soleField "JarMinutesModel" "waits") ∈ fm_all := fm_m 666 (by decide +kernel) rfl
theorem fw_667 : (Jvm.Cond.lays "JarMinutesModel" "JarMinutesModel" "trains" "I") ∈ fm_all := fm_m 667 (by decide +kernel) rfl
theorem fw_668 : (Jvm.Cond.soleField "JarMinutesModel" "trains") ∈ fm_all := fm_m 668 (by decide +kernel) rfl
theorem fw_669 : (Jvm.Cond.laysFinal "JarMinutesModel" "JarMinutesModel" "losses" "[I") ∈ fm_all := fm_m 669 (by decide +kernel) rfl
theorem fw_670 : (Jvm.Cond.soleField "JarMinutesModel" "losses") ∈ fm_all := fm_m 670 (by decide +kernel) rfl
theorem fw_671 : (Jvm.Cond.laysFinal "JarMinutesModel" "JarMinutesModel" "plan" "[I") ∈ fm_all := fm_m 671 (by decide +kernel) rfl
theorem fw_672 : (Jvm.Cond.soleField "JarMinutesModel" "plan") ∈ fm_all := fm_m 672 (by decide +kernel) rfl
theorem fw_673 : (Jvm.Cond.lays "JarMinutesModel" "JarMinutesModel" "jar" "I") ∈ fm_all := fm_m 673 (by decide +kernel) rfl
theorem fw_674 : (Jvm.Cond.soleField "JarMinutesModel" "jar") ∈ fm_all := fm_m 674 (by decide +kernel) rfl
theorem fw_675 : (Jvm.Cond.lays "JarMinutesModel" "JarMinutesModel" "leak" "I") ∈ fm_all := fm_m 675 (by decide +kernel) rfl
theorem fw_676 : (Jvm.Cond.soleField "JarMinutesModel" "leak") ∈ fm_all := fm_m 676 (by decide +kernel) rfl
theorem fw_677 : (Jvm.Cond.lays "JarMinutesModel" "JarMinutesModel" "term" "I") ∈ fm_all := fm_m 677 (by decide +kernel) rfl
theorem fw_678 : (Jvm.Cond.soleField "JarMinutesModel" "term") ∈ fm_all := fm_m 678 (by decide +kernel) rfl
theorem fw_679 : (Jvm.Cond.lays "JarMinutesModel" "JarMinutesModel" "due" "I") ∈ fm_all := fm_m 679 (by decide +kernel) rfl
theorem fw_680 : (Jvm.Cond.soleField "JarMinutesModel" "due") ∈ fm_all := fm_m 680 (by decide +kernel) rfl
theorem fw_681 : (Jvm.Cond.lays "JarMinutesModel" "JarMinutesModel" "days" "I") ∈ fm_all := fm_m 681 (by decide +kernel) rfl
theorem fw_682 : (Jvm.Cond.soleField "JarMinutesModel" "days") ∈ fm_all := fm_m 682 (by decide +kernel) rfl
theorem fw_683 : (Jvm.Cond.lays "JarMinutesModel" "JarMinutesModel" "happiness" "I") ∈ fm_all := fm_m 683 (by decide +kernel) rfl
theorem fw_684 : (Jvm.Cond.soleField "JarMinutesModel" "happiness") ∈ fm_all := fm_m 684 (by decide +kernel) rfl
theorem fw_685 : (Jvm.Cond.lays "JarMinutesModel" "JarMinutesModel" "drawn" "I") ∈ fm_all := fm_m 685 (by decide +kernel) rfl
theorem fw_686 : (Jvm.Cond.soleField "JarMinutesModel" "drawn") ∈ fm_all := fm_m 686 (by decide +kernel) rfl
theorem fw_687 : (Jvm.Cond.laysFinal "JarMinutesModel" "JarMinutesModel" "tape" "[I") ∈ fm_all := fm_m 687 (by decide +kernel) rfl
theorem fw_688 : (Jvm.Cond.soleField "JarMinutesModel" "tape") ∈ fm_all := fm_m 688 (by decide +kernel) rfl
theorem fw_689 : (Jvm.Cond.lays "JarMinutesModel" "JarMinutesModel" "taped" "I") ∈ fm_all := fm_m 689 (by decide +kernel) rfl
theorem fw_690 : (Jvm.Cond.soleField "JarMinutesModel" "taped") ∈ fm_all := fm_m 690 (by decide +kernel) rfl
theorem fw_691 : (Jvm.Cond.lays "JarMinutesModel" "JarMinutesModel" "place" "I") ∈ fm_all := fm_m 691 (by decide +kernel) rfl
theorem fw_692 : (Jvm.Cond.soleField "JarMinutesModel" "place") ∈ fm_all := fm_m 692 (by decide +kernel) rfl
theorem fw_693 : (Jvm.Cond.lays "JarMinutesModel" "JarMinutesModel" "reads" "I") ∈ fm_all := fm_m 693 (by decide +kernel) rfl
theorem fw_694 : (Jvm.Cond.soleField "JarMinutesModel" "reads") ∈ fm_all := fm_m 694 (by decide +kernel) rfl
theorem fw_695 : (Jvm.Cond.laysFinal "JarMinutesModel" "JarMinutesModel" "read" "[I") ∈ fm_all := fm_m 695 (by decide +kernel) rfl
theorem fw_696 : (Jvm.Cond.soleField "JarMinutesModel" "read") ∈ fm_all := fm_m 696 (by decide +kernel) rfl
theorem fw_697 : (Jvm.Cond.lays "JarMinutesModel" "JarMinutesModel" "readSet" "I") ∈ fm_all := fm_m 697 (by decide +kernel) rfl
theorem fw_698 : (Jvm.Cond.soleField "JarMinutesModel" "readSet") ∈ fm_all := fm_m 698 (by decide +kernel) rfl
theorem fw_699 : (Jvm.Cond.laysFinal "JarMinutesModel" "JarMinutesModel" "gains" "[I") ∈ fm_all := fm_m 699 (by decide +kernel) rfl
theorem fw_700 : (Jvm.Cond.soleField "JarMinutesModel" "gains") ∈ fm_all := fm_m 700 (by decide +kernel) rfl
theorem fw_701 : (Jvm.Cond.laysFinal "JarMinutesModel" "JarMinutesModel" "mosts" "[I") ∈ fm_all := fm_m 701 (by decide +kernel) rfl
theorem fw_702 : (Jvm.Cond.soleField "JarMinutesModel" "mosts") ∈ fm_all := fm_m 702 (by decide +kernel) rfl
theorem fw_703 : (Jvm.Cond.laysFinal "JarMinutesModel" "JarMinutesModel" "row" "[I") ∈ fm_all := fm_m 703 (by decide +kernel) rfl
theorem fw_704 : (Jvm.Cond.soleField "JarMinutesModel" "row") ∈ fm_all := fm_m 704 (by decide +kernel) rfl
theorem fw_705 : (Jvm.Cond.lays "JarMinutesModel" "JarMinutesModel" "isKept" "Z") ∈ fm_all := fm_m 705 (by decide +kernel) rfl
theorem fw_706 : (Jvm.Cond.soleField "JarMinutesModel" "isKept") ∈ fm_all := fm_m 706 (by decide +kernel) rfl
theorem fw_707 : (Jvm.Cond.laysFinal "JarMinutesModel" "JarMinutesModel" "kept" "[I") ∈ fm_all := fm_m 707 (by decide +kernel) rfl
theorem fw_708 : (Jvm.Cond.soleField "JarMinutesModel" "kept") ∈ fm_all := fm_m 708 (by decide +kernel) rfl
theorem fw_709 : (Jvm.Cond.laysFinal "JarMinutesModel" "JarMinutesModel" "lanes" "[I") ∈ fm_all := fm_m 709 (by decide +kernel) rfl
theorem fw_710 : (Jvm.Cond.soleField "JarMinutesModel" "lanes") ∈ fm_all := fm_m 710 (by decide +kernel) rfl
theorem fw_711 : (Jvm.Cond.laysFinal "JarMinutesModel" "JarMinutesModel" "rowSizes" "[I") ∈ fm_all := fm_m 711 (by decide +kernel) rfl
theorem fw_712 : (Jvm.Cond.soleField "JarMinutesModel" "rowSizes") ∈ fm_all := fm_m 712 (by decide +kernel) rfl
theorem fw_713 : (Jvm.Cond.laysFinal "JarMinutesModel" "JarMinutesModel" "items" "[J") ∈ fm_all := fm_m 713 (by decide +kernel) rfl
theorem fw_714 : (Jvm.Cond.soleField "JarMinutesModel" "items") ∈ fm_all := fm_m 714 (by decide +kernel) rfl
theorem fw_715 : (Jvm.Cond.laysFinal "JarMinutesModel" "JarMinutesModel" "ways" "[J") ∈ fm_all := fm_m 715 (by decide +kernel) rfl
theorem fw_716 : (Jvm.Cond.soleField "JarMinutesModel" "ways") ∈ fm_all := fm_m 716 (by decide +kernel) rfl
theorem fw_717 : (Jvm.Cond.laysFinal "JarMinutesModel" "JarMinutesModel" "moved" "[J") ∈ fm_all := fm_m 717 (by decide +kernel) rfl
theorem fw_718 : (Jvm.Cond.soleField "JarMinutesModel" "moved") ∈ fm_all := fm_m 718 (by decide +kernel) rfl
theorem fw_719 : (Jvm.Cond.superclass "JarMinutesModel" "java/lang/Object") ∈ fm_all := fm_m 719 (by decide +kernel) rfl
theorem fw_720 : (Jvm.Cond.methodLink "JarMinutesLaw" (17 : Nat) ({ cls := "JarMinutesModel", name := "person", desc := "(III)I" } : Jvm.MethodName)) ∈ fm_all := fm_m 720 (by decide +kernel) rfl
theorem fw_721 : (Jvm.Cond.instanceMethod ({ cls := "JarMinutesModel", name := "person", desc := "(III)I" } : Jvm.MethodName)) ∈ fm_all := fm_m 721 (by decide +kernel) rfl
theorem fw_722 : (Jvm.Cond.selects "JarMinutesModel" ({ cls := "JarMinutesModel", name := "person", desc := "(III)I" } : Jvm.MethodName) ({ cls := "JarMinutesModel", name := "person", desc := "(III)I" } : Jvm.MethodName)) ∈ fm_all := fm_m 722 (by decide +kernel) rfl
theorem fw_723 : (Jvm.Cond.code ({ cls := "JarMinutesModel", name := "person", desc := "(III)I" } : Jvm.MethodName) prog_9_method_7_code (4 : Nat) (Option.some Jvm.ClassFile.FieldType.int)) ∈ fm_all := fm_m 723 (by decide +kernel) rfl
theorem fw_724 : (Jvm.Cond.constantLong "JarMinutesModel" (91 : Nat) (3 : Int64)) ∈ fm_all := fm_m 724 (by decide +kernel) rfl
theorem fw_725 : (Jvm.Cond.methodLink "JarMinutesModel" (80 : Nat) ({ cls := "JarMinutesModel", name := "in", desc := "(JJJ)Z" } : Jvm.MethodName)) ∈ fm_all := fm_m 725 (by decide +kernel) rfl
theorem fw_726 : (Jvm.Cond.static ({ cls := "JarMinutesModel", name := "in", desc := "(JJJ)Z" } : Jvm.MethodName)) ∈ fm_all := fm_m 726 (by decide +kernel) rfl
theorem fw_727 : (Jvm.Cond.code ({ cls := "JarMinutesModel", name := "in", desc := "(JJJ)Z" } : Jvm.MethodName) prog_9_method_2_code (6 : Nat) (Option.some Jvm.ClassFile.FieldType.boolean)) ∈ fm_all := fm_m 727 (by decide +kernel) rfl
theorem fw_728 : (Jvm.Cond.methodLink "JarMinutesModel" (93 : Nat) ({ cls := "JarMinutesModel", name := "isHour", desc := "(I)Z" } : Jvm.MethodName)) ∈ fm_all := fm_m 728 (by decide +kernel) rfl
theorem fw_729 : (Jvm.Cond.static ({ cls := "JarMinutesModel", name := "isHour", desc := "(I)Z" } : Jvm.MethodName)) ∈ fm_all := fm_m 729 (by decide +kernel) rfl
theorem fw_730 : (Jvm.Cond.code ({ cls := "JarMinutesModel", name := "isHour", desc := "(I)Z" } : Jvm.MethodName) prog_9_method_3_code (1 : Nat) (Option.some Jvm.ClassFile.FieldType.boolean)) ∈ fm_all := fm_m 730 (by decide +kernel) rfl
theorem fw_731 : (Jvm.Cond.constantLong "JarMinutesModel" (78 : Nat) (23 : Int64)) ∈ fm_all := fm_m 731 (by decide +kernel) rfl
theorem fw_732 : (Jvm.Cond.constantLong "JarMinutesModel" (97 : Nat) (99 : Int64)) ∈ fm_all := fm_m 732 (by decide +kernel) rfl
theorem fw_733 : (Jvm.Cond.methodLink "JarMinutesModel" (99 : Nat) ({ cls := "JarMinutesModel", name := "add", desc := "(IIII)V" } : Jvm.MethodName)) ∈ fm_all := fm_m 733 (by decide +kernel) rfl
theorem fw_735 : (Jvm.Cond.instanceMethod ({ cls := "JarMinutesModel", name := "add", desc := "(IIII)V" } : Jvm.MethodName)) ∈ fm_all := fm_m 735 (by decide +kernel) rfl
theorem fw_736 : (Jvm.Cond.code ({ cls := "JarMinutesModel", name := "add", desc := "(IIII)V" } : Jvm.MethodName) prog_9_method_6_code (5 : Nat) (Option.none : Option Jvm.ClassFile.FieldType)) ∈ fm_all := fm_m 736 (by decide +kernel) rfl
theorem fw_737 : (Jvm.Cond.methodLink "JarMinutesLaw" (22 : Nat) ({ cls := "JarMinutesModel", name := "may", desc := "(II)I" } : Jvm.MethodName)) ∈ fm_all := fm_m 737 (by decide +kernel) rfl
theorem fw_738 : (Jvm.Cond.instanceMethod ({ cls := "JarMinutesModel", name := "may", desc := "(II)I" } : Jvm.MethodName)) ∈ fm_all := fm_m 738 (by decide +kernel) rfl
theorem fw_739 : (Jvm.Cond.selects "JarMinutesModel" ({ cls := "JarMinutesModel", name := "may", desc := "(II)I" } : Jvm.MethodName) ({ cls := "JarMinutesModel", name := "may", desc := "(II)I" } : Jvm.MethodName)) ∈ fm_all := fm_m 739 (by decide +kernel) rfl
theorem fw_740 : (Jvm.Cond.code ({ cls := "JarMinutesModel", name := "may", desc := "(II)I" } : Jvm.MethodName) prog_9_method_8_code (4 : Nat) (Option.some Jvm.ClassFile.FieldType.int)) ∈ fm_all := fm_m 740 (by decide +kernel) rfl
theorem fw_741 : (Jvm.Cond.methodLink "JarMinutesModel" (103 : Nat) ({ cls := "JarMinutesModel", name := "isOne", desc := "(I)Z" } : Jvm.MethodName)) ∈ fm_all := fm_m 741 (by decide +kernel) rfl
theorem fw_743 : (Jvm.Cond.instanceMethod ({ cls := "JarMinutesModel", name := "isOne", desc := "(I)Z" } : Jvm.MethodName)) ∈ fm_all := fm_m 743 (by decide +kernel) rfl
theorem fw_744 : (Jvm.Cond.code ({ cls := "JarMinutesModel", name := "isOne", desc := "(I)Z" } : Jvm.MethodName) prog_9_method_4_code (2 : Nat) (Option.some Jvm.ClassFile.FieldType.boolean)) ∈ fm_all := fm_m 744 (by decide +kernel) rfl
theorem fw_745 : (Jvm.Cond.methodLink "JarMinutesLaw" (26 : Nat) ({ cls := "JarMinutesModel", name := "told", desc := "(II)I" } : Jvm.MethodName)) ∈ fm_all := fm_m 745 (by decide +kernel) rfl
theorem fw_746 : (Jvm.Cond.instanceMethod ({ cls := "JarMinutesModel", name := "told", desc := "(II)I" } : Jvm.MethodName)) ∈ fm_all := fm_m 746 (by decide +kernel) rfl
theorem fw_747 : (Jvm.Cond.selects "JarMinutesModel" ({ cls := "JarMinutesModel", name := "told", desc := "(II)I" } : Jvm.MethodName) ({ cls := "JarMinutesModel", name := "told", desc := "(II)I" } : Jvm.MethodName)) ∈ fm_all := fm_m 747 (by decide +kernel) rfl
theorem fw_748 : (Jvm.Cond.code ({ cls := "JarMinutesModel", name := "told", desc := "(II)I" } : Jvm.MethodName) prog_9_method_9_code (3 : Nat) (Option.some Jvm.ClassFile.FieldType.int)) ∈ fm_all := fm_m 748 (by decide +kernel) rfl
theorem fw_749 : (Jvm.Cond.methodLink "JarMinutesLaw" (30 : Nat) ({ cls := "JarMinutesModel", name := "worth", desc := "(III)I" } : Jvm.MethodName)) ∈ fm_all := fm_m 749 (by decide +kernel) rfl
theorem fw_750 : (Jvm.Cond.instanceMethod ({ cls := "JarMinutesModel", name := "worth", desc := "(III)I" } : Jvm.MethodName)) ∈ fm_all := fm_m 750 (by decide +kernel) rfl
theorem fw_751 : (Jvm.Cond.selects "JarMinutesModel" ({ cls := "JarMinutesModel", name := "worth", desc := "(III)I" } : Jvm.MethodName) ({ cls := "JarMinutesModel", name := "worth", desc := "(III)I" } : Jvm.MethodName)) ∈ fm_all := fm_m 751 (by decide +kernel) rfl
theorem fw_752 : (Jvm.Cond.code ({ cls := "JarMinutesModel", name := "worth", desc := "(III)I" } : Jvm.MethodName) prog_9_method_12_code (4 : Nat) (Option.some Jvm.ClassFile.FieldType.int)) ∈ fm_all := fm_m 752 (by decide +kernel) rfl
theorem fw_753 : (Jvm.Cond.constantLong "JarMinutesModel" (110 : Nat) (4 : Int64)) ∈ fm_all := fm_m 753 (by decide +kernel) rfl
theorem fw_754 : (Jvm.Cond.methodLink "JarMinutesModel" (112 : Nat) ({ cls := "JarMinutesModel", name := "worthOf", desc := "(III)I" } : Jvm.MethodName)) ∈ fm_all := fm_m 754 (by decide +kernel) rfl
theorem fw_756 : (Jvm.Cond.instanceMethod ({ cls := "JarMinutesModel", name := "worthOf", desc := "(III)I" } : Jvm.MethodName)) ∈ fm_all := fm_m 756 (by decide +kernel) rfl
theorem fw_757 : (Jvm.Cond.code ({ cls := "JarMinutesModel", name := "worthOf", desc := "(III)I" } : Jvm.MethodName) prog_9_method_11_code (7 : Nat) (Option.some Jvm.ClassFile.FieldType.int)) ∈ fm_all := fm_m 757 (by decide +kernel) rfl
theorem fw_758 : (Jvm.Cond.methodLink "JarMinutesModel" (106 : Nat) ({ cls := "JarMinutesModel", name := "apart", desc := "(II)I" } : Jvm.MethodName)) ∈ fm_all := fm_m 758 (by decide +kernel) rfl
theorem fw_759 : (Jvm.Cond.static ({ cls := "JarMinutesModel", name := "apart", desc := "(II)I" } : Jvm.MethodName)) ∈ fm_all := fm_m 759 (by decide +kernel) rfl
theorem fw_760 : (Jvm.Cond.code ({ cls := "JarMinutesModel", name := "apart", desc := "(II)I" } : Jvm.MethodName) prog_9_method_10_code (3 : Nat) (Option.some Jvm.ClassFile.FieldType.int)) ∈ fm_all := fm_m 760 (by decide +kernel) rfl
theorem fw_761 : (Jvm.Cond.methodLink "JarMinutesLaw" (34 : Nat) ({ cls := "JarMinutesModel", name := "train", desc := "(II)I" } : Jvm.MethodName)) ∈ fm_all := fm_m 761 (by decide +kernel) rfl
theorem fw_762 : (Jvm.Cond.instanceMethod ({ cls := "JarMinutesModel", name := "train", desc := "(II)I" } : Jvm.MethodName)) ∈ fm_all := fm_m 762 (by decide +kernel) rfl
theorem fw_763 : (Jvm.Cond.selects "JarMinutesModel" ({ cls := "JarMinutesModel", name := "train", desc := "(II)I" } : Jvm.MethodName) ({ cls := "JarMinutesModel", name := "train", desc := "(II)I" } : Jvm.MethodName)) ∈ fm_all := fm_m 763 (by decide +kernel) rfl
theorem fw_764 : (Jvm.Cond.code ({ cls := "JarMinutesModel", name := "train", desc := "(II)I" } : Jvm.MethodName) prog_9_method_13_code (3 : Nat) (Option.some Jvm.ClassFile.FieldType.int)) ∈ fm_all := fm_m 764 (by decide +kernel) rfl
theorem fw_765 : (Jvm.Cond.methodLink "JarMinutesLaw" (39 : Nat) ({ cls := "JarMinutesModel", name := "strike", desc := "()I" } : Jvm.MethodName)) ∈ fm_all := fm_m 765 (by decide +kernel) rfl
theorem fw_766 : (Jvm.Cond.instanceMethod ({ cls := "JarMinutesModel", name := "strike", desc := "()I" } : Jvm.MethodName)) ∈ fm_all := fm_m 766 (by decide +kernel) rfl
theorem fw_767 : (Jvm.Cond.selects "JarMinutesModel" ({ cls := "JarMinutesModel", name := "strike", desc := "()I" } : Jvm.MethodName) ({ cls := "JarMinutesModel", name := "strike", desc := "()I" } : Jvm.MethodName)) ∈ fm_all := fm_m 767 (by decide +kernel) rfl
theorem fw_768 : (Jvm.Cond.code ({ cls := "JarMinutesModel", name := "strike", desc := "()I" } : Jvm.MethodName) prog_9_method_14_code (1 : Nat) (Option.some Jvm.ClassFile.FieldType.int)) ∈ fm_all := fm_m 768 (by decide +kernel) rfl
theorem fw_769 : (Jvm.Cond.methodLink "JarMinutesLaw" (43 : Nat) ({ cls := "JarMinutesModel", name := "set", desc := "(II)I" } : Jvm.MethodName)) ∈ fm_all := fm_m 769 (by decide +kernel) rfl
theorem fw_770 : (Jvm.Cond.instanceMethod ({ cls := "JarMinutesModel", name := "set", desc := "(II)I" } : Jvm.MethodName)) ∈ fm_all := fm_m 770 (by decide +kernel) rfl
theorem fw_771 : (Jvm.Cond.selects "JarMinutesModel" ({ cls := "JarMinutesModel", name := "set", desc := "(II)I" } : Jvm.MethodName) ({ cls := "JarMinutesModel", name := "set", desc := "(II)I" } : Jvm.MethodName)) ∈ fm_all := fm_m 771 (by decide +kernel) rfl
theorem fw_772 : (Jvm.Cond.code ({ cls := "JarMinutesModel", name := "set", desc := "(II)I" } : Jvm.MethodName) prog_9_method_15_code (4 : Nat) (Option.some Jvm.ClassFile.FieldType.int)) ∈ fm_all := fm_m 772 (by decide +kernel) rfl
theorem fw_773 : (Jvm.Cond.constantLong "JarMinutesModel" (119 : Nat) (20 : Int64)) ∈ fm_all := fm_m 773 (by decide +kernel) rfl
theorem fw_774 : (Jvm.Cond.constantLong "JarMinutesModel" (121 : Nat) (60 : Int64)) ∈ fm_all := fm_m 774 (by decide +kernel) rfl
theorem fw_775 : (Jvm.Cond.methodLink "JarMinutesLaw" (47 : Nat) ({ cls := "JarMinutesModel", name := "loss", desc := "(II)I" } : Jvm.MethodName)) ∈ fm_all := fm_m 775 (by decide +kernel) rfl
theorem fw_776 : (Jvm.Cond.instanceMethod ({ cls := "JarMinutesModel", name := "loss", desc := "(II)I" } : Jvm.MethodName)) ∈ fm_all := fm_m 776 (by decide +kernel) rfl
theorem fw_777 : (Jvm.Cond.selects "JarMinutesModel" ({ cls := "JarMinutesModel", name := "loss", desc := "(II)I" } : Jvm.MethodName) ({ cls := "JarMinutesModel", name := "loss", desc := "(II)I" } : Jvm.MethodName)) ∈ fm_all := fm_m 777 (by decide +kernel) rfl
theorem fw_778 : (Jvm.Cond.code ({ cls := "JarMinutesModel", name := "loss", desc := "(II)I" } : Jvm.MethodName) prog_9_method_16_code (4 : Nat) (Option.some Jvm.ClassFile.FieldType.int)) ∈ fm_all := fm_m 778 (by decide +kernel) rfl
theorem fw_779 : (Jvm.Cond.methodLink "JarMinutesLaw" (71 : Nat) ({ cls := "JarMinutesModel", name := "is", desc := "(I)I" } : Jvm.MethodName)) ∈ fm_all := fm_m 779 (by decide +kernel) rfl
theorem fw_780 : (Jvm.Cond.instanceMethod ({ cls := "JarMinutesModel", name := "is", desc := "(I)I" } : Jvm.MethodName)) ∈ fm_all := fm_m 780 (by decide +kernel) rfl
theorem fw_781 : (Jvm.Cond.selects "JarMinutesModel" ({ cls := "JarMinutesModel", name := "is", desc := "(I)I" } : Jvm.MethodName) ({ cls := "JarMinutesModel", name := "is", desc := "(I)I" } : Jvm.MethodName)) ∈ fm_all := fm_m 781 (by decide +kernel) rfl
theorem fw_782 : (Jvm.Cond.code ({ cls := "JarMinutesModel", name := "is", desc := "(I)I" } : Jvm.MethodName) prog_9_method_17_code (2 : Nat) (Option.some Jvm.ClassFile.FieldType.int)) ∈ fm_all := fm_m 782 (by decide +kernel) rfl
theorem fw_783 : (Jvm.Cond.constant "JarMinutesModel" (135 : Nat) (-100000001 : Int32)) ∈ fm_all := fm_m 783 (by decide +kernel) rfl
theorem fw_784 : (Jvm.Cond.methodLink "JarMinutesLaw" (54 : Nat) ({ cls := "JarMinutesModel", name := "type", desc := "(JI)I" } : Jvm.MethodName)) ∈ fm_all := fm_m 784 (by decide +kernel) rfl
theorem fw_785 : (Jvm.Cond.instanceMethod ({ cls := "JarMinutesModel", name := "type", desc := "(JI)I" } : Jvm.MethodName)) ∈ fm_all := fm_m 785 (by decide +kernel) rfl
theorem fw_786 : (Jvm.Cond.selects "JarMinutesModel" ({ cls := "JarMinutesModel", name := "type", desc := "(JI)I" } : Jvm.MethodName) ({ cls := "JarMinutesModel", name := "type", desc := "(JI)I" } : Jvm.MethodName)) ∈ fm_all := fm_m 786 (by decide +kernel) rfl
theorem fw_787 : (Jvm.Cond.code ({ cls := "JarMinutesModel", name := "type", desc := "(JI)I" } : Jvm.MethodName) prog_9_method_18_code (5 : Nat) (Option.some Jvm.ClassFile.FieldType.int)) ∈ fm_all := fm_m 787 (by decide +kernel) rfl
theorem fw_788 : (Jvm.Cond.constantLong "JarMinutesModel" (136 : Nat) (8 : Int64)) ∈ fm_all := fm_m 788 (by decide +kernel) rfl
theorem fw_789 : (Jvm.Cond.constantLong "JarMinutesModel" (138 : Nat) (255 : Int64)) ∈ fm_all := fm_m 789 (by decide +kernel) rfl
theorem fw_790 : (Jvm.Cond.constantLong "JarMinutesModel" (140 : Nat) (32 : Int64)) ∈ fm_all := fm_m 790 (by decide +kernel) rfl
theorem fw_791 : (Jvm.Cond.constantLong "JarMinutesModel" (142 : Nat) (126 : Int64)) ∈ fm_all := fm_m 791 (by decide +kernel) rfl
theorem fw_792 : (Jvm.Cond.methodLink "JarMinutesLaw" (58 : Nat) ({ cls := "JarMinutesModel", name := "town", desc := "()I" } : Jvm.MethodName)) ∈ fm_all := fm_m 792 (by decide +kernel) rfl
theorem fw_793 : (Jvm.Cond.instanceMethod ({ cls := "JarMinutesModel", name := "town", desc := "()I" } : Jvm.MethodName)) ∈ fm_all := fm_m 793 (by decide +kernel) rfl
theorem fw_794 : (Jvm.Cond.selects "JarMinutesModel" ({ cls := "JarMinutesModel", name := "town", desc := "()I" } : Jvm.MethodName) ({ cls := "JarMinutesModel", name := "town", desc := "()I" } : Jvm.MethodName)) ∈ fm_all := fm_m 794 (by decide +kernel) rfl
theorem fw_795 : (Jvm.Cond.code ({ cls := "JarMinutesModel", name := "town", desc := "()I" } : Jvm.MethodName) prog_9_method_25_code (3 : Nat) (Option.some Jvm.ClassFile.FieldType.int)) ∈ fm_all := fm_m 795 (by decide +kernel) rfl
theorem fw_796 : (Jvm.Cond.methodLink "JarMinutesModel" (172 : Nat) ({ cls := "JarMinutesModel", name := "readTown", desc := "()Z" } : Jvm.MethodName)) ∈ fm_all := fm_m 796 (by decide +kernel) rfl
theorem fw_798 : (Jvm.Cond.instanceMethod ({ cls := "JarMinutesModel", name := "readTown", desc := "()Z" } : Jvm.MethodName)) ∈ fm_all := fm_m 798 (by decide +kernel) rfl
theorem fw_799 : (Jvm.Cond.code ({ cls := "JarMinutesModel", name := "readTown", desc := "()Z" } : Jvm.MethodName) prog_9_method_23_code (3 : Nat) (Option.some Jvm.ClassFile.FieldType.boolean)) ∈ fm_all := fm_m 799 (by decide +kernel) rfl
theorem fw_800 : (Jvm.Cond.methodLink "JarMinutesModel" (166 : Nat) ({ cls := "JarMinutesModel", name := "readOne", desc := "(I)Z" } : Jvm.MethodName)) ∈ fm_all := fm_m 800 (by decide +kernel) rfl
theorem fw_802 : (Jvm.Cond.instanceMethod ({ cls := "JarMinutesModel", name := "readOne", desc := "(I)Z" } : Jvm.MethodName)) ∈ fm_all := fm_m 802 (by decide +kernel) rfl
theorem fw_803 : (Jvm.Cond.code ({ cls := "JarMinutesModel", name := "readOne", desc := "(I)Z" } : Jvm.MethodName) prog_9_method_22_code (3 : Nat) (Option.some Jvm.ClassFile.FieldType.boolean)) ∈ fm_all := fm_m 803 (by decide +kernel) rfl
theorem fw_804 : (Jvm.Cond.methodLink "JarMinutesModel" (150 : Nat) ({ cls := "JarMinutesModel", name := "nextByte", desc := "()I" } : Jvm.MethodName)) ∈ fm_all := fm_m 804 (by decide +kernel) rfl
theorem fw_806 : (Jvm.Cond.instanceMethod ({ cls := "JarMinutesModel", name := "nextByte", desc := "()I" } : Jvm.MethodName)) ∈ fm_all := fm_m 806 (by decide +kernel) rfl
theorem fw_807 : (Jvm.Cond.code ({ cls := "JarMinutesModel", name := "nextByte", desc := "()I" } : Jvm.MethodName) prog_9_method_19_code (1 : Nat) (Option.some Jvm.ClassFile.FieldType.int)) ∈ fm_all := fm_m 807 (by decide +kernel) rfl
theorem fw_808 : (Jvm.Cond.methodLink "JarMinutesModel" (159 : Nat) ({ cls := "JarMinutesModel", name := "readNumber", desc := "(I)I" } : Jvm.MethodName)) ∈ fm_all := fm_m 808 (by decide +kernel) rfl
theorem fw_810 : (Jvm.Cond.instanceMethod ({ cls := "JarMinutesModel", name := "readNumber", desc := "(I)I" } : Jvm.MethodName)) ∈ fm_all := fm_m 810 (by decide +kernel) rfl
theorem fw_811 : (Jvm.Cond.code ({ cls := "JarMinutesModel", name := "readNumber", desc := "(I)I" } : Jvm.MethodName) prog_9_method_21_code (4 : Nat) (Option.some Jvm.ClassFile.FieldType.int)) ∈ fm_all := fm_m 811 (by decide +kernel) rfl
theorem fw_812 : (Jvm.Cond.constantLong "JarMinutesModel" (154 : Nat) (48 : Int64)) ∈ fm_all := fm_m 812 (by decide +kernel) rfl
theorem fw_813 : (Jvm.Cond.constantLong "JarMinutesModel" (156 : Nat) (57 : Int64)) ∈ fm_all := fm_m 813 (by decide +kernel) rfl
theorem fw_814 : (Jvm.Cond.constant "JarMinutesModel" (158 : Nat) (99999 : Int32)) ∈ fm_all := fm_m 814 (by decide +kernel) rfl
theorem fw_815 : (Jvm.Cond.methodLink "JarMinutesModel" (163 : Nat) ({ cls := "JarMinutesModel", name := "takes", desc := "(I)Z" } : Jvm.MethodName)) ∈ fm_all := fm_m 815 (by decide +kernel) rfl
theorem fw_817 : (Jvm.Cond.instanceMethod ({ cls := "JarMinutesModel", name := "takes", desc := "(I)Z" } : Jvm.MethodName)) ∈ fm_all := fm_m 817 (by decide +kernel) rfl
theorem fw_818 : (Jvm.Cond.code ({ cls := "JarMinutesModel", name := "takes", desc := "(I)Z" } : Jvm.MethodName) prog_9_method_20_code (3 : Nat) (Option.some Jvm.ClassFile.FieldType.boolean)) ∈ fm_all := fm_m 818 (by decide +kernel) rfl
theorem fw_819 : (Jvm.Cond.methodLink "JarMinutesModel" (176 : Nat) ({ cls := "JarMinutesModel", name := "end", desc := "(Z)I" } : Jvm.MethodName)) ∈ fm_all := fm_m 819 (by decide +kernel) rfl
theorem fw_821 : (Jvm.Cond.instanceMethod ({ cls := "JarMinutesModel", name := "end", desc := "(Z)I" } : Jvm.MethodName)) ∈ fm_all := fm_m 821 (by decide +kernel) rfl
theorem fw_822 : (Jvm.Cond.code ({ cls := "JarMinutesModel", name := "end", desc := "(Z)I" } : Jvm.MethodName) prog_9_method_24_code (2 : Nat) (Option.some Jvm.ClassFile.FieldType.int)) ∈ fm_all := fm_m 822 (by decide +kernel) rfl
theorem fw_823 : (Jvm.Cond.methodLink "JarMinutesLaw" (62 : Nat) ({ cls := "JarMinutesModel", name := "plan", desc := "()I" } : Jvm.MethodName)) ∈ fm_all := fm_m 823 (by decide +kernel) rfl
theorem fw_824 : (Jvm.Cond.instanceMethod ({ cls := "JarMinutesModel", name := "plan", desc := "()I" } : Jvm.MethodName)) ∈ fm_all := fm_m 824 (by decide +kernel) rfl
theorem fw_825 : (Jvm.Cond.selects "JarMinutesModel" ({ cls := "JarMinutesModel", name := "plan", desc := "()I" } : Jvm.MethodName) ({ cls := "JarMinutesModel", name := "plan", desc := "()I" } : Jvm.MethodName)) ∈ fm_all := fm_m 825 (by decide +kernel) rfl
theorem fw_826 : (Jvm.Cond.code ({ cls := "JarMinutesModel", name := "plan", desc := "()I" } : Jvm.MethodName) prog_9_method_28_code (3 : Nat) (Option.some Jvm.ClassFile.FieldType.int)) ∈ fm_all := fm_m 826 (by decide +kernel) rfl
theorem fw_827 : (Jvm.Cond.methodLink "JarMinutesModel" (188 : Nat) ({ cls := "JarMinutesModel", name := "readPlan", desc := "()Z" } : Jvm.MethodName)) ∈ fm_all := fm_m 827 (by decide +kernel) rfl
theorem fw_829 : (Jvm.Cond.instanceMethod ({ cls := "JarMinutesModel", name := "readPlan", desc := "()Z" } : Jvm.MethodName)) ∈ fm_all := fm_m 829 (by decide +kernel) rfl
theorem fw_830 : (Jvm.Cond.code ({ cls := "JarMinutesModel", name := "readPlan", desc := "()Z" } : Jvm.MethodName) prog_9_method_27_code (2 : Nat) (Option.some Jvm.ClassFile.FieldType.boolean)) ∈ fm_all := fm_m 830 (by decide +kernel) rfl
theorem fw_831 : (Jvm.Cond.methodLink "JarMinutesModel" (185 : Nat) ({ cls := "JarMinutesModel", name := "readHour", desc := "()Z" } : Jvm.MethodName)) ∈ fm_all := fm_m 831 (by decide +kernel) rfl
theorem fw_833 : (Jvm.Cond.instanceMethod ({ cls := "JarMinutesModel", name := "readHour", desc := "()Z" } : Jvm.MethodName)) ∈ fm_all := fm_m 833 (by decide +kernel) rfl
theorem fw_834 : (Jvm.Cond.code ({ cls := "JarMinutesModel", name := "readHour", desc := "()Z" } : Jvm.MethodName) prog_9_method_26_code (5 : Nat) (Option.some Jvm.ClassFile.FieldType.boolean)) ∈ fm_all := fm_m 834 (by decide +kernel) rfl
theorem fw_835 : (Jvm.Cond.constantLong "JarMinutesModel" (89 : Nat) (5 : Int64)) ∈ fm_all := fm_m 835 (by decide +kernel) rfl
theorem fw_836 : (Jvm.Cond.constantLong "JarMinutesModel" (183 : Nat) (2 : Int64)) ∈ fm_all := fm_m 836 (by decide +kernel) rfl
theorem fw_837 : (Jvm.Cond.methodLink "JarMinutesLaw" (66 : Nat) ({ cls := "JarMinutesModel", name := "lay", desc := "(II)I" } : Jvm.MethodName)) ∈ fm_all := fm_m 837 (by decide +kernel) rfl
theorem fw_838 : (Jvm.Cond.instanceMethod ({ cls := "JarMinutesModel", name := "lay", desc := "(II)I" } : Jvm.MethodName)) ∈ fm_all := fm_m 838 (by decide +kernel) rfl
theorem fw_839 : (Jvm.Cond.selects "JarMinutesModel" ({ cls := "JarMinutesModel", name := "lay", desc := "(II)I" } : Jvm.MethodName) ({ cls := "JarMinutesModel", name := "lay", desc := "(II)I" } : Jvm.MethodName)) ∈ fm_all := fm_m 839 (by decide +kernel) rfl
theorem fw_840 : (Jvm.Cond.code ({ cls := "JarMinutesModel", name := "lay", desc := "(II)I" } : Jvm.MethodName) prog_9_method_29_code (4 : Nat) (Option.some Jvm.ClassFile.FieldType.int)) ∈ fm_all := fm_m 840 (by decide +kernel) rfl
theorem fw_841 : (Jvm.Cond.methodLink "JarMinutesModel" (191 : Nat) ({ cls := "JarMinutesModel", name := "isNumber", desc := "(J)Z" } : Jvm.MethodName)) ∈ fm_all := fm_m 841 (by decide +kernel) rfl
theorem fw_842 : (Jvm.Cond.static ({ cls := "JarMinutesModel", name := "isNumber", desc := "(J)Z" } : Jvm.MethodName)) ∈ fm_all := fm_m 842 (by decide +kernel) rfl
theorem fw_843 : (Jvm.Cond.code ({ cls := "JarMinutesModel", name := "isNumber", desc := "(J)Z" } : Jvm.MethodName) prog_9_method_5_code (2 : Nat) (Option.some Jvm.ClassFile.FieldType.boolean)) ∈ fm_all := fm_m 843 (by decide +kernel) rfl
theorem fw_844 : (Jvm.Cond.constantLong "JarMinutesModel" (87 : Nat) (-2 : Int64)) ∈ fm_all := fm_m 844 (by decide +kernel) rfl
theorem fw_845 : (Jvm.Cond.methodLink "JarMinutesLaw" (75 : Nat) ({ cls := "JarMinutesModel", name := "late", desc := "(I)I" } : Jvm.MethodName)) ∈ fm_all := fm_m 845 (by decide +kernel) rfl
theorem fw_846 : (Jvm.Cond.instanceMethod ({ cls := "JarMinutesModel", name := "late", desc := "(I)I" } : Jvm.MethodName)) ∈ fm_all := fm_m 846 (by decide +kernel) rfl
theorem fw_847 : (Jvm.Cond.selects "JarMinutesModel" ({ cls := "JarMinutesModel", name := "late", desc := "(I)I" } : Jvm.MethodName) ({ cls := "JarMinutesModel", name := "late", desc := "(I)I" } : Jvm.MethodName)) ∈ fm_all := fm_m 847 (by decide +kernel) rfl
theorem fw_848 : (Jvm.Cond.code ({ cls := "JarMinutesModel", name := "late", desc := "(I)I" } : Jvm.MethodName) prog_9_method_31_code (2 : Nat) (Option.some Jvm.ClassFile.FieldType.int)) ∈ fm_all := fm_m 848 (by decide +kernel) rfl
theorem fw_849 : (Jvm.Cond.constantLong "JarMinutesModel" (195 : Nat) (24 : Int64)) ∈ fm_all := fm_m 849 (by decide +kernel) rfl
theorem fw_850 : (Jvm.Cond.methodLink "JarMinutesModel" (197 : Nat) ({ cls := "JarMinutesModel", name := "lateBy", desc := "([II)I" } : Jvm.MethodName)) ∈ fm_all := fm_m 850 (by decide +kernel) rfl
theorem fw_851 : (Jvm.Cond.static ({ cls := "JarMinutesModel", name := "lateBy", desc := "([II)I" } : Jvm.MethodName)) ∈ fm_all := fm_m 851 (by decide +kernel) rfl
theorem fw_852 : (Jvm.Cond.code ({ cls := "JarMinutesModel", name := "lateBy", desc := "([II)I" } : Jvm.MethodName) prog_9_method_30_code (4 : Nat) (Option.some Jvm.ClassFile.FieldType.int)) ∈ fm_all := fm_m 852 (by decide +kernel) rfl
theorem fw_853 : (Jvm.Cond.methodLink "JarMinutesLaw" (79 : Nat) ({ cls := "JarMinutesModel", name := "gain", desc := "()I" } : Jvm.MethodName)) ∈ fm_all := fm_m 853 (by decide +kernel) rfl
theorem fw_854 : (Jvm.Cond.instanceMethod ({ cls := "JarMinutesModel", name := "gain", desc := "()I" } : Jvm.MethodName)) ∈ fm_all := fm_m 854 (by decide +kernel) rfl
theorem fw_855 : (Jvm.Cond.selects "JarMinutesModel" ({ cls := "JarMinutesModel", name := "gain", desc := "()I" } : Jvm.MethodName) ({ cls := "JarMinutesModel", name := "gain", desc := "()I" } : Jvm.MethodName)) ∈ fm_all := fm_m 855 (by decide +kernel) rfl
theorem fw_856 : (Jvm.Cond.code ({ cls := "JarMinutesModel", name := "gain", desc := "()I" } : Jvm.MethodName) prog_9_method_34_code (1 : Nat) (Option.some Jvm.ClassFile.FieldType.int)) ∈ fm_all := fm_m 856 (by decide +kernel) rfl
theorem fw_857 : (Jvm.Cond.methodLink "JarMinutesModel" (204 : Nat) ({ cls := "JarMinutesModel", name := "gainOf", desc := "([I)I" } : Jvm.MethodName)) ∈ fm_all := fm_m 857 (by decide +kernel) rfl
theorem fw_859 : (Jvm.Cond.instanceMethod ({ cls := "JarMinutesModel", name := "gainOf", desc := "([I)I" } : Jvm.MethodName)) ∈ fm_all := fm_m 859 (by decide +kernel) rfl
theorem fw_860 : (Jvm.Cond.code ({ cls := "JarMinutesModel", name := "gainOf", desc := "([I)I" } : Jvm.MethodName) prog_9_method_33_code (4 : Nat) (Option.some Jvm.ClassFile.FieldType.int)) ∈ fm_all := fm_m 860 (by decide +kernel) rfl
theorem fw_861 : (Jvm.Cond.methodLink "JarMinutesModel" (201 : Nat) ({ cls := "JarMinutesModel", name := "findGains", desc := "()V" } : Jvm.MethodName)) ∈ fm_all := fm_m 861 (by decide +kernel) rfl
theorem fw_863 : (Jvm.Cond.instanceMethod ({ cls := "JarMinutesModel", name := "findGains", desc := "()V" } : Jvm.MethodName)) ∈ fm_all := fm_m 863 (by decide +kernel) rfl
theorem fw_864 : (Jvm.Cond.code ({ cls := "JarMinutesModel", name := "findGains", desc := "()V" } : Jvm.MethodName) prog_9_method_32_code (5 : Nat) (Option.none : Option Jvm.ClassFile.FieldType)) ∈ fm_all := fm_m 864 (by decide +kernel) rfl
theorem fw_865 : (Jvm.Cond.methodLink "JarMinutesLaw" (83 : Nat) ({ cls := "JarMinutesModel", name := "wrong", desc := "()I" } : Jvm.MethodName)) ∈ fm_all := fm_m 865 (by decide +kernel) rfl
theorem fw_866 : (Jvm.Cond.instanceMethod ({ cls := "JarMinutesModel", name := "wrong", desc := "()I" } : Jvm.MethodName)) ∈ fm_all := fm_m 866 (by decide +kernel) rfl
theorem fw_867 : (Jvm.Cond.selects "JarMinutesModel" ({ cls := "JarMinutesModel", name := "wrong", desc := "()I" } : Jvm.MethodName) ({ cls := "JarMinutesModel", name := "wrong", desc := "()I" } : Jvm.MethodName)) ∈ fm_all := fm_m 867 (by decide +kernel) rfl
theorem fw_868 : (Jvm.Cond.code ({ cls := "JarMinutesModel", name := "wrong", desc := "()I" } : Jvm.MethodName) prog_9_method_37_code (1 : Nat) (Option.some Jvm.ClassFile.FieldType.int)) ∈ fm_all := fm_m 868 (by decide +kernel) rfl
theorem fw_869 : (Jvm.Cond.methodLink "JarMinutesModel" (212 : Nat) ({ cls := "JarMinutesModel", name := "wrongOf", desc := "([I)I" } : Jvm.MethodName)) ∈ fm_all := fm_m 869 (by decide +kernel) rfl
theorem fw_871 : (Jvm.Cond.instanceMethod ({ cls := "JarMinutesModel", name := "wrongOf", desc := "([I)I" } : Jvm.MethodName)) ∈ fm_all := fm_m 871 (by decide +kernel) rfl
theorem fw_872 : (Jvm.Cond.code ({ cls := "JarMinutesModel", name := "wrongOf", desc := "([I)I" } : Jvm.MethodName) prog_9_method_36_code (3 : Nat) (Option.some Jvm.ClassFile.FieldType.int)) ∈ fm_all := fm_m 872 (by decide +kernel) rfl
theorem fw_873 : (Jvm.Cond.methodLink "JarMinutesModel" (208 : Nat) ({ cls := "JarMinutesModel", name := "areCaught", desc := "(II)Z" } : Jvm.MethodName)) ∈ fm_all := fm_m 873 (by decide +kernel) rfl
theorem fw_875 : (Jvm.Cond.instanceMethod ({ cls := "JarMinutesModel", name := "areCaught", desc := "(II)Z" } : Jvm.MethodName)) ∈ fm_all := fm_m 875 (by decide +kernel) rfl
theorem fw_876 : (Jvm.Cond.code ({ cls := "JarMinutesModel", name := "areCaught", desc := "(II)Z" } : Jvm.MethodName) prog_9_method_35_code (5 : Nat) (Option.some Jvm.ClassFile.FieldType.boolean)) ∈ fm_all := fm_m 876 (by decide +kernel) rfl
theorem fw_877 : (Jvm.Cond.methodLink "JarMinutesLaw" (87 : Nat) ({ cls := "JarMinutesModel", name := "missed", desc := "()I" } : Jvm.MethodName)) ∈ fm_all := fm_m 877 (by decide +kernel) rfl
theorem fw_878 : (Jvm.Cond.instanceMethod ({ cls := "JarMinutesModel", name := "missed", desc := "()I" } : Jvm.MethodName)) ∈ fm_all := fm_m 878 (by decide +kernel) rfl
theorem fw_879 : (Jvm.Cond.selects "JarMinutesModel" ({ cls := "JarMinutesModel", name := "missed", desc := "()I" } : Jvm.MethodName) ({ cls := "JarMinutesModel", name := "missed", desc := "()I" } : Jvm.MethodName)) ∈ fm_all := fm_m 879 (by decide +kernel) rfl
theorem fw_880 : (Jvm.Cond.code ({ cls := "JarMinutesModel", name := "missed", desc := "()I" } : Jvm.MethodName) prog_9_method_38_code (3 : Nat) (Option.some Jvm.ClassFile.FieldType.int)) ∈ fm_all := fm_m 880 (by decide +kernel) rfl
theorem fw_881 : (Jvm.Cond.methodLink "JarMinutesLaw" (91 : Nat) ({ cls := "JarMinutesModel", name := "day", desc := "()I" } : Jvm.MethodName)) ∈ fm_all := fm_m 881 (by decide +kernel) rfl
theorem fw_882 : (Jvm.Cond.instanceMethod ({ cls := "JarMinutesModel", name := "day", desc := "()I" } : Jvm.MethodName)) ∈ fm_all := fm_m 882 (by decide +kernel) rfl
theorem fw_883 : (Jvm.Cond.selects "JarMinutesModel" ({ cls := "JarMinutesModel", name := "day", desc := "()I" } : Jvm.MethodName) ({ cls := "JarMinutesModel", name := "day", desc := "()I" } : Jvm.MethodName)) ∈ fm_all := fm_m 883 (by decide +kernel) rfl
theorem fw_884 : (Jvm.Cond.code ({ cls := "JarMinutesModel", name := "day", desc := "()I" } : Jvm.MethodName) prog_9_method_40_code (1 : Nat) (Option.some Jvm.ClassFile.FieldType.int)) ∈ fm_all := fm_m 884 (by decide +kernel) rfl
theorem fw_885 : (Jvm.Cond.constant "JarMinutesModel" (215 : Nat) (-100000002 : Int32)) ∈ fm_all := fm_m 885 (by decide +kernel) rfl
theorem fw_886 : (Jvm.Cond.constant "JarMinutesModel" (216 : Nat) (-100000003 : Int32)) ∈ fm_all := fm_m 886 (by decide +kernel) rfl
theorem fw_887 : (Jvm.Cond.methodLink "JarMinutesModel" (217 : Nat) ({ cls := "JarMinutesModel", name := "dayBy", desc := "([I)I" } : Jvm.MethodName)) ∈ fm_all := fm_m 887 (by decide +kernel) rfl
theorem fw_889 : (Jvm.Cond.instanceMethod ({ cls := "JarMinutesModel", name := "dayBy", desc := "([I)I" } : Jvm.MethodName)) ∈ fm_all := fm_m 889 (by decide +kernel) rfl
theorem fw_890 : (Jvm.Cond.code ({ cls := "JarMinutesModel", name := "dayBy", desc := "([I)I" } : Jvm.MethodName) prog_9_method_39_code (3 : Nat) (Option.some Jvm.ClassFile.FieldType.int)) ∈ fm_all := fm_m 890 (by decide +kernel) rfl
theorem fw_891 : (Jvm.Cond.methodLink "JarMinutesLaw" (95 : Nat) ({ cls := "JarMinutesModel", name := "best", desc := "(II)I" } : Jvm.MethodName)) ∈ fm_all := fm_m 891 (by decide +kernel) rfl
theorem fw_892 : (Jvm.Cond.instanceMethod ({ cls := "JarMinutesModel", name := "best", desc := "(II)I" } : Jvm.MethodName)) ∈ fm_all := fm_m 892 (by decide +kernel) rfl
theorem fw_893 : (Jvm.Cond.selects "JarMinutesModel" ({ cls := "JarMinutesModel", name := "best", desc := "(II)I" } : Jvm.MethodName) ({ cls := "JarMinutesModel", name := "best", desc := "(II)I" } : Jvm.MethodName)) ∈ fm_all := fm_m 893 (by decide +kernel) rfl
theorem fw_894 : (Jvm.Cond.code ({ cls := "JarMinutesModel", name := "best", desc := "(II)I" } : Jvm.MethodName) prog_9_method_42_code (4 : Nat) (Option.some Jvm.ClassFile.FieldType.int)) ∈ fm_all := fm_m 894 (by decide +kernel) rfl
theorem fw_895 : (Jvm.Cond.constantLong "JarMinutesModel" (221 : Nat) (-1 : Int64)) ∈ fm_all := fm_m 895 (by decide +kernel) rfl
theorem fw_896 : (Jvm.Cond.methodLink "JarMinutesModel" (223 : Nat) ({ cls := "JarMinutesModel", name := "findBest", desc := "(Z)I" } : Jvm.MethodName)) ∈ fm_all := fm_m 896 (by decide +kernel) rfl
theorem fw_898 : (Jvm.Cond.instanceMethod ({ cls := "JarMinutesModel", name := "findBest", desc := "(Z)I" } : Jvm.MethodName)) ∈ fm_all := fm_m 898 (by decide +kernel) rfl
theorem fw_899 : (Jvm.Cond.code ({ cls := "JarMinutesModel", name := "findBest", desc := "(Z)I" } : Jvm.MethodName) prog_9_method_41_code (7 : Nat) (Option.some Jvm.ClassFile.FieldType.int)) ∈ fm_all := fm_m 899 (by decide +kernel) rfl
theorem fw_900 : (Jvm.Cond.constant "JarMinutesModel" (220 : Nat) (-1000000000 : Int32)) ∈ fm_all := fm_m 900 (by decide +kernel) rfl
theorem fw_901 : (Jvm.Cond.methodLink "JarMinutesLaw" (99 : Nat) ({ cls := "JarMinutesModel", name := "spend", desc := "(I)I" } : Jvm.MethodName)) ∈ fm_all := fm_m 901 (by decide +kernel) rfl
theorem fw_902 : (Jvm.Cond.instanceMethod ({ cls := "JarMinutesModel", name := "spend", desc := "(I)I" } : Jvm.MethodName)) ∈ fm_all := fm_m 902 (by decide +kernel) rfl
theorem fw_903 : (Jvm.Cond.selects "JarMinutesModel" ({ cls := "JarMinutesModel", name := "spend", desc := "(I)I" } : Jvm.MethodName) ({ cls := "JarMinutesModel", name := "spend", desc := "(I)I" } : Jvm.MethodName)) ∈ fm_all := fm_m 903 (by decide +kernel) rfl
theorem fw_904 : (Jvm.Cond.code ({ cls := "JarMinutesModel", name := "spend", desc := "(I)I" } : Jvm.MethodName) prog_9_method_43_code (4 : Nat) (Option.some Jvm.ClassFile.FieldType.int)) ∈ fm_all := fm_m 904 (by decide +kernel) rfl
theorem fw_905 : (Jvm.Cond.constantLong "JarMinutesModel" (226 : Nat) (30 : Int64)) ∈ fm_all := fm_m 905 (by decide +kernel) rfl
theorem fw_906 : (Jvm.Cond.methodLink "JarMinutesLaw" (103 : Nat) ({ cls := "JarMinutesModel", name := "share", desc := "(I)I" } : Jvm.MethodName)) ∈ fm_all := fm_m 906 (by decide +kernel) rfl
theorem fw_907 : (Jvm.Cond.instanceMethod ({ cls := "JarMinutesModel", name := "share", desc := "(I)I" } : Jvm.MethodName)) ∈ fm_all := fm_m 907 (by decide +kernel) rfl
theorem fw_908 : (Jvm.Cond.selects "JarMinutesModel" ({ cls := "JarMinutesModel", name := "share", desc := "(I)I" } : Jvm.MethodName) ({ cls := "JarMinutesModel", name := "share", desc := "(I)I" } : Jvm.MethodName)) ∈ fm_all := fm_m 908 (by decide +kernel) rfl
theorem fw_909 : (Jvm.Cond.code ({ cls := "JarMinutesModel", name := "share", desc := "(I)I" } : Jvm.MethodName) prog_9_method_44_code (5 : Nat) (Option.some Jvm.ClassFile.FieldType.int)) ∈ fm_all := fm_m 909 (by decide +kernel) rfl
theorem fw_910 : (Jvm.Cond.methodLink "JarMinutesLaw" (111 : Nat) ({ cls := "JarMinutesModel", name := "choice", desc := "(I)I" } : Jvm.MethodName)) ∈ fm_all := fm_m 910 (by decide +kernel) rfl
theorem fw_911 : (Jvm.Cond.instanceMethod ({ cls := "JarMinutesModel", name := "choice", desc := "(I)I" } : Jvm.MethodName)) ∈ fm_all := fm_m 911 (by decide +kernel) rfl
theorem fw_912 : (Jvm.Cond.selects "JarMinutesModel" ({ cls := "JarMinutesModel", name := "choice", desc := "(I)I" } : Jvm.MethodName) ({ cls := "JarMinutesModel", name := "choice", desc := "(I)I" } : Jvm.MethodName)) ∈ fm_all := fm_m 912 (by decide +kernel) rfl
theorem fw_913 : (Jvm.Cond.code ({ cls := "JarMinutesModel", name := "choice", desc := "(I)I" } : Jvm.MethodName) prog_9_method_46_code (2 : Nat) (Option.some Jvm.ClassFile.FieldType.int)) ∈ fm_all := fm_m 913 (by decide +kernel) rfl
theorem fw_914 : (Jvm.Cond.methodLink "JarMinutesModel" (228 : Nat) ({ cls := "JarMinutesModel", name := "choiceOf", desc := "(I)I" } : Jvm.MethodName)) ∈ fm_all := fm_m 914 (by decide +kernel) rfl
theorem fw_916 : (Jvm.Cond.instanceMethod ({ cls := "JarMinutesModel", name := "choiceOf", desc := "(I)I" } : Jvm.MethodName)) ∈ fm_all := fm_m 916 (by decide +kernel) rfl
theorem fw_917 : (Jvm.Cond.code ({ cls := "JarMinutesModel", name := "choiceOf", desc := "(I)I" } : Jvm.MethodName) prog_9_method_45_code (6 : Nat) (Option.some Jvm.ClassFile.FieldType.int)) ∈ fm_all := fm_m 917 (by decide +kernel) rfl
theorem fw_918 : (Jvm.Cond.methodLink "JarMinutesLaw" (107 : Nat) ({ cls := "JarMinutesModel", name := "vote", desc := "(I)I" } : Jvm.MethodName)) ∈ fm_all := fm_m 918 (by decide +kernel) rfl
theorem fw_919 : (Jvm.Cond.instanceMethod ({ cls := "JarMinutesModel", name := "vote", desc := "(I)I" } : Jvm.MethodName)) ∈ fm_all := fm_m 919 (by decide +kernel) rfl
theorem fw_920 : (Jvm.Cond.selects "JarMinutesModel" ({ cls := "JarMinutesModel", name := "vote", desc := "(I)I" } : Jvm.MethodName) ({ cls := "JarMinutesModel", name := "vote", desc := "(I)I" } : Jvm.MethodName)) ∈ fm_all := fm_m 920 (by decide +kernel) rfl
theorem fw_921 : (Jvm.Cond.code ({ cls := "JarMinutesModel", name := "vote", desc := "(I)I" } : Jvm.MethodName) prog_9_method_47_code (8 : Nat) (Option.some Jvm.ClassFile.FieldType.int)) ∈ fm_all := fm_m 921 (by decide +kernel) rfl
theorem fw_922 : (Jvm.Cond.methodLink "JarMinutesLaw" (115 : Nat) ({ cls := "JarMinutesModel", name := "lots", desc := "(I)I" } : Jvm.MethodName)) ∈ fm_all := fm_m 922 (by decide +kernel) rfl
theorem fw_923 : (Jvm.Cond.instanceMethod ({ cls := "JarMinutesModel", name := "lots", desc := "(I)I" } : Jvm.MethodName)) ∈ fm_all := fm_m 923 (by decide +kernel) rfl
theorem fw_924 : (Jvm.Cond.selects "JarMinutesModel" ({ cls := "JarMinutesModel", name := "lots", desc := "(I)I" } : Jvm.MethodName) ({ cls := "JarMinutesModel", name := "lots", desc := "(I)I" } : Jvm.MethodName)) ∈ fm_all := fm_m 924 (by decide +kernel) rfl
theorem fw_925 : (Jvm.Cond.code ({ cls := "JarMinutesModel", name := "lots", desc := "(I)I" } : Jvm.MethodName) prog_9_method_49_code (4 : Nat) (Option.some Jvm.ClassFile.FieldType.int)) ∈ fm_all := fm_m 925 (by decide +kernel) rfl
theorem fw_926 : (Jvm.Cond.methodLink "JarMinutesModel" (238 : Nat) ({ cls := "JarMinutesModel", name := "drawRow", desc := "()V" } : Jvm.MethodName)) ∈ fm_all := fm_m 926 (by decide +kernel) rfl
theorem fw_928 : (Jvm.Cond.instanceMethod ({ cls := "JarMinutesModel", name := "drawRow", desc := "()V" } : Jvm.MethodName)) ∈ fm_all := fm_m 928 (by decide +kernel) rfl
theorem fw_929 : (Jvm.Cond.code ({ cls := "JarMinutesModel", name := "drawRow", desc := "()V" } : Jvm.MethodName) prog_9_method_48_code (5 : Nat) (Option.none : Option Jvm.ClassFile.FieldType)) ∈ fm_all := fm_m 929 (by decide +kernel) rfl
theorem fw_930 : (Jvm.Cond.constantLong "JarMinutesModel" (231 : Nat) (1103515245 : Int64)) ∈ fm_all := fm_m 930 (by decide +kernel) rfl
theorem fw_931 : (Jvm.Cond.constantLong "JarMinutesModel" (233 : Nat) (12345 : Int64)) ∈ fm_all := fm_m 931 (by decide +kernel) rfl
theorem fw_932 : (Jvm.Cond.constantLong "JarMinutesModel" (235 : Nat) (2147483647 : Int64)) ∈ fm_all := fm_m 932 (by decide +kernel) rfl
theorem fw_933 : (Jvm.Cond.constant "JarMinutesModel" (237 : Nat) (65536 : Int32)) ∈ fm_all := fm_m 933 (by decide +kernel) rfl
theorem fw_934 : (Jvm.Cond.methodLink "JarMinutesLaw" (119 : Nat) ({ cls := "JarMinutesModel", name := "seed", desc := "(I)I" } : Jvm.MethodName)) ∈ fm_all := fm_m 934 (by decide +kernel) rfl
theorem fw_935 : (Jvm.Cond.instanceMethod ({ cls := "JarMinutesModel", name := "seed", desc := "(I)I" } : Jvm.MethodName)) ∈ fm_all := fm_m 935 (by decide +kernel) rfl
theorem fw_936 : (Jvm.Cond.selects "JarMinutesModel" ({ cls := "JarMinutesModel", name := "seed", desc := "(I)I" } : Jvm.MethodName) ({ cls := "JarMinutesModel", name := "seed", desc := "(I)I" } : Jvm.MethodName)) ∈ fm_all := fm_m 936 (by decide +kernel) rfl
theorem fw_937 : (Jvm.Cond.code ({ cls := "JarMinutesModel", name := "seed", desc := "(I)I" } : Jvm.MethodName) prog_9_method_50_code (3 : Nat) (Option.some Jvm.ClassFile.FieldType.int)) ∈ fm_all := fm_m 937 (by decide +kernel) rfl
theorem fw_938 : (Jvm.Cond.methodLink "JarMinutesLaw" (123 : Nat) ({ cls := "JarMinutesModel", name := "image", desc := "()I" } : Jvm.MethodName)) ∈ fm_all := fm_m 938 (by decide +kernel) rfl
theorem fw_939 : (Jvm.Cond.instanceMethod ({ cls := "JarMinutesModel", name := "image", desc := "()I" } : Jvm.MethodName)) ∈ fm_all := fm_m 939 (by decide +kernel) rfl
theorem fw_940 : (Jvm.Cond.selects "JarMinutesModel" ({ cls := "JarMinutesModel", name := "image", desc := "()I" } : Jvm.MethodName) ({ cls := "JarMinutesModel", name := "image", desc := "()I" } : Jvm.MethodName)) ∈ fm_all := fm_m 940 (by decide +kernel) rfl
theorem fw_941 : (Jvm.Cond.code ({ cls := "JarMinutesModel", name := "image", desc := "()I" } : Jvm.MethodName) prog_9_method_52_code (2 : Nat) (Option.some Jvm.ClassFile.FieldType.int)) ∈ fm_all := fm_m 941 (by decide +kernel) rfl
theorem fw_942 : (Jvm.Cond.methodLink "JarMinutesModel" (241 : Nat) ({ cls := "JarMinutesModel", name := "carried", desc := "(IIZ)I" } : Jvm.MethodName)) ∈ fm_all := fm_m 942 (by decide +kernel) rfl
theorem fw_944 : (Jvm.Cond.instanceMethod ({ cls := "JarMinutesModel", name := "carried", desc := "(IIZ)I" } : Jvm.MethodName)) ∈ fm_all := fm_m 944 (by decide +kernel) rfl
theorem fw_945 : (Jvm.Cond.code ({ cls := "JarMinutesModel", name := "carried", desc := "(IIZ)I" } : Jvm.MethodName) prog_9_method_51_code (6 : Nat) (Option.some Jvm.ClassFile.FieldType.int)) ∈ fm_all := fm_m 945 (by decide +kernel) rfl
theorem fw_946 : (Jvm.Cond.methodLink "JarMinutesLaw" (127 : Nat) ({ cls := "JarMinutesModel", name := "restore", desc := "()I" } : Jvm.MethodName)) ∈ fm_all := fm_m 946 (by decide +kernel) rfl
theorem fw_947 : (Jvm.Cond.instanceMethod ({ cls := "JarMinutesModel", name := "restore", desc := "()I" } : Jvm.MethodName)) ∈ fm_all := fm_m 947 (by decide +kernel) rfl
theorem fw_948 : (Jvm.Cond.selects "JarMinutesModel" ({ cls := "JarMinutesModel", name := "restore", desc := "()I" } : Jvm.MethodName) ({ cls := "JarMinutesModel", name := "restore", desc := "()I" } : Jvm.MethodName)) ∈ fm_all := fm_m 948 (by decide +kernel) rfl
theorem fw_949 : (Jvm.Cond.code ({ cls := "JarMinutesModel", name := "restore", desc := "()I" } : Jvm.MethodName) prog_9_method_53_code (2 : Nat) (Option.some Jvm.ClassFile.FieldType.int)) ∈ fm_all := fm_m 949 (by decide +kernel) rfl
theorem fw_950 : (Jvm.Cond.methodLink "JarMinutesLaw" (149 : Nat) ({ cls := "JarMinutesModel", name := "sheet", desc := "(III)I" } : Jvm.MethodName)) ∈ fm_all := fm_m 950 (by decide +kernel) rfl
theorem fw_951 : (Jvm.Cond.instanceMethod ({ cls := "JarMinutesModel", name := "sheet", desc := "(III)I" } : Jvm.MethodName)) ∈ fm_all := fm_m 951 (by decide +kernel) rfl
theorem fw_952 : (Jvm.Cond.selects "JarMinutesModel" ({ cls := "JarMinutesModel", name := "sheet", desc := "(III)I" } : Jvm.MethodName) ({ cls := "JarMinutesModel", name := "sheet", desc := "(III)I" } : Jvm.MethodName)) ∈ fm_all := fm_m 952 (by decide +kernel) rfl
theorem fw_953 : (Jvm.Cond.code ({ cls := "JarMinutesModel", name := "sheet", desc := "(III)I" } : Jvm.MethodName) prog_9_method_56_code (5 : Nat) (Option.some Jvm.ClassFile.FieldType.int)) ∈ fm_all := fm_m 953 (by decide +kernel) rfl
theorem fw_954 : (Jvm.Cond.methodLink "JarMinutesModel" (249 : Nat) ({ cls := "JarMinutesModel", name := "isSheet", desc := "(II)Z" } : Jvm.MethodName)) ∈ fm_all := fm_m 954 (by decide +kernel) rfl
theorem fw_955 : (Jvm.Cond.static ({ cls := "JarMinutesModel", name := "isSheet", desc := "(II)Z" } : Jvm.MethodName)) ∈ fm_all := fm_m 955 (by decide +kernel) rfl
theorem fw_956 : (Jvm.Cond.code ({ cls := "JarMinutesModel", name := "isSheet", desc := "(II)Z" } : Jvm.MethodName) prog_9_method_54_code (2 : Nat) (Option.some Jvm.ClassFile.FieldType.boolean)) ∈ fm_all := fm_m 956 (by decide +kernel) rfl
theorem fw_957 : (Jvm.Cond.methodLink "JarMinutesLaw" (153 : Nat) ({ cls := "JarMinutesModel", name := "drop", desc := "(I)I" } : Jvm.MethodName)) ∈ fm_all := fm_m 957 (by decide +kernel) rfl
theorem fw_958 : (Jvm.Cond.instanceMethod ({ cls := "JarMinutesModel", name := "drop", desc := "(I)I" } : Jvm.MethodName)) ∈ fm_all := fm_m 958 (by decide +kernel) rfl
theorem fw_959 : (Jvm.Cond.selects "JarMinutesModel" ({ cls := "JarMinutesModel", name := "drop", desc := "(I)I" } : Jvm.MethodName) ({ cls := "JarMinutesModel", name := "drop", desc := "(I)I" } : Jvm.MethodName)) ∈ fm_all := fm_m 959 (by decide +kernel) rfl
theorem fw_960 : (Jvm.Cond.code ({ cls := "JarMinutesModel", name := "drop", desc := "(I)I" } : Jvm.MethodName) prog_9_method_57_code (2 : Nat) (Option.some Jvm.ClassFile.FieldType.int)) ∈ fm_all := fm_m 960 (by decide +kernel) rfl
theorem fw_961 : (Jvm.Cond.methodLink "JarMinutesLaw" (158 : Nat) ({ cls := "JarMinutesModel", name := "item", desc := "(IIIJ)I" } : Jvm.MethodName)) ∈ fm_all := fm_m 961 (by decide +kernel) rfl
theorem fw_962 : (Jvm.Cond.instanceMethod ({ cls := "JarMinutesModel", name := "item", desc := "(IIIJ)I" } : Jvm.MethodName)) ∈ fm_all := fm_m 962 (by decide +kernel) rfl
theorem fw_963 : (Jvm.Cond.selects "JarMinutesModel" ({ cls := "JarMinutesModel", name := "item", desc := "(IIIJ)I" } : Jvm.MethodName) ({ cls := "JarMinutesModel", name := "item", desc := "(IIIJ)I" } : Jvm.MethodName)) ∈ fm_all := fm_m 963 (by decide +kernel) rfl
theorem fw_964 : (Jvm.Cond.code ({ cls := "JarMinutesModel", name := "item", desc := "(IIIJ)I" } : Jvm.MethodName) prog_9_method_59_code (7 : Nat) (Option.some Jvm.ClassFile.FieldType.int)) ∈ fm_all := fm_m 964 (by decide +kernel) rfl
theorem fw_965 : (Jvm.Cond.methodLink "JarMinutesModel" (252 : Nat) ({ cls := "JarMinutesModel", name := "lacksRow", desc := "(IIII)I" } : Jvm.MethodName)) ∈ fm_all := fm_m 965 (by decide +kernel) rfl
theorem fw_967 : (Jvm.Cond.instanceMethod ({ cls := "JarMinutesModel", name := "lacksRow", desc := "(IIII)I" } : Jvm.MethodName)) ∈ fm_all := fm_m 967 (by decide +kernel) rfl
theorem fw_968 : (Jvm.Cond.code ({ cls := "JarMinutesModel", name := "lacksRow", desc := "(IIII)I" } : Jvm.MethodName) prog_9_method_58_code (5 : Nat) (Option.some Jvm.ClassFile.FieldType.int)) ∈ fm_all := fm_m 968 (by decide +kernel) rfl
theorem fw_969 : (Jvm.Cond.methodLink "JarMinutesModel" (256 : Nat) ({ cls := "JarMinutesModel", name := "asLane", desc := "(IJ)J" } : Jvm.MethodName)) ∈ fm_all := fm_m 969 (by decide +kernel) rfl
theorem fw_970 : (Jvm.Cond.static ({ cls := "JarMinutesModel", name := "asLane", desc := "(IJ)J" } : Jvm.MethodName)) ∈ fm_all := fm_m 970 (by decide +kernel) rfl
theorem fw_971 : (Jvm.Cond.code ({ cls := "JarMinutesModel", name := "asLane", desc := "(IJ)J" } : Jvm.MethodName) prog_9_method_55_code (3 : Nat) (Option.some Jvm.ClassFile.FieldType.long)) ∈ fm_all := fm_m 971 (by decide +kernel) rfl
theorem fw_972 : (Jvm.Cond.methodLink "JarMinutesLaw" (132 : Nat) ({ cls := "JarMinutesModel", name := "clocks", desc := "(IIII)J" } : Jvm.MethodName)) ∈ fm_all := fm_m 972 (by decide +kernel) rfl
theorem fw_973 : (Jvm.Cond.instanceMethod ({ cls := "JarMinutesModel", name := "clocks", desc := "(IIII)J" } : Jvm.MethodName)) ∈ fm_all := fm_m 973 (by decide +kernel) rfl
theorem fw_974 : (Jvm.Cond.selects "JarMinutesModel" ({ cls := "JarMinutesModel", name := "clocks", desc := "(IIII)J" } : Jvm.MethodName) ({ cls := "JarMinutesModel", name := "clocks", desc := "(IIII)J" } : Jvm.MethodName)) ∈ fm_all := fm_m 974 (by decide +kernel) rfl
theorem fw_975 : (Jvm.Cond.code ({ cls := "JarMinutesModel", name := "clocks", desc := "(IIII)J" } : Jvm.MethodName) prog_9_method_63_code (6 : Nat) (Option.some Jvm.ClassFile.FieldType.long)) ∈ fm_all := fm_m 975 (by decide +kernel) rfl
theorem fw_976 : (Jvm.Cond.methodLink "JarMinutesModel" (264 : Nat) ({ cls := "JarMinutesModel", name := "lacksClocks", desc := "(IIII)I" } : Jvm.MethodName)) ∈ fm_all := fm_m 976 (by decide +kernel) rfl
theorem fw_978 : (Jvm.Cond.instanceMethod ({ cls := "JarMinutesModel", name := "lacksClocks", desc := "(IIII)I" } : Jvm.MethodName)) ∈ fm_all := fm_m 978 (by decide +kernel) rfl
theorem fw_979 : (Jvm.Cond.code ({ cls := "JarMinutesModel", name := "lacksClocks", desc := "(IIII)I" } : Jvm.MethodName) prog_9_method_62_code (7 : Nat) (Option.some Jvm.ClassFile.FieldType.int)) ∈ fm_all := fm_m 979 (by decide +kernel) rfl
theorem fw_980 : (Jvm.Cond.methodLink "JarMinutesModel" (267 : Nat) ({ cls := "JarMinutesModel", name := "waysBy", desc := "(IIII)J" } : Jvm.MethodName)) ∈ fm_all := fm_m 980 (by decide +kernel) rfl
theorem fw_982 : (Jvm.Cond.instanceMethod ({ cls := "JarMinutesModel", name := "waysBy", desc := "(IIII)J" } : Jvm.MethodName)) ∈ fm_all := fm_m 982 (by decide +kernel) rfl
theorem fw_983 : (Jvm.Cond.code ({ cls := "JarMinutesModel", name := "waysBy", desc := "(IIII)J" } : Jvm.MethodName) prog_9_method_61_code (10 : Nat) (Option.some Jvm.ClassFile.FieldType.long)) ∈ fm_all := fm_m 983 (by decide +kernel) rfl
theorem fw_984 : (Jvm.Cond.methodLink "JarMinutesModel" (260 : Nat) ({ cls := "JarMinutesModel", name := "isTold", desc := "(IIII)Z" } : Jvm.MethodName)) ∈ fm_all := fm_m 984 (by decide +kernel) rfl
theorem fw_986 : (Jvm.Cond.instanceMethod ({ cls := "JarMinutesModel", name := "isTold", desc := "(IIII)Z" } : Jvm.MethodName)) ∈ fm_all := fm_m 986 (by decide +kernel) rfl
theorem fw_987 : (Jvm.Cond.code ({ cls := "JarMinutesModel", name := "isTold", desc := "(IIII)Z" } : Jvm.MethodName) prog_9_method_60_code (7 : Nat) (Option.some Jvm.ClassFile.FieldType.boolean)) ∈ fm_all := fm_m 987 (by decide +kernel) rfl
theorem fw_988 : (Jvm.Cond.methodLink "JarMinutesLaw" (137 : Nat) ({ cls := "JarMinutesModel", name := "sure", desc := "(IIIII)I" } : Jvm.MethodName)) ∈ fm_all := fm_m 988 (by decide +kernel) rfl
theorem fw_989 : (Jvm.Cond.instanceMethod ({ cls := "JarMinutesModel", name := "sure", desc := "(IIIII)I" } : Jvm.MethodName)) ∈ fm_all := fm_m 989 (by decide +kernel) rfl
theorem fw_990 : (Jvm.Cond.selects "JarMinutesModel" ({ cls := "JarMinutesModel", name := "sure", desc := "(IIIII)I" } : Jvm.MethodName) ({ cls := "JarMinutesModel", name := "sure", desc := "(IIIII)I" } : Jvm.MethodName)) ∈ fm_all := fm_m 990 (by decide +kernel) rfl
theorem fw_991 : (Jvm.Cond.code ({ cls := "JarMinutesModel", name := "sure", desc := "(IIIII)I" } : Jvm.MethodName) prog_9_method_64_code (10 : Nat) (Option.some Jvm.ClassFile.FieldType.int)) ∈ fm_all := fm_m 991 (by decide +kernel) rfl
theorem fw_992 : (Jvm.Cond.methodLink "JarMinutesLaw" (141 : Nat) ({ cls := "JarMinutesModel", name := "film", desc := "(III)I" } : Jvm.MethodName)) ∈ fm_all := fm_m 992 (by decide +kernel) rfl
theorem fw_993 : (Jvm.Cond.instanceMethod ({ cls := "JarMinutesModel", name := "film", desc := "(III)I" } : Jvm.MethodName)) ∈ fm_all := fm_m 993 (by decide +kernel) rfl
theorem fw_994 : (Jvm.Cond.selects "JarMinutesModel" ({ cls := "JarMinutesModel", name := "film", desc := "(III)I" } : Jvm.MethodName) ({ cls := "JarMinutesModel", name := "film", desc := "(III)I" } : Jvm.MethodName)) ∈ fm_all := fm_m 994 (by decide +kernel) rfl
theorem fw_995 : (Jvm.Cond.code ({ cls := "JarMinutesModel", name := "film", desc := "(III)I" } : Jvm.MethodName) prog_9_method_65_code (6 : Nat) (Option.some Jvm.ClassFile.FieldType.int)) ∈ fm_all := fm_m 995 (by decide +kernel) rfl
theorem fw_996 : (Jvm.Cond.methodLink "JarMinutesLaw" (145 : Nat) ({ cls := "JarMinutesModel", name := "build", desc := "(III)I" } : Jvm.MethodName)) ∈ fm_all := fm_m 996 (by decide +kernel) rfl
theorem fw_997 : (Jvm.Cond.instanceMethod ({ cls := "JarMinutesModel", name := "build", desc := "(III)I" } : Jvm.MethodName)) ∈ fm_all := fm_m 997 (by decide +kernel) rfl
theorem fw_998 : (Jvm.Cond.selects "JarMinutesModel" ({ cls := "JarMinutesModel", name := "build", desc := "(III)I" } : Jvm.MethodName) ({ cls := "JarMinutesModel", name := "build", desc := "(III)I" } : Jvm.MethodName)) ∈ fm_all := fm_m 998 (by decide +kernel) rfl
theorem fw_999 : (Jvm.Cond.code ({ cls := "JarMinutesModel", name := "build", desc := "(III)I" } : Jvm.MethodName) prog_9_method_66_code (6 : Nat) (Option.some Jvm.ClassFile.FieldType.int)) ∈ fm_all := fm_m 999 (by decide +kernel) rfl
theorem fw_1000 : (Jvm.Cond.constant "JarMinutesModel" (271 : Nat) (100000000 : Int32)) ∈ fm_all := fm_m 1000 (by decide +kernel) rfl
theorem fw_1001 : (Jvm.Cond.methodLink "JarMinutesLaw" (162 : Nat) ({ cls := "JarMinutesModel", name := "copy", desc := "(IIIII)I" } : Jvm.MethodName)) ∈ fm_all := fm_m 1001 (by decide +kernel) rfl
theorem fw_1002 : (Jvm.Cond.instanceMethod ({ cls := "JarMinutesModel", name := "copy", desc := "(IIIII)I" } : Jvm.MethodName)) ∈ fm_all := fm_m 1002 (by decide +kernel) rfl
theorem fw_1003 : (Jvm.Cond.selects "JarMinutesModel" ({ cls := "JarMinutesModel", name := "copy", desc := "(IIIII)I" } : Jvm.MethodName) ({ cls := "JarMinutesModel", name := "copy", desc := "(IIIII)I" } : Jvm.MethodName)) ∈ fm_all := fm_m 1003 (by decide +kernel) rfl
theorem fw_1004 : (Jvm.Cond.code ({ cls := "JarMinutesModel", name := "copy", desc := "(IIIII)I" } : Jvm.MethodName) prog_9_method_67_code (7 : Nat) (Option.some Jvm.ClassFile.FieldType.int)) ∈ fm_all := fm_m 1004 (by decide +kernel) rfl
theorem fw_1005 : (Jvm.Cond.constantLong "JarMinutesLaw" (48 : Nat) (4294967295 : Int64)) ∈ fm_all := fm_m 1005 (by decide +kernel) rfl
theorem fs_0 : Cond.selects (⟨"JarMinutes$Person", "cookWorth", "(I)I"⟩ : MethodName).cls ⟨"JarMinutes$Person", "cookWorth", "(I)I"⟩ ⟨"JarMinutes$Person", "cookWorth", "(I)I"⟩ ∈ fm_all := fm_sel (q := (⟨"JarMinutes$Person", "cookWorth", "(I)I"⟩, 4)) 0 (by decide +kernel)
theorem fs_1 : Cond.selects (⟨"JarMinutes$Tape", "readPerson", "(LJarMinutes$Person;)I"⟩ : MethodName).cls ⟨"JarMinutes$Tape", "readPerson", "(LJarMinutes$Person;)I"⟩ ⟨"JarMinutes$Tape", "readPerson", "(LJarMinutes$Person;)I"⟩ ∈ fm_all := fm_sel (q := (⟨"JarMinutes$Tape", "readPerson", "(LJarMinutes$Person;)I"⟩, 6)) 1 (by decide +kernel)
theorem fs_2 : Cond.selects (⟨"JarMinutes$Tape", "next", "()I"⟩ : MethodName).cls ⟨"JarMinutes$Tape", "next", "()I"⟩ ⟨"JarMinutes$Tape", "next", "()I"⟩ ∈ fm_all := fm_sel (q := (⟨"JarMinutes$Tape", "next", "()I"⟩, 6)) 2 (by decide +kernel)
theorem fs_3 : Cond.selects (⟨"JarMinutes$Tape", "faultHere", "()I"⟩ : MethodName).cls ⟨"JarMinutes$Tape", "faultHere", "()I"⟩ ⟨"JarMinutes$Tape", "faultHere", "()I"⟩ ∈ fm_all := fm_sel (q := (⟨"JarMinutes$Tape", "faultHere", "()I"⟩, 6)) 3 (by decide +kernel)
theorem fs_4 : Cond.selects (⟨"JarMinutes$Tape", "readNumber", "(I)I"⟩ : MethodName).cls ⟨"JarMinutes$Tape", "readNumber", "(I)I"⟩ ⟨"JarMinutes$Tape", "readNumber", "(I)I"⟩ ∈ fm_all := fm_sel (q := (⟨"JarMinutes$Tape", "readNumber", "(I)I"⟩, 6)) 4 (by decide +kernel)
theorem fs_5 : Cond.selects (⟨"JarMinutes$Tape", "passes", "(C)Z"⟩ : MethodName).cls ⟨"JarMinutes$Tape", "passes", "(C)Z"⟩ ⟨"JarMinutes$Tape", "passes", "(C)Z"⟩ ∈ fm_all := fm_sel (q := (⟨"JarMinutes$Tape", "passes", "(C)Z"⟩, 6)) 5 (by decide +kernel)
theorem fs_6 : Cond.selects (⟨"JarMinutes$Tape", "readHourNumber", "(I)I"⟩ : MethodName).cls ⟨"JarMinutes$Tape", "readHourNumber", "(I)I"⟩ ⟨"JarMinutes$Tape", "readHourNumber", "(I)I"⟩ ∈ fm_all := fm_sel (q := (⟨"JarMinutes$Tape", "readHourNumber", "(I)I"⟩, 6)) 6 (by decide +kernel)
theorem fs_7 : Cond.selects (⟨"JarMinutes$Planner", "mostFrom", "(II)I"⟩ : MethodName).cls ⟨"JarMinutes$Planner", "mostFrom", "(II)I"⟩ ⟨"JarMinutes$Planner", "mostFrom", "(II)I"⟩ ∈ fm_all := fm_sel (q := (⟨"JarMinutes$Planner", "mostFrom", "(II)I"⟩, 3)) 7 (by decide +kernel)
theorem fs_8 : Cond.selects (⟨"JarMinutes$Planner", "mostBy", "(III)I"⟩ : MethodName).cls ⟨"JarMinutes$Planner", "mostBy", "(III)I"⟩ ⟨"JarMinutes$Planner", "mostBy", "(III)I"⟩ ∈ fm_all := fm_sel (q := (⟨"JarMinutes$Planner", "mostBy", "(III)I"⟩, 3)) 8 (by decide +kernel)
theorem fs_9 : Cond.selects (⟨"JarMinutes$Planner", "firstBest", "(II)I"⟩ : MethodName).cls ⟨"JarMinutes$Planner", "firstBest", "(II)I"⟩ ⟨"JarMinutes$Planner", "firstBest", "(II)I"⟩ ∈ fm_all := fm_sel (q := (⟨"JarMinutes$Planner", "firstBest", "(II)I"⟩, 3)) 9 (by decide +kernel)
theorem fs_10 : Cond.selects (⟨"JarMinutes", "clocksRefusal", "(IIII)I"⟩ : MethodName).cls ⟨"JarMinutes", "clocksRefusal", "(IIII)I"⟩ ⟨"JarMinutes", "clocksRefusal", "(IIII)I"⟩ ∈ fm_all := fm_sel (q := (⟨"JarMinutes", "clocksRefusal", "(IIII)I"⟩, 8)) 10 (by decide +kernel)
theorem fs_11 : Cond.selects (⟨"JarMinutes", "rowRefusal", "(IIII)I"⟩ : MethodName).cls ⟨"JarMinutes", "rowRefusal", "(IIII)I"⟩ ⟨"JarMinutes", "rowRefusal", "(IIII)I"⟩ ∈ fm_all := fm_sel (q := (⟨"JarMinutes", "rowRefusal", "(IIII)I"⟩, 8)) 11 (by decide +kernel)
theorem fs_12 : Cond.selects (⟨"JarMinutes$ClockRows", "countWith", "(II)J"⟩ : MethodName).cls ⟨"JarMinutes$ClockRows", "countWith", "(II)J"⟩ ⟨"JarMinutes$ClockRows", "countWith", "(II)J"⟩ ∈ fm_all := fm_sel (q := (⟨"JarMinutes$ClockRows", "countWith", "(II)J"⟩, 2)) 12 (by decide +kernel)
theorem fs_13 : Cond.selects (⟨"JarMinutes$ClockRows", "keepTold", "(I)V"⟩ : MethodName).cls ⟨"JarMinutes$ClockRows", "keepTold", "(I)V"⟩ ⟨"JarMinutes$ClockRows", "keepTold", "(I)V"⟩ ∈ fm_all := fm_sel (q := (⟨"JarMinutes$ClockRows", "keepTold", "(I)V"⟩, 2)) 13 (by decide +kernel)
theorem fs_14 : Cond.selects (⟨"JarMinutes$ClockRows", "passHour", "(II)V"⟩ : MethodName).cls ⟨"JarMinutes$ClockRows", "passHour", "(II)V"⟩ ⟨"JarMinutes$ClockRows", "passHour", "(II)V"⟩ ∈ fm_all := fm_sel (q := (⟨"JarMinutes$ClockRows", "passHour", "(II)V"⟩, 2)) 14 (by decide +kernel)
theorem fs_15 : Cond.selects (⟨"JarMinutesModel", "add", "(IIII)V"⟩ : MethodName).cls ⟨"JarMinutesModel", "add", "(IIII)V"⟩ ⟨"JarMinutesModel", "add", "(IIII)V"⟩ ∈ fm_all := fm_sel (q := (⟨"JarMinutesModel", "add", "(IIII)V"⟩, 33)) 15 (by decide +kernel)
theorem fs_16 : Cond.selects (⟨"JarMinutesModel", "isOne", "(I)Z"⟩ : MethodName).cls ⟨"JarMinutesModel", "isOne", "(I)Z"⟩ ⟨"JarMinutesModel", "isOne", "(I)Z"⟩ ∈ fm_all := fm_sel (q := (⟨"JarMinutesModel", "isOne", "(I)Z"⟩, 33)) 16 (by decide +kernel)
theorem fs_17 : Cond.selects (⟨"JarMinutesModel", "worthOf", "(III)I"⟩ : MethodName).cls ⟨"JarMinutesModel", "worthOf", "(III)I"⟩ ⟨"JarMinutesModel", "worthOf", "(III)I"⟩ ∈ fm_all := fm_sel (q := (⟨"JarMinutesModel", "worthOf", "(III)I"⟩, 33)) 17 (by decide +kernel)
theorem fs_18 : Cond.selects (⟨"JarMinutesModel", "readTown", "()Z"⟩ : MethodName).cls ⟨"JarMinutesModel", "readTown", "()Z"⟩ ⟨"JarMinutesModel", "readTown", "()Z"⟩ ∈ fm_all := fm_sel (q := (⟨"JarMinutesModel", "readTown", "()Z"⟩, 33)) 18 (by decide +kernel)
theorem fs_19 : Cond.selects (⟨"JarMinutesModel", "readOne", "(I)Z"⟩ : MethodName).cls ⟨"JarMinutesModel", "readOne", "(I)Z"⟩ ⟨"JarMinutesModel", "readOne", "(I)Z"⟩ ∈ fm_all := fm_sel (q := (⟨"JarMinutesModel", "readOne", "(I)Z"⟩, 33)) 19 (by decide +kernel)
theorem fs_20 : Cond.selects (⟨"JarMinutesModel", "nextByte", "()I"⟩ : MethodName).cls ⟨"JarMinutesModel", "nextByte", "()I"⟩ ⟨"JarMinutesModel", "nextByte", "()I"⟩ ∈ fm_all := fm_sel (q := (⟨"JarMinutesModel", "nextByte", "()I"⟩, 33)) 20 (by decide +kernel)
theorem fs_21 : Cond.selects (⟨"JarMinutesModel", "readNumber", "(I)I"⟩ : MethodName).cls ⟨"JarMinutesModel", "readNumber", "(I)I"⟩ ⟨"JarMinutesModel", "readNumber", "(I)I"⟩ ∈ fm_all := fm_sel (q := (⟨"JarMinutesModel", "readNumber", "(I)I"⟩, 33)) 21 (by decide +kernel)
theorem fs_22 : Cond.selects (⟨"JarMinutesModel", "takes", "(I)Z"⟩ : MethodName).cls ⟨"JarMinutesModel", "takes", "(I)Z"⟩ ⟨"JarMinutesModel", "takes", "(I)Z"⟩ ∈ fm_all := fm_sel (q := (⟨"JarMinutesModel", "takes", "(I)Z"⟩, 33)) 22 (by decide +kernel)
theorem fs_23 : Cond.selects (⟨"JarMinutesModel", "end", "(Z)I"⟩ : MethodName).cls ⟨"JarMinutesModel", "end", "(Z)I"⟩ ⟨"JarMinutesModel", "end", "(Z)I"⟩ ∈ fm_all := fm_sel (q := (⟨"JarMinutesModel", "end", "(Z)I"⟩, 33)) 23 (by decide +kernel)
theorem fs_24 : Cond.selects (⟨"JarMinutesModel", "readPlan", "()Z"⟩ : MethodName).cls ⟨"JarMinutesModel", "readPlan", "()Z"⟩ ⟨"JarMinutesModel", "readPlan", "()Z"⟩ ∈ fm_all := fm_sel (q := (⟨"JarMinutesModel", "readPlan", "()Z"⟩, 33)) 24 (by decide +kernel)
theorem fs_25 : Cond.selects (⟨"JarMinutesModel", "readHour", "()Z"⟩ : MethodName).cls ⟨"JarMinutesModel", "readHour", "()Z"⟩ ⟨"JarMinutesModel", "readHour", "()Z"⟩ ∈ fm_all := fm_sel (q := (⟨"JarMinutesModel", "readHour", "()Z"⟩, 33)) 25 (by decide +kernel)
theorem fs_26 : Cond.selects (⟨"JarMinutesModel", "gainOf", "([I)I"⟩ : MethodName).cls ⟨"JarMinutesModel", "gainOf", "([I)I"⟩ ⟨"JarMinutesModel", "gainOf", "([I)I"⟩ ∈ fm_all := fm_sel (q := (⟨"JarMinutesModel", "gainOf", "([I)I"⟩, 33)) 26 (by decide +kernel)
theorem fs_27 : Cond.selects (⟨"JarMinutesModel", "findGains", "()V"⟩ : MethodName).cls ⟨"JarMinutesModel", "findGains", "()V"⟩ ⟨"JarMinutesModel", "findGains", "()V"⟩ ∈ fm_all := fm_sel (q := (⟨"JarMinutesModel", "findGains", "()V"⟩, 33)) 27 (by decide +kernel)
theorem fs_28 : Cond.selects (⟨"JarMinutesModel", "wrongOf", "([I)I"⟩ : MethodName).cls ⟨"JarMinutesModel", "wrongOf", "([I)I"⟩ ⟨"JarMinutesModel", "wrongOf", "([I)I"⟩ ∈ fm_all := fm_sel (q := (⟨"JarMinutesModel", "wrongOf", "([I)I"⟩, 33)) 28 (by decide +kernel)
theorem fs_29 : Cond.selects (⟨"JarMinutesModel", "areCaught", "(II)Z"⟩ : MethodName).cls ⟨"JarMinutesModel", "areCaught", "(II)Z"⟩ ⟨"JarMinutesModel", "areCaught", "(II)Z"⟩ ∈ fm_all := fm_sel (q := (⟨"JarMinutesModel", "areCaught", "(II)Z"⟩, 33)) 29 (by decide +kernel)
theorem fs_30 : Cond.selects (⟨"JarMinutesModel", "dayBy", "([I)I"⟩ : MethodName).cls ⟨"JarMinutesModel", "dayBy", "([I)I"⟩ ⟨"JarMinutesModel", "dayBy", "([I)I"⟩ ∈ fm_all := fm_sel (q := (⟨"JarMinutesModel", "dayBy", "([I)I"⟩, 33)) 30 (by decide +kernel)
theorem fs_31 : Cond.selects (⟨"JarMinutesModel", "findBest", "(Z)I"⟩ : MethodName).cls ⟨"JarMinutesModel", "findBest", "(Z)I"⟩ ⟨"JarMinutesModel", "findBest", "(Z)I"⟩ ∈ fm_all := fm_sel (q := (⟨"JarMinutesModel", "findBest", "(Z)I"⟩, 33)) 31 (by decide +kernel)
theorem fs_32 : Cond.selects (⟨"JarMinutesModel", "choiceOf", "(I)I"⟩ : MethodName).cls ⟨"JarMinutesModel", "choiceOf", "(I)I"⟩ ⟨"JarMinutesModel", "choiceOf", "(I)I"⟩ ∈ fm_all := fm_sel (q := (⟨"JarMinutesModel", "choiceOf", "(I)I"⟩, 33)) 32 (by decide +kernel)
theorem fs_33 : Cond.selects (⟨"JarMinutesModel", "drawRow", "()V"⟩ : MethodName).cls ⟨"JarMinutesModel", "drawRow", "()V"⟩ ⟨"JarMinutesModel", "drawRow", "()V"⟩ ∈ fm_all := fm_sel (q := (⟨"JarMinutesModel", "drawRow", "()V"⟩, 33)) 33 (by decide +kernel)
theorem fs_34 : Cond.selects (⟨"JarMinutesModel", "carried", "(IIZ)I"⟩ : MethodName).cls ⟨"JarMinutesModel", "carried", "(IIZ)I"⟩ ⟨"JarMinutesModel", "carried", "(IIZ)I"⟩ ∈ fm_all := fm_sel (q := (⟨"JarMinutesModel", "carried", "(IIZ)I"⟩, 33)) 34 (by decide +kernel)
theorem fs_35 : Cond.selects (⟨"JarMinutesModel", "lacksRow", "(IIII)I"⟩ : MethodName).cls ⟨"JarMinutesModel", "lacksRow", "(IIII)I"⟩ ⟨"JarMinutesModel", "lacksRow", "(IIII)I"⟩ ∈ fm_all := fm_sel (q := (⟨"JarMinutesModel", "lacksRow", "(IIII)I"⟩, 33)) 35 (by decide +kernel)
theorem fs_36 : Cond.selects (⟨"JarMinutesModel", "lacksClocks", "(IIII)I"⟩ : MethodName).cls ⟨"JarMinutesModel", "lacksClocks", "(IIII)I"⟩ ⟨"JarMinutesModel", "lacksClocks", "(IIII)I"⟩ ∈ fm_all := fm_sel (q := (⟨"JarMinutesModel", "lacksClocks", "(IIII)I"⟩, 33)) 36 (by decide +kernel)
theorem fs_37 : Cond.selects (⟨"JarMinutesModel", "waysBy", "(IIII)J"⟩ : MethodName).cls ⟨"JarMinutesModel", "waysBy", "(IIII)J"⟩ ⟨"JarMinutesModel", "waysBy", "(IIII)J"⟩ ∈ fm_all := fm_sel (q := (⟨"JarMinutesModel", "waysBy", "(IIII)J"⟩, 33)) 37 (by decide +kernel)
theorem fs_38 : Cond.selects (⟨"JarMinutesModel", "isTold", "(IIII)Z"⟩ : MethodName).cls ⟨"JarMinutesModel", "isTold", "(IIII)Z"⟩ ⟨"JarMinutesModel", "isTold", "(IIII)Z"⟩ ∈ fm_all := fm_sel (q := (⟨"JarMinutesModel", "isTold", "(IIII)Z"⟩, 33)) 38 (by decide +kernel)
theorem fm_in0 : ∀ w ∈ u_ws RX0 TX0 2, w ∈ fm_all := fm_pos _ [169, 171] (by decide +kernel) (by decide +kernel)
theorem fm_in1 : ∀ w ∈ u_ws RX1 TX1 4, w ∈ fm_all := fm_pos _ [43, 45, 47, 49] (by decide +kernel) (by decide +kernel)
theorem fm_in2 : ∀ w ∈ u_ws RX2 TX2 3, w ∈ fm_all := fm_pos _ [154, 156, 158] (by decide +kernel) (by decide +kernel)
theorem fm_in3 : ∀ w ∈ u_ws RX3 TX3 3, w ∈ fm_all := fm_pos _ [189, 191, 193] (by decide +kernel) (by decide +kernel)
theorem fm_in4 : ∀ w ∈ u_ws RX4 TX4 6, w ∈ fm_all := fm_pos _ [130, 132, 134, 136, 138, 140] (by decide +kernel) (by decide +kernel)
theorem fm_in5 : ∀ w ∈ u_ws RX5 TX5 14, w ∈ fm_all := fm_pos _ [84, 86, 88, 90, 92, 94, 96, 98, 100, 102, 104, 106, 108, 110] (by decide +kernel) (by decide +kernel)
theorem fm_in6 : ∀ w ∈ u_ws RX6 TX6 8, w ∈ fm_all := fm_pos _ [204, 206, 208, 210, 212, 214, 216, 218] (by decide +kernel) (by decide +kernel)
theorem fm_in7 : ∀ w ∈ u_ws RX7 TX7 33, w ∈ fm_all := fm_pos _ [653, 655, 657, 659, 661, 663, 665, 667, 669, 671, 673, 675, 677, 679, 681, 683, 685, 687, 689, 691, 693, 695, 697, 699, 701, 703, 705, 707, 709, 711, 713, 715, 717] (by decide +kernel) (by decide +kernel)
end
section
/-! ===== THE FLAT MEMORY: every cell that law, class and reference make lies at b, b + 1, b + 2 .. in the order of its making; M k i is the i-th int of cell k (a field, an element), L k i its i-th long; 'lay' says of each cell what it is (kind, class or length, fields or targets): kind 0 an object, 1 int[], 2 long[], 3 char[], 4 Person[], 5 Sheet[]; a field 0 is an int, 1 null, t + 2 the cell t; a target 0 is null, t + 1 the cell t ===== -/
abbrev fm_E : Type := Nat × Nat × List Nat
def fm_row (M : Nat → Nat → Int32) (k : Nat) (f : Nat → Int32) : Nat → Nat → Int32 := fun k' => if k' = k then f else M k'
def fm_rowL (M : Nat → Nat → Int64) (k : Nat) (f : Nat → Int64) : Nat → Nat → Int64 := fun k' => if k' = k then f else M k'
abbrev fm_up (M : Nat → Nat → Int32) (k i : Nat) (v : Int32) : Nat → Nat → Int32 := fm_row M k (upd (M k) i v)
abbrev fm_upL (M : Nat → Nat → Int64) (k i : Nat) (v : Int64) : Nat → Nat → Int64 := fm_rowL M k (vp_updL (M k) i v)
theorem fm_row_s {M : Nat → Nat → Int32} {k : Nat} {f : Nat → Int32} : fm_row M k f k = f := by simp [fm_row]
theorem fm_row_n {M : Nat → Nat → Int32} {k j : Nat} {f : Nat → Int32} (h : j ≠ k) : fm_row M k f j = M j := by simp [fm_row, h]
theorem fm_rowL_s {M : Nat → Nat → Int64} {k : Nat} {f : Nat → Int64} : fm_rowL M k f k = f := by simp [fm_rowL]
theorem fm_rowL_n {M : Nat → Nat → Int64} {k j : Nat} {f : Nat → Int64} (h : j ≠ k) : fm_rowL M k f j = M j := by simp [fm_rowL, h]
def fm_fv (b : Nat) (M : Nat → Nat → Int32) (k i z : Nat) : Value := match z with
  | 0 => .int (M k i)
  | 1 => .null
  | t + 2 => .ref (b + t)
def fm_fs (b : Nat) (M : Nat → Nat → Int32) (k i : Nat) (zs : List Nat) : List Value := match zs with
  | [] => []
  | z :: r => fm_fv b M k i z :: fm_fs b M k (i + 1) r
def fm_tg (b : Nat) (zs : List Nat) (j : Nat) : Option Nat := match zs.getD j 0 with
  | 0 => none
  | t + 1 => some (b + t)
def fm_cell (cA : Nat → ClassId) (b : Nat) (M : Nat → Nat → Int32) (L : Nat → Nat → Int64) (k : Nat) (e : fm_E) : va_E := match e with
  | (0, n, zs) => .inr (n, fm_fs b M k 0 zs)
  | (1, n, _) => .inl (cA 1, n, .inl (M k))
  | (2, n, _) => .inl (cA 2, n, .inr (.inl (L k)))
  | (3, n, _) => .inl (cA 3, n, .inl (M k))
  | (c + 4, n, zs) => .inl (cA (c + 4), n, .inr (.inr (.inr (.inr (fm_tg b zs)))))
def fm_w (cA : Nat → ClassId) (b : Nat) (M : Nat → Nat → Int32) (L : Nat → Nat → Int64) (k : Nat) (lay : List fm_E) : va_W := match lay with
  | [] => []
  | e :: r => (b + k, fm_cell cA b M L k e) :: fm_w cA b M L (k + 1) r
theorem fm_w_get (cA : Nat → ClassId) (b : Nat) (M : Nat → Nat → Int32) (L : Nat → Nat → Int64) : ∀ (lay : List fm_E) (k0 k : Nat), (fm_w cA b M L k0 lay)[k]? = (lay[k]?).map (fun e => (b + (k0 + k), fm_cell cA b M L (k0 + k) e))
  | [], _, _ => by simp [fm_w]
  | e :: r, k0, 0 => by simp [fm_w]
  | e :: r, k0, k + 1 => by
    have h := fm_w_get cA b M L r (k0 + 1) k
    rw [show k0 + 1 + k = k0 + (k + 1) by omega] at h
    simp only [fm_w, List.getElem?_cons_succ, h]
theorem fm_at {cA : Nat → ClassId} {b : Nat} {M : Nat → Nat → Int32} {L : Nat → Nat → Int64} {lay : List fm_E} {k : Nat} {e : fm_E} (h : lay[k]? = some e) : (fm_w cA b M L 0 lay)[k]? = some (b + k, fm_cell cA b M L k e) := by
  rw [fm_w_get, h]; simp
theorem fm_len (cA : Nat → ClassId) (b : Nat) (M : Nat → Nat → Int32) (L : Nat → Nat → Int64) : ∀ (lay : List fm_E) (k0 : Nat), (fm_w cA b M L k0 lay).length = lay.length
  | [], _ => rfl
  | e :: r, k0 => by simp [fm_w, fm_len cA b M L r (k0 + 1)]
/-- two pictures that differ at one cell alone -/
theorem fm_set {cA : Nat → ClassId} {b : Nat} {M M' : Nat → Nat → Int32} {L L' : Nat → Nat → Int64} {lay : List fm_E} {k : Nat} {e : fm_E} {x : va_E} (hk : k < lay.length) (he : fm_cell cA b M' L' k e = x) (ho : ∀ j, j ≠ k → ∀ e', lay[j]? = some e' → fm_cell cA b M' L' j e' = fm_cell cA b M L j e') : (fm_w cA b M L 0 lay).set k (b + k, x) = fm_w cA b M' L' 0 (lay.set k e) := by
  apply List.ext_getElem?
  intro j
  rw [fm_w_get, Nat.zero_add]
  by_cases hj : j = k
  · subst hj
    rw [List.getElem?_set_self (by rw [fm_len]; exact hk), List.getElem?_set_self hk]
    simp [he]
  · rw [List.getElem?_set_ne (Ne.symm hj), List.getElem?_set_ne (Ne.symm hj), fm_w_get, Nat.zero_add]
    cases h : lay[j]? with
    | none => rfl
    | some e' => simp [ho j hj e' h]
theorem fm_set' {cA : Nat → ClassId} {b : Nat} {M M' : Nat → Nat → Int32} {L L' : Nat → Nat → Int64} {lay : List fm_E} {k : Nat} {e : fm_E} {x : va_E} (hk : lay[k]? = some e) (he : fm_cell cA b M' L' k e = x) (ho : ∀ j, j ≠ k → ∀ e', lay[j]? = some e' → fm_cell cA b M' L' j e' = fm_cell cA b M L j e') : (fm_w cA b M L 0 lay).set k (b + k, x) = fm_w cA b M' L' 0 lay := by
  have hl := (List.getElem?_eq_some_iff.mp hk).1
  rw [fm_set hl he ho]
  congr 1
  apply List.ext_getElem?
  intro j
  by_cases hj : j = k
  · subst hj; rw [List.getElem?_set_self hl, hk]
  · rw [List.getElem?_set_ne (Ne.symm hj)]
theorem fm_fs_cong {b : Nat} {M M' : Nat → Nat → Int32} {k : Nat} (h : M' k = M k) : ∀ (zs : List Nat) (i : Nat), fm_fs b M' k i zs = fm_fs b M k i zs
  | [], _ => rfl
  | z :: r, i => by
    simp only [fm_fs, fm_fs_cong h r (i + 1)]
    congr 1
    match z with
    | 0 => simp [fm_fv, h]
    | 1 => rfl
    | t + 2 => rfl
theorem fm_cell_cong {cA : Nat → ClassId} {b : Nat} {M M' : Nat → Nat → Int32} {L L' : Nat → Nat → Int64} {k : Nat} (h : M' k = M k) (hL : L' k = L k) (e : fm_E) : fm_cell cA b M' L' k e = fm_cell cA b M L k e := by
  match e with
  | (0, n, zs) => simp only [fm_cell, fm_fs_cong h]
  | (1, n, _) => simp only [fm_cell, h]
  | (2, n, _) => simp only [fm_cell, hL]
  | (3, n, _) => simp only [fm_cell, h]
  | (c + 4, n, zs) => rfl
theorem fm_fs_get {b : Nat} {M : Nat → Nat → Int32} {k : Nat} : ∀ (zs : List Nat) (i0 i : Nat), (fm_fs b M k i0 zs)[i]? = (zs[i]?).map (fm_fv b M k (i0 + i))
  | [], _, _ => by simp [fm_fs]
  | z :: r, i0, 0 => by simp [fm_fs]
  | z :: r, i0, i + 1 => by
    have h := fm_fs_get (b := b) (M := M) (k := k) r (i0 + 1) i
    rw [show i0 + 1 + i = i0 + (i + 1) by omega] at h
    simp only [fm_fs, List.getElem?_cons_succ, h]
theorem fm_fs_len {b : Nat} {M : Nat → Nat → Int32} {k : Nat} : ∀ (zs : List Nat) (i0 : Nat), (fm_fs b M k i0 zs).length = zs.length
  | [], _ => rfl
  | z :: r, i0 => by simp [fm_fs, fm_fs_len r (i0 + 1)]
theorem fm_fv_up {b : Nat} {M : Nat → Nat → Int32} {k i j z : Nat} {v : Int32} (h : j ≠ i) : fm_fv b (fm_up M k i v) k j z = fm_fv b M k j z := by
  match z with
  | 0 => simp [fm_fv, fm_up, fm_row, upd, h]
  | 1 => rfl
  | t + 2 => rfl
theorem fm_fs_int {b : Nat} {M : Nat → Nat → Int32} {k i : Nat} {zs : List Nat} {v : Int32} (hz : zs[i]? = some 0) : (fm_fs b M k 0 zs).set i (.int v) = fm_fs b (fm_up M k i v) k 0 zs := by
  have hl : i < (fm_fs b M k 0 zs).length := by rw [fm_fs_len]; exact (List.getElem?_eq_some_iff.mp hz).1
  apply List.ext_getElem?
  intro j
  by_cases hj : j = i
  · subst hj
    rw [List.getElem?_set_self hl, fm_fs_get, hz]
    simp [fm_fv, fm_row, upd]
  · rw [List.getElem?_set_ne (Ne.symm hj), fm_fs_get, fm_fs_get, Nat.zero_add]
    cases zs[j]? with
    | none => rfl
    | some z => exact congrArg some (fm_fv_up hj).symm
theorem fm_fs_ref {b : Nat} {M : Nat → Nat → Int32} {k i t : Nat} {zs : List Nat} (hz : i < zs.length) : (fm_fs b M k 0 zs).set i (.ref (b + t)) = fm_fs b M k 0 (zs.set i (t + 2)) := by
  have hl : i < (fm_fs b M k 0 zs).length := by rw [fm_fs_len]; exact hz
  apply List.ext_getElem?
  intro j
  by_cases hj : j = i
  · subst hj
    rw [List.getElem?_set_self hl, fm_fs_get, List.getElem?_set_self hz]
    simp [fm_fv]
  · rw [List.getElem?_set_ne (Ne.symm hj), fm_fs_get, fm_fs_get, List.getElem?_set_ne (Ne.symm hj)]
theorem fm_tg_set {b t : Nat} {zs : List Nat} {i : Nat} (hi : i < zs.length) : va_up (fm_tg b zs) i (some (b + t)) = fm_tg b (zs.set i (t + 1)) := by
  funext j
  by_cases hj : j = i
  · subst hj
    simp [va_up, fm_tg, hi, List.getD]
  · simp [va_up, fm_tg, hj, List.getD, List.getElem?_set, Ne.symm hj]
/-- the cells -/
def fm_P (D : va_G) (cA : Nat → ClassId) (b : Nat) (lay : List fm_E) (M : Nat → Nat → Int32) (L : Nat → Nat → Int64) (H : Heap) : Prop := va_P D vwCl (fm_w cA b M L 0 lay) H
theorem fm_D {cA : Nat → ClassId} {b : Nat} {M : Nat → Nat → Int32} {L : Nat → Nat → Int64} {lay : List fm_E} : va_D (fun q => b ≤ q) (fm_w cA b M L 0 lay) := by
  refine ⟨fun i j p q hi hj h => ?_, fun k q hk => ?_⟩
  · rw [fm_w_get] at hi hj
    cases h1 : lay[i]? with
    | none => rw [h1] at hi; cases hi
    | some e =>
      cases h2 : lay[j]? with
      | none => rw [h2] at hj; cases hj
      | some e' =>
        rw [h1] at hi; rw [h2] at hj
        simp at hi hj
        subst hi; subst hj
        simp at h
        exact h
  · rw [fm_w_get] at hk
    cases h1 : lay[k]? with
    | none => rw [h1] at hk; cases hk
    | some e =>
      rw [h1] at hk
      simp at hk
      subst hk
      exact Nat.le_add_right _ _
/-- the calls of nest mates -/
def fm_nests : List (String × Nat × MethodName × String) := [(RX5, 58, yX1_init, "JarMinutes"), (RX4, 35, yX1_init, "JarMinutes"), (RX6, 32, yX2_init, "JarMinutes"), (RX6, 39, yX0_init, "JarMinutes"), (RX6, 54, yX3_init, "JarMinutes"), (RX1, 28, yX6_apart, "JarMinutes"), (RX5, 95, yX6_lateAt, "JarMinutes")]
abbrev fm_tys (cA : Nat → ClassId) : List (ClassId × FieldType) := [(cA 1, .int), (cA 2, .long), (cA 3, .char), (cA 4, .object RX1), (cA 5, .object RX3)]
def fm_K (D : va_G) (cA : Nat → ClassId) (U : State) : Prop := va_K D vwCl (fm_tys cA) U ∧ (∀ q ∈ fm_nests, va_Nw (.methodLinkNest q.1 q.2.1 q.2.2.1 q.2.2.2) U) ∧ va_AO RX1 U ∧ va_AO RX3 U
theorem fm_K.warm {D : va_G} {cA : Nat → ClassId} {s U : State} (h : fm_K D cA s) (hW : s.WarmedH U.vm) : fm_K D cA U := ⟨va_K.moved hW.alike h.1, fun q hq => va_Nw.warmM hW (h.2.1 q hq), va_AO.moved hW.alike h.2.2.1, va_AO.moved hW.alike h.2.2.2⟩
theorem fm_K.calling {D : va_G} {cA : Nat → ClassId} {u : State} {g : JFrame} {mk : MethodId} {a : Array Value} (h : fm_K D cA u) : fm_K D cA (u.calling g mk a) := ⟨va_K.moved (u := u) (U := u.calling g mk a) (Vm.Alike.refl u.vm) h.1, fun q hq => va_Nw.same (by rfl) rfl (h.2.1 q hq), va_AO.moved (u := u) (U := u.calling g mk a) (Vm.Alike.refl u.vm) h.2.2.1, va_AO.moved (u := u) (U := u.calling g mk a) (Vm.Alike.refl u.vm) h.2.2.2⟩
/-- a method's end: the answer and the new memory satisfy 'post'; nothing below b has moved -/
def fm_Q (D : va_G) (cA : Nat → ClassId) (b : Nat) (lay : List fm_E) (post : Option Value → (Nat → Nat → Int32) → (Nat → Nat → Int64) → Prop) : Array Value → State → Outcome → State → Prop := fun _ st oc t => (∃ (v : Option Value) (M : Nat → Nat → Int32) (L : Nat → Nat → Int64), oc = .returned v ∧ post v M L ∧ fm_P D cA b lay M L t.heap) ∧ va_F (fun q => b ≤ q) st t
abbrev fm_rm (fr lo mc ms : Nat) : Room := { frames := fr, cells := mc, slots := ms, locals := lo }
abbrev fm_ws (y : MethodName) (bytes : ByteArray) (maxL : Nat) (ret : Option FieldType) : List Cond := .code y bytes maxL ret :: fm_all
/-- A METHOD'S CONTRACT: from memory M, L of layout lay it comes, with arguments as, to memory and answer of 'post', of layout lay' -/
def fm_Met (l : Launch) (D : va_G) (cA : Nat → ClassId) (b : Nat) (y : MethodName) (bytes : ByteArray) (maxL : Nat) (ret : Option FieldType) (fr lo mc ms : Nat) (as : List Value) (lay : List fm_E) (M : Nat → Nat → Int32) (L : Nat → Nat → Int64) (lay' : List fm_E) (post : Option Value → (Nat → Nat → Int32) → (Nat → Nat → Int64) → Prop) : Prop :=
  Met l y (fm_ws y bytes maxL ret) (fm_rm fr lo mc ms) (va_Pc as (fun U => fm_P D cA b lay M L U.heap ∧ fm_K D cA U ∧ U.heap.size = b + lay.length)) (fm_Q D cA b lay' post) mc ms (fun q => b ≤ q)
/-- what stands fast within a method -/
def fm_C (p : Program) (s : State) (m : MethodId) (args : Array Value) (meth : Method) (c : Code) (D : va_G) (cA : Nat → ClassId) (b : Nat) (cc : ByteArray) (nL : Nat) (own : String) (ret : Option FieldType) (n0 : Nat) : Prop := CallFix p m c cc nL s args fm_all own ∧ fm_K D cA s ∧ s.heap.size = b + n0 ∧ meth.sig.returnType = ret ∧ meth.locks = false
/-- THE GOAL at an instruction: locals lv, stack st, memory M, L of layout lay -/
def fm_G (p : Program) (l : Launch) (e : Env) (R : Room) (s : State) (m : MethodId) (args : Array Value) (below : List Frame) (meth : Method) (c : Code) (D : va_G) (cA : Nat → ClassId) (b nL : Nat) (Q : State → Prop) (lay : List fm_E) (M : Nat → Nat → Int32) (L : Nat → Nat → Int64) (cells slots pc : Nat) (lv : List (Nat × Value)) (st : List Value) : Prop :=
  ∀ (H : Heap) (locs : List Loc) (ls : Array Slot), fm_P D cA b lay M L H → va_S (fun q => b ≤ q) s.heap H locs → lv_has ls nL lv → W p l e R s m args below meth c H locs cells slots Q (F0 m pc ls st)
theorem fm_start {l : Launch} {D : va_G} {cA : Nat → ClassId} {b : Nat} {y : MethodName} {bytes : ByteArray} {maxL : Nat} {ret : Option FieldType} {fr lo mc ms : Nat} {as : List Value} {lay lay' : List fm_E} {M : Nat → Nat → Int32} {L : Nat → Nat → Int64} {post : Option Value → (Nat → Nat → Int32) → (Nat → Nat → Int64) → Prop} (own : String) (ho : y.cls = own) (hy : plainName y.cls = true) (hlen : (lg_sl as).length ≤ maxL)
    (body : ∀ (p : Program) (e : Env) (s : State) (m : MethodId) (args : Array Value) (below : List Frame) (meth : Method) (c : Code), fm_C p s m args meth c D cA b bytes maxL own ret lay.length → meth.name = y.name →
      fm_G p l e (fm_rm fr lo mc ms) s m args below meth c D cA b maxL (MQ below (fm_Q D cA b lay' post) args s mc ms (fun q => b ≤ q)) lay M L 0 0 0 (lv_args 0 as) []) :
    fm_Met l D cA b y bytes maxL ret fr lo mc ms as lay M L lay' post := by
  refine Met.ofW (cc := bytes) (maxL := maxL) (ret := ret) hy rfl ?_
  intro p e s m args below meth c s₁ B hml hv
  obtain ⟨rfl, hP, hK, hz⟩ := hv
  have hts := atoms_spec (ws := fm_ws y bytes maxL ret) B.pre
  have hown : s.vm.findClass own = some m.cls := by rw [← ho]; exact findClass_of_methodNamed B.named
  have hC : fm_C p s m as.toArray meth c D cA b bytes maxL own ret lay.length := ⟨⟨B.exec, B.bytes, hml, hown, fun w h => hts w (List.mem_cons_of_mem _ h)⟩, hK, hz, B.returns, B.notSynchronized⟩
  have hG := body p e s m as.toArray below meth c hC (name_of_methodNamed B.named B.method).1
  have hl := lv_entry as (n := maxL) hlen
  rw [lg_entry_eq]
  exact hG s.heap [] _ hP va_S.rf hl
theorem fm_size {p : Program} {l : Launch} {e : Env} {R : Room} {s : State} {m : MethodId} {args : Array Value} {below : List Frame} {meth : Method} {c : Code} {T : State} {locs : List Loc} {cells slots : Nat} {D : va_G} {cA : Nat → ClassId} {b n0 : Nat} {lay : List fm_E} {M : Nat → Nat → Int32} {L : Nat → Nat → Int64} {H : Heap} (X : Stand p l e R s m args below meth c T locs cells slots) (hT : T.heap = H) (hP : fm_P D cA b lay M L H) (hn : s.heap.size = b + n0) (hct : lay.length = n0 + cells) : H.size = b + lay.length := by
  have h1 : H.size ≤ s.heap.size + cells := by rw [← hT]; exact X.same.2.2.1
  have h2 : s.heap.size ≤ H.size := by rw [← hT]; exact X.same.2.1
  rcases Nat.eq_zero_or_pos lay.length with h0 | h0
  · omega
  · have h3 : lay[lay.length - 1]? = some (lay[lay.length - 1]'(by omega)) := List.getElem?_eq_getElem (by omega)
    have h4 := (hP _ _ (fm_at h3)).lt
    simp only at h4
    omega
theorem fm_goodIn {z : MethodName} {cz : ByteArray} {nz : Nat} {rz : Option FieldType} (h : Cond.code z cz nz rz ∈ fm_all) : GoodIn fm_all (fm_ws z cz nz rz) := fun w hw => by
  have hm : w ∈ fm_all := (List.mem_cons.mp hw).elim (fun q => by rw [q]; exact h) id
  exact ⟨hm, good_of_word (fm_good hm)⟩
end
section
/-! ===== THE ROWS OF THE FLAT MEMORY: an instruction, a row ===== -/
section FMR
variable {p : Program} {l : Launch} {e : Env} {R : Room} {s : State} {m : MethodId} {args : Array Value} {below : List Frame} {meth : Method} {c : Code} {Q : State → Prop} {D : va_G} {cA : Nat → ClassId} {b nL : Nat} {lay : List fm_E} {M : Nat → Nat → Int32} {L : Nat → Nat → Int64} {cells slots pc : Nat} {lv : List (Nat × Value)} {st : List Value} {cc : ByteArray} {own : String} {ret : Option FieldType} {n0 : Nat}
theorem g_sub {lv' : List (Nat × Value)} (ks : List Nat) (h : lv_pick lv ks = lv') (kk : fm_G p l e R s m args below meth c D cA b nL Q lay M L cells slots pc lv' st) : fm_G p l e R s m args below meth c D cA b nL Q lay M L cells slots pc lv st := fun H locs ls hP hS hv => kk H locs ls hP hS (lv_sub hv ks h)
theorem g_cong {M2 : Nat → Nat → Int32} {L2 : Nat → Nat → Int64} (h : M = M2) (h2 : L = L2) (kk : fm_G p l e R s m args below meth c D cA b nL Q lay M2 L2 cells slots pc lv st) : fm_G p l e R s m args below meth c D cA b nL Q lay M L cells slots pc lv st := by subst h; subst h2; exact kk
theorem g_widen {k n : Nat} (h1 : cells ≤ k) (h2 : slots ≤ n) (kk : fm_G p l e R s m args below meth c D cA b nL Q lay M L k n pc lv st) : fm_G p l e R s m args below meth c D cA b nL Q lay M L cells slots pc lv st := fun H locs ls hP hS hv => W.widen h1 h2 (kk H locs ls hP hS hv)
theorem g_iconst (hC : fm_C p s m args meth c D cA b cc nL own ret n0) {n : Int} {v : Int32} (hd : decode cc pc = .ok (.iconst n, 1)) (hv : Int32.ofInt n = v) (kk : fm_G p l e R s m args below meth c D cA b nL Q lay M L cells slots (pc + 1) lv (.int v :: st)) : fm_G p l e R s m args below meth c D cA b nL Q lay M L cells slots pc lv st := fun H locs ls hP hS hl => lv_iconst hC.1.1 hC.1.2.1 hd hv (kk H locs ls hP hS hl)
theorem g_bipush (hC : fm_C p s m args meth c D cA b cc nL own ret n0) {n : Int} {v : Int32} (hd : decode cc pc = .ok (.bipush n, 2)) (hv : (Int8.ofInt n).toInt32 = v) (kk : fm_G p l e R s m args below meth c D cA b nL Q lay M L cells slots (pc + 2) lv (.int v :: st)) : fm_G p l e R s m args below meth c D cA b nL Q lay M L cells slots pc lv st := fun H locs ls hP hS hl => lv_bipush hC.1.1 hC.1.2.1 hd hv (kk H locs ls hP hS hl)
theorem g_sipush (hC : fm_C p s m args meth c D cA b cc nL own ret n0) {n : Int} {v : Int32} (hd : decode cc pc = .ok (.sipush n, 3)) (hv : (Int16.ofInt n).toInt32 = v) (kk : fm_G p l e R s m args below meth c D cA b nL Q lay M L cells slots (pc + 3) lv (.int v :: st)) : fm_G p l e R s m args below meth c D cA b nL Q lay M L cells slots pc lv st := fun H locs ls hP hS hl => lv_sipush hC.1.1 hC.1.2.1 hd hv (kk H locs ls hP hS hl)
theorem g_lconst (hC : fm_C p s m args meth c D cA b cc nL own ret n0) {n : Fin 2} {v : Int64} (hd : decode cc pc = .ok (.lconst n, 1)) (hv : Int64.ofNat (n : Nat) = v) (kk : fm_G p l e R s m args below meth c D cA b nL Q lay M L cells slots (pc + 1) lv (.long v :: st)) : fm_G p l e R s m args below meth c D cA b nL Q lay M L cells slots pc lv st := fun H locs ls hP hS hl => lv_lconst hC.1.1 hC.1.2.1 hd hv (kk H locs ls hP hS hl)
theorem g_iload_n (hC : fm_C p s m args meth c D cA b cc nL own ret n0) {k : Fin 4} {i : Nat} {x : Int32} (hd : decode cc pc = .ok (.iload_n k, 1)) (hi : (k : Nat) = i) (j : Nat) (hj : lv[j]? = some (i, .int x)) (kk : fm_G p l e R s m args below meth c D cA b nL Q lay M L cells slots (pc + 1) lv (.int x :: st)) : fm_G p l e R s m args below meth c D cA b nL Q lay M L cells slots pc lv st := fun H locs ls hP hS hl => lv_iload_n hC.1.1 hC.1.2.1 hd hi (lv_at hl j hj) (kk H locs ls hP hS hl)
theorem g_iload (hC : fm_C p s m args meth c D cA b cc nL own ret n0) {i : Nat} {x : Int32} (hd : decode cc pc = .ok (.iload i, 2)) (j : Nat) (hj : lv[j]? = some (i, .int x)) (kk : fm_G p l e R s m args below meth c D cA b nL Q lay M L cells slots (pc + 2) lv (.int x :: st)) : fm_G p l e R s m args below meth c D cA b nL Q lay M L cells slots pc lv st := fun H locs ls hP hS hl => lv_iload hC.1.1 hC.1.2.1 hd (lv_at hl j hj) (kk H locs ls hP hS hl)
theorem g_lload_n (hC : fm_C p s m args meth c D cA b cc nL own ret n0) {k : Fin 4} {i : Nat} {x : Int64} (hd : decode cc pc = .ok (.lload_n k, 1)) (hi : (k : Nat) = i) (j : Nat) (hj : lv[j]? = some (i, .long x)) (kk : fm_G p l e R s m args below meth c D cA b nL Q lay M L cells slots (pc + 1) lv (.long x :: st)) : fm_G p l e R s m args below meth c D cA b nL Q lay M L cells slots pc lv st := fun H locs ls hP hS hl => lv_lload_n hC.1.1 hC.1.2.1 hd hi (lv_at hl j hj) (kk H locs ls hP hS hl)
theorem g_lload (hC : fm_C p s m args meth c D cA b cc nL own ret n0) {i : Nat} {x : Int64} (hd : decode cc pc = .ok (.lload i, 2)) (j : Nat) (hj : lv[j]? = some (i, .long x)) (kk : fm_G p l e R s m args below meth c D cA b nL Q lay M L cells slots (pc + 2) lv (.long x :: st)) : fm_G p l e R s m args below meth c D cA b nL Q lay M L cells slots pc lv st := fun H locs ls hP hS hl => lv_lload hC.1.1 hC.1.2.1 hd (lv_at hl j hj) (kk H locs ls hP hS hl)
theorem g_aload_n (hC : fm_C p s m args meth c D cA b cc nL own ret n0) {k : Fin 4} {i : Nat} {x : Nat} (hd : decode cc pc = .ok (.aload_n k, 1)) (hi : (k : Nat) = i) (j : Nat) (hj : lv[j]? = some (i, .ref x)) (kk : fm_G p l e R s m args below meth c D cA b nL Q lay M L cells slots (pc + 1) lv (.ref x :: st)) : fm_G p l e R s m args below meth c D cA b nL Q lay M L cells slots pc lv st := fun H locs ls hP hS hl => lv_aload_n hC.1.1 hC.1.2.1 hd hi (lv_at hl j hj) (kk H locs ls hP hS hl)
theorem g_aload (hC : fm_C p s m args meth c D cA b cc nL own ret n0) {i : Nat} {x : Nat} (hd : decode cc pc = .ok (.aload i, 2)) (j : Nat) (hj : lv[j]? = some (i, .ref x)) (kk : fm_G p l e R s m args below meth c D cA b nL Q lay M L cells slots (pc + 2) lv (.ref x :: st)) : fm_G p l e R s m args below meth c D cA b nL Q lay M L cells slots pc lv st := fun H locs ls hP hS hl => lv_aload hC.1.1 hC.1.2.1 hd (lv_at hl j hj) (kk H locs ls hP hS hl)
theorem g_istore_n (hC : fm_C p s m args meth c D cA b cc nL own ret n0) {k : Fin 4} {i : Nat} {x : Int32} (lv' : List (Nat × Value)) (hd : decode cc pc = .ok (.istore_n k, 1)) (hi : (k : Nat) = i) (hn : i < nL) (hl : (i, Value.int x) :: lv.filter (fun q => !(q.1 == i) && !(q.1 + 1 == i && q.2.category == 2)) = lv') (kk : fm_G p l e R s m args below meth c D cA b nL Q lay M L cells slots (pc + 1) lv' st) : fm_G p l e R s m args below meth c D cA b nL Q lay M L cells slots pc lv (.int x :: st) := fun H locs ls hP hS hv => lv_istore_n hC.1.1 hC.1.2.1 hd hi hv hn hl (fun ls' hv' => kk H locs ls' hP hS hv')
theorem g_istore (hC : fm_C p s m args meth c D cA b cc nL own ret n0) {i : Nat} {x : Int32} (lv' : List (Nat × Value)) (hd : decode cc pc = .ok (.istore i, 2)) (hn : i < nL) (hl : (i, Value.int x) :: lv.filter (fun q => !(q.1 == i) && !(q.1 + 1 == i && q.2.category == 2)) = lv') (kk : fm_G p l e R s m args below meth c D cA b nL Q lay M L cells slots (pc + 2) lv' st) : fm_G p l e R s m args below meth c D cA b nL Q lay M L cells slots pc lv (.int x :: st) := fun H locs ls hP hS hv => lv_istore hC.1.1 hC.1.2.1 hd hv hn hl (fun ls' hv' => kk H locs ls' hP hS hv')
theorem g_lstore_n (hC : fm_C p s m args meth c D cA b cc nL own ret n0) {k : Fin 4} {i : Nat} {x : Int64} (lv' : List (Nat × Value)) (hd : decode cc pc = .ok (.lstore_n k, 1)) (hi : (k : Nat) = i) (hn : i + 1 < nL) (hl : (i, Value.long x) :: lv.filter (fun q => !(q.1 == i) && (!(q.1 == i + 1) && !(q.1 + 1 == i && q.2.category == 2))) = lv') (kk : fm_G p l e R s m args below meth c D cA b nL Q lay M L cells slots (pc + 1) lv' st) : fm_G p l e R s m args below meth c D cA b nL Q lay M L cells slots pc lv (.long x :: st) := fun H locs ls hP hS hv => lv_lstore_n hC.1.1 hC.1.2.1 hd hi hv hn hl (fun ls' hv' => kk H locs ls' hP hS hv')
theorem g_lstore (hC : fm_C p s m args meth c D cA b cc nL own ret n0) {i : Nat} {x : Int64} (lv' : List (Nat × Value)) (hd : decode cc pc = .ok (.lstore i, 2)) (hn : i + 1 < nL) (hl : (i, Value.long x) :: lv.filter (fun q => !(q.1 == i) && (!(q.1 == i + 1) && !(q.1 + 1 == i && q.2.category == 2))) = lv') (kk : fm_G p l e R s m args below meth c D cA b nL Q lay M L cells slots (pc + 2) lv' st) : fm_G p l e R s m args below meth c D cA b nL Q lay M L cells slots pc lv (.long x :: st) := fun H locs ls hP hS hv => lv_lstore hC.1.1 hC.1.2.1 hd hv hn hl (fun ls' hv' => kk H locs ls' hP hS hv')
theorem g_astore_n (hC : fm_C p s m args meth c D cA b cc nL own ret n0) {k : Fin 4} {i : Nat} {x : Nat} (lv' : List (Nat × Value)) (hd : decode cc pc = .ok (.astore_n k, 1)) (hi : (k : Nat) = i) (hn : i < nL) (hl : (i, Value.ref x) :: lv.filter (fun q => !(q.1 == i) && !(q.1 + 1 == i && q.2.category == 2)) = lv') (kk : fm_G p l e R s m args below meth c D cA b nL Q lay M L cells slots (pc + 1) lv' st) : fm_G p l e R s m args below meth c D cA b nL Q lay M L cells slots pc lv (.ref x :: st) := fun H locs ls hP hS hv => lv_astore_n hC.1.1 hC.1.2.1 hd hi hv hn hl (fun ls' hv' => kk H locs ls' hP hS hv')
theorem g_astore (hC : fm_C p s m args meth c D cA b cc nL own ret n0) {i : Nat} {x : Nat} (lv' : List (Nat × Value)) (hd : decode cc pc = .ok (.astore i, 2)) (hn : i < nL) (hl : (i, Value.ref x) :: lv.filter (fun q => !(q.1 == i) && !(q.1 + 1 == i && q.2.category == 2)) = lv') (kk : fm_G p l e R s m args below meth c D cA b nL Q lay M L cells slots (pc + 2) lv' st) : fm_G p l e R s m args below meth c D cA b nL Q lay M L cells slots pc lv (.ref x :: st) := fun H locs ls hP hS hv => lv_astore hC.1.1 hC.1.2.1 hd hv hn hl (fun ls' hv' => kk H locs ls' hP hS hv')
theorem g_iinc (hC : fm_C p s m args meth c D cA b cc nL own ret n0) {i : Nat} {n : Int} {x v : Int32} (lv' : List (Nat × Value)) (hd : decode cc pc = .ok (.iinc i n, 3)) (k : Nat) (hk : lv[k]? = some (i, .int x)) (hv : x + Int32.ofInt n = v) (hn : i < nL) (hl : (i, Value.int v) :: lv.filter (fun q => !(q.1 == i) && !(q.1 + 1 == i && q.2.category == 2)) = lv') (kk : fm_G p l e R s m args below meth c D cA b nL Q lay M L cells slots (pc + 3) lv' st) : fm_G p l e R s m args below meth c D cA b nL Q lay M L cells slots pc lv st := fun H locs ls hP hS h => lv_iinc hC.1.1 hC.1.2.1 hd h hk hv hn hl (fun ls' hv' => kk H locs ls' hP hS hv')
theorem g_iadd (hC : fm_C p s m args meth c D cA b cc nL own ret n0) {x y : Int32} (hd : decode cc pc = .ok (.iadd, 1)) (kk : fm_G p l e R s m args below meth c D cA b nL Q lay M L cells slots (pc + 1) lv (.int (x + y) :: st)) : fm_G p l e R s m args below meth c D cA b nL Q lay M L cells slots pc lv (.int y :: .int x :: st) := fun H locs ls hP hS hl => lv_iadd hC.1.1 hC.1.2.1 hd (kk H locs ls hP hS hl)
theorem g_isub (hC : fm_C p s m args meth c D cA b cc nL own ret n0) {x y : Int32} (hd : decode cc pc = .ok (.isub, 1)) (kk : fm_G p l e R s m args below meth c D cA b nL Q lay M L cells slots (pc + 1) lv (.int (x - y) :: st)) : fm_G p l e R s m args below meth c D cA b nL Q lay M L cells slots pc lv (.int y :: .int x :: st) := fun H locs ls hP hS hl => lv_isub hC.1.1 hC.1.2.1 hd (kk H locs ls hP hS hl)
theorem g_imul (hC : fm_C p s m args meth c D cA b cc nL own ret n0) {x y : Int32} (hd : decode cc pc = .ok (.imul, 1)) (kk : fm_G p l e R s m args below meth c D cA b nL Q lay M L cells slots (pc + 1) lv (.int (x * y) :: st)) : fm_G p l e R s m args below meth c D cA b nL Q lay M L cells slots pc lv (.int y :: .int x :: st) := fun H locs ls hP hS hl => lv_imul hC.1.1 hC.1.2.1 hd (kk H locs ls hP hS hl)
theorem g_iand (hC : fm_C p s m args meth c D cA b cc nL own ret n0) {x y : Int32} (hd : decode cc pc = .ok (.iand, 1)) (kk : fm_G p l e R s m args below meth c D cA b nL Q lay M L cells slots (pc + 1) lv (.int (x &&& y) :: st)) : fm_G p l e R s m args below meth c D cA b nL Q lay M L cells slots pc lv (.int y :: .int x :: st) := fun H locs ls hP hS hl => lv_iand hC.1.1 hC.1.2.1 hd (kk H locs ls hP hS hl)
theorem g_ior (hC : fm_C p s m args meth c D cA b cc nL own ret n0) {x y : Int32} (hd : decode cc pc = .ok (.ior, 1)) (kk : fm_G p l e R s m args below meth c D cA b nL Q lay M L cells slots (pc + 1) lv (.int (x ||| y) :: st)) : fm_G p l e R s m args below meth c D cA b nL Q lay M L cells slots pc lv (.int y :: .int x :: st) := fun H locs ls hP hS hl => lv_ior hC.1.1 hC.1.2.1 hd (kk H locs ls hP hS hl)
theorem g_idiv (hC : fm_C p s m args meth c D cA b cc nL own ret n0) {x y : Int32} (hd : decode cc pc = .ok (.idiv, 1)) (hne : ¬ y = 0) (kk : fm_G p l e R s m args below meth c D cA b nL Q lay M L cells slots (pc + 1) lv (.int (x / y) :: st)) : fm_G p l e R s m args below meth c D cA b nL Q lay M L cells slots pc lv (.int y :: .int x :: st) := fun H locs ls hP hS hl => lv_idiv hC.1.1 hC.1.2.1 hd hne (kk H locs ls hP hS hl)
theorem g_irem (hC : fm_C p s m args meth c D cA b cc nL own ret n0) {x y : Int32} (hd : decode cc pc = .ok (.irem, 1)) (hne : ¬ y = 0) (kk : fm_G p l e R s m args below meth c D cA b nL Q lay M L cells slots (pc + 1) lv (.int (x - x / y * y) :: st)) : fm_G p l e R s m args below meth c D cA b nL Q lay M L cells slots pc lv (.int y :: .int x :: st) := fun H locs ls hP hS hl => lv_irem hC.1.1 hC.1.2.1 hd hne (kk H locs ls hP hS hl)
theorem g_ineg (hC : fm_C p s m args meth c D cA b cc nL own ret n0) {x : Int32} (hd : decode cc pc = .ok (.ineg, 1)) (kk : fm_G p l e R s m args below meth c D cA b nL Q lay M L cells slots (pc + 1) lv (.int (0 - x) :: st)) : fm_G p l e R s m args below meth c D cA b nL Q lay M L cells slots pc lv (.int x :: st) := fun H locs ls hP hS hl => lv_ineg hC.1.1 hC.1.2.1 hd (kk H locs ls hP hS hl)
theorem g_ishl (hC : fm_C p s m args meth c D cA b cc nL own ret n0) {x y : Int32} (hd : decode cc pc = .ok (.ishl, 1)) (kk : fm_G p l e R s m args below meth c D cA b nL Q lay M L cells slots (pc + 1) lv (.int (x <<< (y &&& 31)) :: st)) : fm_G p l e R s m args below meth c D cA b nL Q lay M L cells slots pc lv (.int y :: .int x :: st) := fun H locs ls hP hS hl => lv_ishl hC.1.1 hC.1.2.1 hd (kk H locs ls hP hS hl)
theorem g_ishr (hC : fm_C p s m args meth c D cA b cc nL own ret n0) {x y : Int32} (hd : decode cc pc = .ok (.ishr, 1)) (kk : fm_G p l e R s m args below meth c D cA b nL Q lay M L cells slots (pc + 1) lv (.int (x >>> (y &&& 31)) :: st)) : fm_G p l e R s m args below meth c D cA b nL Q lay M L cells slots pc lv (.int y :: .int x :: st) := fun H locs ls hP hS hl => lv_ishr hC.1.1 hC.1.2.1 hd (kk H locs ls hP hS hl)
theorem g_ladd (hC : fm_C p s m args meth c D cA b cc nL own ret n0) {x y : Int64} (hd : decode cc pc = .ok (.ladd, 1)) (kk : fm_G p l e R s m args below meth c D cA b nL Q lay M L cells slots (pc + 1) lv (.long (x + y) :: st)) : fm_G p l e R s m args below meth c D cA b nL Q lay M L cells slots pc lv (.long y :: .long x :: st) := fun H locs ls hP hS hl => lv_ladd hC.1.1 hC.1.2.1 hd (kk H locs ls hP hS hl)
theorem g_lsub (hC : fm_C p s m args meth c D cA b cc nL own ret n0) {x y : Int64} (hd : decode cc pc = .ok (.lsub, 1)) (kk : fm_G p l e R s m args below meth c D cA b nL Q lay M L cells slots (pc + 1) lv (.long (x - y) :: st)) : fm_G p l e R s m args below meth c D cA b nL Q lay M L cells slots pc lv (.long y :: .long x :: st) := fun H locs ls hP hS hl => lv_lsub hC.1.1 hC.1.2.1 hd (kk H locs ls hP hS hl)
theorem g_lmul (hC : fm_C p s m args meth c D cA b cc nL own ret n0) {x y : Int64} (hd : decode cc pc = .ok (.lmul, 1)) (kk : fm_G p l e R s m args below meth c D cA b nL Q lay M L cells slots (pc + 1) lv (.long (x * y) :: st)) : fm_G p l e R s m args below meth c D cA b nL Q lay M L cells slots pc lv (.long y :: .long x :: st) := fun H locs ls hP hS hl => lv_lmul hC.1.1 hC.1.2.1 hd (kk H locs ls hP hS hl)
theorem g_land (hC : fm_C p s m args meth c D cA b cc nL own ret n0) {x y : Int64} (hd : decode cc pc = .ok (.land, 1)) (kk : fm_G p l e R s m args below meth c D cA b nL Q lay M L cells slots (pc + 1) lv (.long (x &&& y) :: st)) : fm_G p l e R s m args below meth c D cA b nL Q lay M L cells slots pc lv (.long y :: .long x :: st) := fun H locs ls hP hS hl => lv_land hC.1.1 hC.1.2.1 hd (kk H locs ls hP hS hl)
theorem g_lor (hC : fm_C p s m args meth c D cA b cc nL own ret n0) {x y : Int64} (hd : decode cc pc = .ok (.lor, 1)) (kk : fm_G p l e R s m args below meth c D cA b nL Q lay M L cells slots (pc + 1) lv (.long (x ||| y) :: st)) : fm_G p l e R s m args below meth c D cA b nL Q lay M L cells slots pc lv (.long y :: .long x :: st) := fun H locs ls hP hS hl => lv_lor hC.1.1 hC.1.2.1 hd (kk H locs ls hP hS hl)
theorem g_lushr (hC : fm_C p s m args meth c D cA b cc nL own ret n0) {x v : Int64} {y : Int32} (hd : decode cc pc = .ok (.lushr, 1)) (hv : (x.toUInt64 >>> (y.toInt64.toUInt64 &&& Int64.toUInt64 63)).toInt64 = v) (kk : fm_G p l e R s m args below meth c D cA b nL Q lay M L cells slots (pc + 1) lv (.long v :: st)) : fm_G p l e R s m args below meth c D cA b nL Q lay M L cells slots pc lv (.int y :: .long x :: st) := fun H locs ls hP hS hl => lv_lushr hC.1.1 hC.1.2.1 hd hv (kk H locs ls hP hS hl)
theorem g_lshl (hC : fm_C p s m args meth c D cA b cc nL own ret n0) {x v : Int64} {y : Int32} (hd : decode cc pc = .ok (.lshl, 1)) (hv : x <<< (y.toInt64 &&& 63) = v) (kk : fm_G p l e R s m args below meth c D cA b nL Q lay M L cells slots (pc + 1) lv (.long v :: st)) : fm_G p l e R s m args below meth c D cA b nL Q lay M L cells slots pc lv (.int y :: .long x :: st) := fun H locs ls hP hS hl => lv_lshl hC.1.1 hC.1.2.1 hd hv (kk H locs ls hP hS hl)
theorem g_lshr (hC : fm_C p s m args meth c D cA b cc nL own ret n0) {x v : Int64} {y : Int32} (hd : decode cc pc = .ok (.lshr, 1)) (hv : x >>> (y.toInt64 &&& 63) = v) (kk : fm_G p l e R s m args below meth c D cA b nL Q lay M L cells slots (pc + 1) lv (.long v :: st)) : fm_G p l e R s m args below meth c D cA b nL Q lay M L cells slots pc lv (.int y :: .long x :: st) := fun H locs ls hP hS hl => lv_lshr hC.1.1 hC.1.2.1 hd hv (kk H locs ls hP hS hl)
theorem g_i2l (hC : fm_C p s m args meth c D cA b cc nL own ret n0) {x : Int32} {v : Int64} (hd : decode cc pc = .ok (.i2l, 1)) (hv : x.toInt64 = v) (kk : fm_G p l e R s m args below meth c D cA b nL Q lay M L cells slots (pc + 1) lv (.long v :: st)) : fm_G p l e R s m args below meth c D cA b nL Q lay M L cells slots pc lv (.int x :: st) := fun H locs ls hP hS hl => lv_i2l hC.1.1 hC.1.2.1 hd hv (kk H locs ls hP hS hl)
theorem g_l2i (hC : fm_C p s m args meth c D cA b cc nL own ret n0) {x : Int64} {v : Int32} (hd : decode cc pc = .ok (.l2i, 1)) (hv : x.toInt32 = v) (kk : fm_G p l e R s m args below meth c D cA b nL Q lay M L cells slots (pc + 1) lv (.int v :: st)) : fm_G p l e R s m args below meth c D cA b nL Q lay M L cells slots pc lv (.long x :: st) := fun H locs ls hP hS hl => lv_l2i hC.1.1 hC.1.2.1 hd hv (kk H locs ls hP hS hl)
theorem g_i2b (hC : fm_C p s m args meth c D cA b cc nL own ret n0) {x : Int32} {v : Int32} (hd : decode cc pc = .ok (.i2b, 1)) (hv : x.toInt8.toInt32 = v) (kk : fm_G p l e R s m args below meth c D cA b nL Q lay M L cells slots (pc + 1) lv (.int v :: st)) : fm_G p l e R s m args below meth c D cA b nL Q lay M L cells slots pc lv (.int x :: st) := fun H locs ls hP hS hl => lv_i2b hC.1.1 hC.1.2.1 hd hv (kk H locs ls hP hS hl)
theorem g_i2c (hC : fm_C p s m args meth c D cA b cc nL own ret n0) {x : Int32} {v : Int32} (hd : decode cc pc = .ok (.i2c, 1)) (hv : (x.toUInt32 % 65536).toInt32 = v) (kk : fm_G p l e R s m args below meth c D cA b nL Q lay M L cells slots (pc + 1) lv (.int v :: st)) : fm_G p l e R s m args below meth c D cA b nL Q lay M L cells slots pc lv (.int x :: st) := fun H locs ls hP hS hl => lv_i2c hC.1.1 hC.1.2.1 hd hv (kk H locs ls hP hS hl)
theorem g_lcmp (hC : fm_C p s m args meth c D cA b cc nL own ret n0) {x y : Int64} (hd : decode cc pc = .ok (.lcmp, 1)) (kk : fm_G p l e R s m args below meth c D cA b nL Q lay M L cells slots (pc + 1) lv (.int (lg_cmp x y) :: st)) : fm_G p l e R s m args below meth c D cA b nL Q lay M L cells slots pc lv (.long y :: .long x :: st) := fun H locs ls hP hS hl => W.lcmp hC.1.1 hC.1.2.1 hd (kk H locs ls hP hS hl)
theorem g_dup (hC : fm_C p s m args meth c D cA b cc nL own ret n0) {v : Value} (hd : decode cc pc = .ok (.dup, 1)) (hv : v.category = 1) (kk : fm_G p l e R s m args below meth c D cA b nL Q lay M L cells slots (pc + 1) lv (v :: v :: st)) : fm_G p l e R s m args below meth c D cA b nL Q lay M L cells slots pc lv (v :: st) := fun H locs ls hP hS hl => lv_dup hC.1.1 hC.1.2.1 hd hv (kk H locs ls hP hS hl)
theorem g_pop (hC : fm_C p s m args meth c D cA b cc nL own ret n0) {v : Value} (hd : decode cc pc = .ok (.pop, 1)) (hv : v.category = 1) (kk : fm_G p l e R s m args below meth c D cA b nL Q lay M L cells slots (pc + 1) lv st) : fm_G p l e R s m args below meth c D cA b nL Q lay M L cells slots pc lv (v :: st) := fun H locs ls hP hS hl => lv_pop hC.1.1 hC.1.2.1 hd hv (kk H locs ls hP hS hl)
theorem g_goto (hC : fm_C p s m args meth c D cA b cc nL own ret n0) {off : Int} (tgt : Nat) (hd : decode cc pc = .ok (.goto off, 3)) (ht : (pc : Int) + off = (tgt : Int)) (kk : fm_G p l e R s m args below meth c D cA b nL Q lay M L cells slots tgt lv st) : fm_G p l e R s m args below meth c D cA b nL Q lay M L cells slots pc lv st := fun H locs ls hP hS hl => lv_goto hC.1.1 hC.1.2.1 hd ht (kk H locs ls hP hS hl)
theorem g_icmp_eq (hC : fm_C p s m args meth c D cA b cc nL own ret n0) {x y : Int32} {off : Int} (tgt : Nat) (hd : decode cc pc = .ok (.if_icmp .eq off, 3)) (ht : (pc : Int) + off = (tgt : Int)) (kt : x = y → fm_G p l e R s m args below meth c D cA b nL Q lay M L cells slots tgt lv st) (kf : ¬ x = y → fm_G p l e R s m args below meth c D cA b nL Q lay M L cells slots (pc + 3) lv st) : fm_G p l e R s m args below meth c D cA b nL Q lay M L cells slots pc lv (.int y :: .int x :: st) := fun H locs ls hP hS hl => lv_icmp_eq hC.1.1 hC.1.2.1 hd ht (fun h => kt h H locs ls hP hS hl) (fun h => kf h H locs ls hP hS hl)
theorem g_if_eq (hC : fm_C p s m args meth c D cA b cc nL own ret n0) {x : Int32} {off : Int} (tgt : Nat) (hd : decode cc pc = .ok (.ifCond .eq off, 3)) (ht : (pc : Int) + off = (tgt : Int)) (kt : x = 0 → fm_G p l e R s m args below meth c D cA b nL Q lay M L cells slots tgt lv st) (kf : ¬ x = 0 → fm_G p l e R s m args below meth c D cA b nL Q lay M L cells slots (pc + 3) lv st) : fm_G p l e R s m args below meth c D cA b nL Q lay M L cells slots pc lv (.int x :: st) := fun H locs ls hP hS hl => lv_if_eq hC.1.1 hC.1.2.1 hd ht (fun h => kt h H locs ls hP hS hl) (fun h => kf h H locs ls hP hS hl)
theorem g_icmp_ne (hC : fm_C p s m args meth c D cA b cc nL own ret n0) {x y : Int32} {off : Int} (tgt : Nat) (hd : decode cc pc = .ok (.if_icmp .ne off, 3)) (ht : (pc : Int) + off = (tgt : Int)) (kt : ¬ x = y → fm_G p l e R s m args below meth c D cA b nL Q lay M L cells slots tgt lv st) (kf : x = y → fm_G p l e R s m args below meth c D cA b nL Q lay M L cells slots (pc + 3) lv st) : fm_G p l e R s m args below meth c D cA b nL Q lay M L cells slots pc lv (.int y :: .int x :: st) := fun H locs ls hP hS hl => lv_icmp_ne hC.1.1 hC.1.2.1 hd ht (fun h => kt h H locs ls hP hS hl) (fun h => kf h H locs ls hP hS hl)
theorem g_if_ne (hC : fm_C p s m args meth c D cA b cc nL own ret n0) {x : Int32} {off : Int} (tgt : Nat) (hd : decode cc pc = .ok (.ifCond .ne off, 3)) (ht : (pc : Int) + off = (tgt : Int)) (kt : ¬ x = 0 → fm_G p l e R s m args below meth c D cA b nL Q lay M L cells slots tgt lv st) (kf : x = 0 → fm_G p l e R s m args below meth c D cA b nL Q lay M L cells slots (pc + 3) lv st) : fm_G p l e R s m args below meth c D cA b nL Q lay M L cells slots pc lv (.int x :: st) := fun H locs ls hP hS hl => lv_if_ne hC.1.1 hC.1.2.1 hd ht (fun h => kt h H locs ls hP hS hl) (fun h => kf h H locs ls hP hS hl)
theorem g_icmp_lt (hC : fm_C p s m args meth c D cA b cc nL own ret n0) {x y : Int32} {off : Int} (tgt : Nat) (hd : decode cc pc = .ok (.if_icmp .lt off, 3)) (ht : (pc : Int) + off = (tgt : Int)) (kt : x < y → fm_G p l e R s m args below meth c D cA b nL Q lay M L cells slots tgt lv st) (kf : ¬ x < y → fm_G p l e R s m args below meth c D cA b nL Q lay M L cells slots (pc + 3) lv st) : fm_G p l e R s m args below meth c D cA b nL Q lay M L cells slots pc lv (.int y :: .int x :: st) := fun H locs ls hP hS hl => lv_icmp_lt hC.1.1 hC.1.2.1 hd ht (fun h => kt h H locs ls hP hS hl) (fun h => kf h H locs ls hP hS hl)
theorem g_if_lt (hC : fm_C p s m args meth c D cA b cc nL own ret n0) {x : Int32} {off : Int} (tgt : Nat) (hd : decode cc pc = .ok (.ifCond .lt off, 3)) (ht : (pc : Int) + off = (tgt : Int)) (kt : x < 0 → fm_G p l e R s m args below meth c D cA b nL Q lay M L cells slots tgt lv st) (kf : ¬ x < 0 → fm_G p l e R s m args below meth c D cA b nL Q lay M L cells slots (pc + 3) lv st) : fm_G p l e R s m args below meth c D cA b nL Q lay M L cells slots pc lv (.int x :: st) := fun H locs ls hP hS hl => lv_if_lt hC.1.1 hC.1.2.1 hd ht (fun h => kt h H locs ls hP hS hl) (fun h => kf h H locs ls hP hS hl)
theorem g_icmp_ge (hC : fm_C p s m args meth c D cA b cc nL own ret n0) {x y : Int32} {off : Int} (tgt : Nat) (hd : decode cc pc = .ok (.if_icmp .ge off, 3)) (ht : (pc : Int) + off = (tgt : Int)) (kt : y ≤ x → fm_G p l e R s m args below meth c D cA b nL Q lay M L cells slots tgt lv st) (kf : ¬ y ≤ x → fm_G p l e R s m args below meth c D cA b nL Q lay M L cells slots (pc + 3) lv st) : fm_G p l e R s m args below meth c D cA b nL Q lay M L cells slots pc lv (.int y :: .int x :: st) := fun H locs ls hP hS hl => lv_icmp_ge hC.1.1 hC.1.2.1 hd ht (fun h => kt h H locs ls hP hS hl) (fun h => kf h H locs ls hP hS hl)
theorem g_if_ge (hC : fm_C p s m args meth c D cA b cc nL own ret n0) {x : Int32} {off : Int} (tgt : Nat) (hd : decode cc pc = .ok (.ifCond .ge off, 3)) (ht : (pc : Int) + off = (tgt : Int)) (kt : 0 ≤ x → fm_G p l e R s m args below meth c D cA b nL Q lay M L cells slots tgt lv st) (kf : ¬ 0 ≤ x → fm_G p l e R s m args below meth c D cA b nL Q lay M L cells slots (pc + 3) lv st) : fm_G p l e R s m args below meth c D cA b nL Q lay M L cells slots pc lv (.int x :: st) := fun H locs ls hP hS hl => lv_if_ge hC.1.1 hC.1.2.1 hd ht (fun h => kt h H locs ls hP hS hl) (fun h => kf h H locs ls hP hS hl)
theorem g_icmp_gt (hC : fm_C p s m args meth c D cA b cc nL own ret n0) {x y : Int32} {off : Int} (tgt : Nat) (hd : decode cc pc = .ok (.if_icmp .gt off, 3)) (ht : (pc : Int) + off = (tgt : Int)) (kt : y < x → fm_G p l e R s m args below meth c D cA b nL Q lay M L cells slots tgt lv st) (kf : ¬ y < x → fm_G p l e R s m args below meth c D cA b nL Q lay M L cells slots (pc + 3) lv st) : fm_G p l e R s m args below meth c D cA b nL Q lay M L cells slots pc lv (.int y :: .int x :: st) := fun H locs ls hP hS hl => lv_icmp_gt hC.1.1 hC.1.2.1 hd ht (fun h => kt h H locs ls hP hS hl) (fun h => kf h H locs ls hP hS hl)
theorem g_if_gt (hC : fm_C p s m args meth c D cA b cc nL own ret n0) {x : Int32} {off : Int} (tgt : Nat) (hd : decode cc pc = .ok (.ifCond .gt off, 3)) (ht : (pc : Int) + off = (tgt : Int)) (kt : 0 < x → fm_G p l e R s m args below meth c D cA b nL Q lay M L cells slots tgt lv st) (kf : ¬ 0 < x → fm_G p l e R s m args below meth c D cA b nL Q lay M L cells slots (pc + 3) lv st) : fm_G p l e R s m args below meth c D cA b nL Q lay M L cells slots pc lv (.int x :: st) := fun H locs ls hP hS hl => lv_if_gt hC.1.1 hC.1.2.1 hd ht (fun h => kt h H locs ls hP hS hl) (fun h => kf h H locs ls hP hS hl)
theorem g_icmp_le (hC : fm_C p s m args meth c D cA b cc nL own ret n0) {x y : Int32} {off : Int} (tgt : Nat) (hd : decode cc pc = .ok (.if_icmp .le off, 3)) (ht : (pc : Int) + off = (tgt : Int)) (kt : x ≤ y → fm_G p l e R s m args below meth c D cA b nL Q lay M L cells slots tgt lv st) (kf : ¬ x ≤ y → fm_G p l e R s m args below meth c D cA b nL Q lay M L cells slots (pc + 3) lv st) : fm_G p l e R s m args below meth c D cA b nL Q lay M L cells slots pc lv (.int y :: .int x :: st) := fun H locs ls hP hS hl => lv_icmp_le hC.1.1 hC.1.2.1 hd ht (fun h => kt h H locs ls hP hS hl) (fun h => kf h H locs ls hP hS hl)
theorem g_if_le (hC : fm_C p s m args meth c D cA b cc nL own ret n0) {x : Int32} {off : Int} (tgt : Nat) (hd : decode cc pc = .ok (.ifCond .le off, 3)) (ht : (pc : Int) + off = (tgt : Int)) (kt : x ≤ 0 → fm_G p l e R s m args below meth c D cA b nL Q lay M L cells slots tgt lv st) (kf : ¬ x ≤ 0 → fm_G p l e R s m args below meth c D cA b nL Q lay M L cells slots (pc + 3) lv st) : fm_G p l e R s m args below meth c D cA b nL Q lay M L cells slots pc lv (.int x :: st) := fun H locs ls hP hS hl => lv_if_le hC.1.1 hC.1.2.1 hd ht (fun h => kt h H locs ls hP hS hl) (fun h => kf h H locs ls hP hS hl)
theorem g_ldc (hC : fm_C p s m args meth c D cA b cc nL own ret n0) {index : Nat} {v : Int32} (hc : Jvm.Cond.constant own index v ∈ fm_all) (hd : decode cc pc = .ok (.ldc index, 2)) (kk : fm_G p l e R s m args below meth c D cA b nL Q lay M L cells slots (pc + 2) lv (.int v :: st)) : fm_G p l e R s m args below meth c D cA b nL Q lay M L cells slots pc lv st := fun H locs ls hP hS hl => lv_ldc hC.1.1 hC.1.2.1 hC.1.2.2.2.1 (hC.1.2.2.2.2 _ hc) hd (kk H locs ls hP hS hl)
theorem g_ldc2 (hC : fm_C p s m args meth c D cA b cc nL own ret n0) {index : Nat} {v : Int64} (hc : Jvm.Cond.constantLong own index v ∈ fm_all) (hd : decode cc pc = .ok (.ldc2_w index, 3)) (kk : fm_G p l e R s m args below meth c D cA b nL Q lay M L cells slots (pc + 3) lv (.long v :: st)) : fm_G p l e R s m args below meth c D cA b nL Q lay M L cells slots pc lv st := fun H locs ls hP hS hl => lv_ldc2 hC.1.1 hC.1.2.1 hC.1.2.2.2.1 (hC.1.2.2.2.2 _ hc) hd (kk H locs ls hP hS hl)
theorem g_lookup (hC : fm_C p s m args meth c D cA b cc nL own ret n0) {dflt : Int} {ps : Array (Int × Int)} {len : Nat} {x : Int32} {off : Int} (tgt : Nat) (hd : decode cc pc = .ok (.lookupswitch dflt ps, len)) (hp : (ps.toList.zip (ps.toList.drop 1)).all (fun (a, next) => a.1 < next.1) = true) (ho : Op.lookupswitch.offset ps.toList dflt x.toInt = off) (ht : (pc : Int) + off = (tgt : Int)) (kk : fm_G p l e R s m args below meth c D cA b nL Q lay M L cells slots tgt lv st) : fm_G p l e R s m args below meth c D cA b nL Q lay M L cells slots pc lv (.int x :: st) := fun H locs ls hP hS hl => lv_lookup hC.1.1 hC.1.2.1 hd hp ho ht (kk H locs ls hP hS hl)
theorem g_tabOut (hC : fm_C p s m args meth c D cA b cc nL own ret n0) {dflt lo hi : Int} {offs : Array Int} {len : Nat} {x : Int32} (tgt : Nat) (hd : decode cc pc = .ok (.tableswitch dflt lo hi offs, len)) (h : x.toInt < lo ∨ hi < x.toInt) (ht : (pc : Int) + dflt = (tgt : Int)) (kk : fm_G p l e R s m args below meth c D cA b nL Q lay M L cells slots tgt lv st) : fm_G p l e R s m args below meth c D cA b nL Q lay M L cells slots pc lv (.int x :: st) := fun H locs ls hP hS hl => lv_tableOut hC.1.1 hC.1.2.1 hd h ht (kk H locs ls hP hS hl)
theorem g_tabIn (hC : fm_C p s m args meth c D cA b cc nL own ret n0) {dflt lo hi : Int} {offs : Array Int} {len : Nat} {x : Int32} {off : Int} (tgt : Nat) (hd : decode cc pc = .ok (.tableswitch dflt lo hi offs, len)) (h1 : ¬ x.toInt < lo) (h2 : ¬ hi < x.toInt) (ho : offs[(x.toInt - lo).toNat]? = some off) (ht : (pc : Int) + off = (tgt : Int)) (kk : fm_G p l e R s m args below meth c D cA b nL Q lay M L cells slots tgt lv st) : fm_G p l e R s m args below meth c D cA b nL Q lay M L cells slots pc lv (.int x :: st) := fun H locs ls hP hS hl => lv_tableIn hC.1.1 hC.1.2.1 hd h1 h2 ho ht (kk H locs ls hP hS hl)
theorem g_getI (hC : fm_C p s m args meth c D cA b cc nL own ret n0) {C : String} {T : u_T} {N ci i k index : Nat} {zs : List Nat} (hin : ∀ w ∈ u_ws C T N, w ∈ fm_all) (hc : vwCl[ci]? = some (C, T, N)) (hk : lay[k]? = some (0, ci, zs)) (hz : zs[i]? = some 0) (hi : i < N) (hw : Cond.fieldLink own index (T i).1 (T i).2.1 (T i).2.2.1 ∈ fm_all) (hd : decode cc pc = .ok (.getfield index, 3)) (kk : fm_G p l e R s m args below meth c D cA b nL Q lay M L cells slots (pc + 3) lv (.int (M k i) :: st)) : fm_G p l e R s m args below meth c D cA b nL Q lay M L cells slots pc lv (.ref (b + k) :: st) := by
  intro H locs ls hP hS hl
  exact va_get hC.1.1 hC.1.2.1 hC.1.2.2.2.2 hin hC.1.2.2.2.1 hC.2.1.1 hP k (fm_at hk) hc i hi (hC.1.2.2.2.2 _ hw) (fun _ h => h) (v := .int (M k i)) (by rw [fm_fs_get, hz]; simp [fm_fv]) hd (kk H locs ls hP hS hl)
theorem g_getR (hC : fm_C p s m args meth c D cA b cc nL own ret n0) {C : String} {T : u_T} {N ci i k index : Nat} {zs : List Nat} {t : Nat} (hin : ∀ w ∈ u_ws C T N, w ∈ fm_all) (hc : vwCl[ci]? = some (C, T, N)) (hk : lay[k]? = some (0, ci, zs)) (hz : zs[i]? = some (t + 2)) (hi : i < N) (hw : Cond.fieldLink own index (T i).1 (T i).2.1 (T i).2.2.1 ∈ fm_all) (hd : decode cc pc = .ok (.getfield index, 3)) (kk : fm_G p l e R s m args below meth c D cA b nL Q lay M L cells slots (pc + 3) lv (.ref (b + t) :: st)) : fm_G p l e R s m args below meth c D cA b nL Q lay M L cells slots pc lv (.ref (b + k) :: st) := by
  intro H locs ls hP hS hl
  exact va_get hC.1.1 hC.1.2.1 hC.1.2.2.2.2 hin hC.1.2.2.2.1 hC.2.1.1 hP k (fm_at hk) hc i hi (hC.1.2.2.2.2 _ hw) (fun _ h => h) (v := .ref (b + t)) (by rw [fm_fs_get, hz]; simp [fm_fv]) hd (kk H locs ls hP hS hl)
theorem g_putI (hC : fm_C p s m args meth c D cA b cc nL own ret n0) {C : String} {T : u_T} {N ci i k index : Nat} {zs : List Nat} {v : Int32} (hin : ∀ w ∈ u_ws C T N, w ∈ fm_all) (ty0 : Nat → FieldType) (hty : ∀ k, k < N → parseFieldDescriptor (T k).2.2.1 = some (ty0 k)) (hnm : ∀ a, a < N → ∀ b, b < N → a ≠ b → (T a).2.1 ≠ (T b).2.1) (hc : vwCl[ci]? = some (C, T, N)) (hk : lay[k]? = some (0, ci, zs)) (hz : zs[i]? = some 0) (hi : i < N) (hw : Cond.fieldLink own index (T i).1 (T i).2.1 (T i).2.2.1 ∈ fm_all) (hfin : (T i).2.2.2 = false) (hn : narrow (ty0 i) (.int v) = .int v) (hfit : fits (ty0 i) (.int v) = true) (hd : decode cc pc = .ok (.putfield index, 3)) (kk : fm_G p l e R s m args below meth c D cA b nL Q lay (fm_up M k i v) L cells slots (pc + 3) lv st) : fm_G p l e R s m args below meth c D cA b nL Q lay M L cells slots pc lv (.int v :: .ref (b + k) :: st) := by
  intro H locs ls hP hS hl
  refine va_put hC.1.1 hC.1.2.1 hC.1.2.2.2.2 hin ty0 hty hnm hC.1.2.2.2.1 hC.2.1.1 hP fm_D hS k (fm_at hk) hc i hi (hC.1.2.2.2.2 _ hw) (fun _ h => h) hfin (hty i hi) hn hfit (by rw [fm_fs_len]; exact (List.getElem?_eq_some_iff.mp hz).1) hd (fun H1 locs1 hP1 _ hS1 => ?_)
  refine kk H1 locs1 ls ?_ hS1 hl
  rw [fm_set' (M' := fm_up M k i v) (L' := L) hk (by simp only [fm_cell]; rw [fm_fs_int hz]) (fun j hj e' _ => fm_cell_cong (fm_row_n hj) rfl e')] at hP1
  exact hP1
theorem g_putIF (hC : fm_C p s m args meth c D cA b cc nL own ret n0) {C : String} {T : u_T} {N ci i k index : Nat} {zs : List Nat} {v : Int32} (hin : ∀ w ∈ u_ws C T N, w ∈ fm_all) (ty0 : Nat → FieldType) (hty : ∀ k, k < N → parseFieldDescriptor (T k).2.2.1 = some (ty0 k)) (hnm : ∀ a, a < N → ∀ b, b < N → a ≠ b → (T a).2.1 ≠ (T b).2.1) (hc : vwCl[ci]? = some (C, T, N)) (hk : lay[k]? = some (0, ci, zs)) (hz : zs[i]? = some 0) (hi : i < N) (hw : Cond.fieldLink own index (T i).1 (T i).2.1 (T i).2.2.1 ∈ fm_all) (hfin : (T i).2.2.2 = true) (hin2 : meth.name = "<init>") (hdecl : (T i).1 = own) (hn : narrow (ty0 i) (.int v) = .int v) (hfit : fits (ty0 i) (.int v) = true) (hd : decode cc pc = .ok (.putfield index, 3)) (kk : fm_G p l e R s m args below meth c D cA b nL Q lay (fm_up M k i v) L cells slots (pc + 3) lv st) : fm_G p l e R s m args below meth c D cA b nL Q lay M L cells slots pc lv (.int v :: .ref (b + k) :: st) := by
  intro H locs ls hP hS hl
  refine va_putF hC.1.1 hC.1.2.1 hC.1.2.2.2.2 hin ty0 hty hnm hC.1.2.2.2.1 hC.2.1.1 hP fm_D hS k (fm_at hk) hc i hi (hC.1.2.2.2.2 _ hw) (fun _ h => h) hfin hin2 hdecl (hty i hi) hn hfit (by rw [fm_fs_len]; exact (List.getElem?_eq_some_iff.mp hz).1) hd (fun H1 locs1 hP1 _ hS1 => ?_)
  refine kk H1 locs1 ls ?_ hS1 hl
  rw [fm_set' (M' := fm_up M k i v) (L' := L) hk (by simp only [fm_cell]; rw [fm_fs_int hz]) (fun j hj e' _ => fm_cell_cong (fm_row_n hj) rfl e')] at hP1
  exact hP1
theorem g_putRF (hC : fm_C p s m args meth c D cA b cc nL own ret n0) {C : String} {T : u_T} {N ci i k index : Nat} {zs : List Nat} {t : Nat} (hin : ∀ w ∈ u_ws C T N, w ∈ fm_all) (ty0 : Nat → FieldType) (hty : ∀ k, k < N → parseFieldDescriptor (T k).2.2.1 = some (ty0 k)) (hnm : ∀ a, a < N → ∀ b, b < N → a ≠ b → (T a).2.1 ≠ (T b).2.1) (hc : vwCl[ci]? = some (C, T, N)) (hk : lay[k]? = some (0, ci, zs)) (hz : i < zs.length) (hi : i < N) (hw : Cond.fieldLink own index (T i).1 (T i).2.1 (T i).2.2.1 ∈ fm_all) (hfin : (T i).2.2.2 = true) (hin2 : meth.name = "<init>") (hdecl : (T i).1 = own) (hn : narrow (ty0 i) (.ref (b + t)) = .ref (b + t)) (hfit : fits (ty0 i) (.ref (b + t)) = true) (hd : decode cc pc = .ok (.putfield index, 3)) (kk : fm_G p l e R s m args below meth c D cA b nL Q (lay.set k (0, ci, zs.set i (t + 2))) M L cells slots (pc + 3) lv st) : fm_G p l e R s m args below meth c D cA b nL Q lay M L cells slots pc lv (.ref (b + t) :: .ref (b + k) :: st) := by
  intro H locs ls hP hS hl
  refine va_putF hC.1.1 hC.1.2.1 hC.1.2.2.2.2 hin ty0 hty hnm hC.1.2.2.2.1 hC.2.1.1 hP fm_D hS k (fm_at hk) hc i hi (hC.1.2.2.2.2 _ hw) (fun _ h => h) hfin hin2 hdecl (hty i hi) hn hfit (by rw [fm_fs_len]; exact hz) hd (fun H1 locs1 hP1 _ hS1 => ?_)
  refine kk H1 locs1 ls ?_ hS1 hl
  rw [fm_set (M' := M) (L' := L) (e := (0, ci, zs.set i (t + 2))) (List.getElem?_eq_some_iff.mp hk).1 (by simp only [fm_cell]; rw [fm_fs_ref hz]) (fun j hj e' _ => rfl)] at hP1
  exact hP1
theorem g_iald (hC : fm_C p s m args meth c D cA b cc nL own ret n0) {k n : Nat} {zs : List Nat} {i : Int32} (hk : lay[k]? = some (1, n, zs)) (hin : vp_in i n) (hd : decode cc pc = .ok (.iaload, 1)) (kk : fm_G p l e R s m args below meth c D cA b nL Q lay M L cells slots (pc + 1) lv (.int (M k i.toNatClampNeg) :: st)) : fm_G p l e R s m args below meth c D cA b nL Q lay M L cells slots pc lv (.int i :: .ref (b + k) :: st) := by
  intro H locs ls hP hS hl
  exact va_iald hC.1.1 hC.1.2.1 hC.2.1.1 hP k 0 (fm_at hk) rfl hin hd (kk H locs ls hP hS hl)
theorem g_cald (hC : fm_C p s m args meth c D cA b cc nL own ret n0) {k n : Nat} {zs : List Nat} {i : Int32} (hk : lay[k]? = some (3, n, zs)) (hin : vp_in i n) (hd : decode cc pc = .ok (.caload, 1)) (kk : fm_G p l e R s m args below meth c D cA b nL Q lay M L cells slots (pc + 1) lv (.int (M k i.toNatClampNeg) :: st)) : fm_G p l e R s m args below meth c D cA b nL Q lay M L cells slots pc lv (.int i :: .ref (b + k) :: st) := by
  intro H locs ls hP hS hl
  exact va_cald hC.1.1 hC.1.2.1 hC.2.1.1 hP k 2 (fm_at hk) rfl hin hd (kk H locs ls hP hS hl)
theorem g_lald (hC : fm_C p s m args meth c D cA b cc nL own ret n0) {k n : Nat} {zs : List Nat} {i : Int32} (hk : lay[k]? = some (2, n, zs)) (hin : vp_in i n) (hd : decode cc pc = .ok (.laload, 1)) (kk : fm_G p l e R s m args below meth c D cA b nL Q lay M L cells slots (pc + 1) lv (.long (L k i.toNatClampNeg) :: st)) : fm_G p l e R s m args below meth c D cA b nL Q lay M L cells slots pc lv (.int i :: .ref (b + k) :: st) := by
  intro H locs ls hP hS hl
  exact va_lald hC.1.1 hC.1.2.1 hC.2.1.1 hP k 1 (fm_at hk) rfl hin hd (kk H locs ls hP hS hl)
theorem g_aald4 (hC : fm_C p s m args meth c D cA b cc nL own ret n0) {k n t : Nat} {zs : List Nat} {i : Int32} (hk : lay[k]? = some (4, n, zs)) (hin : vp_in i n) (hz : zs[i.toNatClampNeg]? = some (t + 1)) (hd : decode cc pc = .ok (.aaload, 1)) (kk : fm_G p l e R s m args below meth c D cA b nL Q lay M L cells slots (pc + 1) lv (.ref (b + t) :: st)) : fm_G p l e R s m args below meth c D cA b nL Q lay M L cells slots pc lv (.int i :: .ref (b + k) :: st) := by
  intro H locs ls hP hS hl
  have h1 := kk H locs ls hP hS hl
  have h2 : va_rf (fm_tg b zs i.toNatClampNeg) = .ref (b + t) := by simp [fm_tg, List.getD, hz, va_rf]
  rw [← h2] at h1
  exact va_aldq hC.1.1 hC.1.2.1 hC.2.1.1 hP k 3 (fm_at hk) rfl hin hd h1
theorem g_aast4 (hC : fm_C p s m args meth c D cA b cc nL own ret n0) {k n t ci : Nat} {zs vs : List Nat} {r : vw_C} {i : Int32} (hk : lay[k]? = some (4, n, zs)) (hc : vwCl[ci]? = some r) (hr : r.1 = RX1) (hv : lay[t]? = some (0, ci, vs)) (hin : vp_in i n) (hz : i.toNatClampNeg < zs.length) (hd : decode cc pc = .ok (.aastore, 1)) (kk : fm_G p l e R s m args below meth c D cA b nL Q (lay.set k (4, n, zs.set i.toNatClampNeg (t + 1))) M L cells slots (pc + 1) lv st) : fm_G p l e R s m args below meth c D cA b nL Q lay M L cells slots pc lv (.ref (b + t) :: .int i :: .ref (b + k) :: st) := by
  intro H locs ls hP hS hl
  refine va_astq hC.1.1 hC.1.2.1 hC.2.1.1 hP fm_D hS k 3 t ci (fm_at hk) (by rw [hr]; rfl) (fm_at hv) hc hin hd (fun H1 locs1 hP1 _ hS1 => ?_)
  refine kk H1 locs1 ls ?_ hS1 hl
  rw [fm_set (M' := M) (L' := L) (e := (4, n, zs.set i.toNatClampNeg (t + 1))) (List.getElem?_eq_some_iff.mp hk).1 (by simp only [fm_cell]; rw [fm_tg_set hz]) (fun j hj e' _ => rfl)] at hP1
  exact hP1
theorem g_aald5 (hC : fm_C p s m args meth c D cA b cc nL own ret n0) {k n t : Nat} {zs : List Nat} {i : Int32} (hk : lay[k]? = some (5, n, zs)) (hin : vp_in i n) (hz : zs[i.toNatClampNeg]? = some (t + 1)) (hd : decode cc pc = .ok (.aaload, 1)) (kk : fm_G p l e R s m args below meth c D cA b nL Q lay M L cells slots (pc + 1) lv (.ref (b + t) :: st)) : fm_G p l e R s m args below meth c D cA b nL Q lay M L cells slots pc lv (.int i :: .ref (b + k) :: st) := by
  intro H locs ls hP hS hl
  have h1 := kk H locs ls hP hS hl
  have h2 : va_rf (fm_tg b zs i.toNatClampNeg) = .ref (b + t) := by simp [fm_tg, List.getD, hz, va_rf]
  rw [← h2] at h1
  exact va_aldq hC.1.1 hC.1.2.1 hC.2.1.1 hP k 4 (fm_at hk) rfl hin hd h1
theorem g_aast5 (hC : fm_C p s m args meth c D cA b cc nL own ret n0) {k n t ci : Nat} {zs vs : List Nat} {r : vw_C} {i : Int32} (hk : lay[k]? = some (5, n, zs)) (hc : vwCl[ci]? = some r) (hr : r.1 = RX3) (hv : lay[t]? = some (0, ci, vs)) (hin : vp_in i n) (hz : i.toNatClampNeg < zs.length) (hd : decode cc pc = .ok (.aastore, 1)) (kk : fm_G p l e R s m args below meth c D cA b nL Q (lay.set k (5, n, zs.set i.toNatClampNeg (t + 1))) M L cells slots (pc + 1) lv st) : fm_G p l e R s m args below meth c D cA b nL Q lay M L cells slots pc lv (.ref (b + t) :: .int i :: .ref (b + k) :: st) := by
  intro H locs ls hP hS hl
  refine va_astq hC.1.1 hC.1.2.1 hC.2.1.1 hP fm_D hS k 4 t ci (fm_at hk) (by rw [hr]; rfl) (fm_at hv) hc hin hd (fun H1 locs1 hP1 _ hS1 => ?_)
  refine kk H1 locs1 ls ?_ hS1 hl
  rw [fm_set (M' := M) (L' := L) (e := (5, n, zs.set i.toNatClampNeg (t + 1))) (List.getElem?_eq_some_iff.mp hk).1 (by simp only [fm_cell]; rw [fm_tg_set hz]) (fun j hj e' _ => rfl)] at hP1
  exact hP1
theorem g_iast (hC : fm_C p s m args meth c D cA b cc nL own ret n0) {k n : Nat} {zs : List Nat} {i x : Int32} (hk : lay[k]? = some (1, n, zs)) (hin : vp_in i n) (hd : decode cc pc = .ok (.iastore, 1)) (kk : fm_G p l e R s m args below meth c D cA b nL Q lay (fm_up M k i.toNatClampNeg x) L cells slots (pc + 1) lv st) : fm_G p l e R s m args below meth c D cA b nL Q lay M L cells slots pc lv (.int x :: .int i :: .ref (b + k) :: st) := by
  intro H locs ls hP hS hl
  refine va_iast hC.1.1 hC.1.2.1 hC.2.1.1 hP fm_D hS k 0 (fm_at hk) rfl hin hd (fun H1 locs1 hP1 _ hS1 => ?_)
  refine kk H1 locs1 ls ?_ hS1 hl
  rw [fm_set' (M' := fm_up M k i.toNatClampNeg x) (L' := L) hk (by simp [fm_cell, fm_row]) (fun j hj e' _ => fm_cell_cong (fm_row_n hj) rfl e')] at hP1
  exact hP1
theorem g_cast (hC : fm_C p s m args meth c D cA b cc nL own ret n0) {k n : Nat} {zs : List Nat} {i x : Int32} (hk : lay[k]? = some (3, n, zs)) (hin : vp_in i n) (hd : decode cc pc = .ok (.castore, 1)) (kk : fm_G p l e R s m args below meth c D cA b nL Q lay (fm_up M k i.toNatClampNeg (vp_nar .char x)) L cells slots (pc + 1) lv st) : fm_G p l e R s m args below meth c D cA b nL Q lay M L cells slots pc lv (.int x :: .int i :: .ref (b + k) :: st) := by
  intro H locs ls hP hS hl
  refine va_cast hC.1.1 hC.1.2.1 hC.2.1.1 hP fm_D hS k 2 (fm_at hk) rfl hin hd (fun H1 locs1 hP1 _ hS1 => ?_)
  refine kk H1 locs1 ls ?_ hS1 hl
  rw [fm_set' (M' := fm_up M k i.toNatClampNeg (vp_nar .char x)) (L' := L) hk (by simp [fm_cell, fm_row]) (fun j hj e' _ => fm_cell_cong (fm_row_n hj) rfl e')] at hP1
  exact hP1
theorem g_last (hC : fm_C p s m args meth c D cA b cc nL own ret n0) {k n : Nat} {zs : List Nat} {i : Int32} {x : Int64} (hk : lay[k]? = some (2, n, zs)) (hin : vp_in i n) (hd : decode cc pc = .ok (.lastore, 1)) (kk : fm_G p l e R s m args below meth c D cA b nL Q lay M (fm_upL L k i.toNatClampNeg x) cells slots (pc + 1) lv st) : fm_G p l e R s m args below meth c D cA b nL Q lay M L cells slots pc lv (.long x :: .int i :: .ref (b + k) :: st) := by
  intro H locs ls hP hS hl
  refine va_last hC.1.1 hC.1.2.1 hC.2.1.1 hP fm_D hS k 1 (fm_at hk) rfl hin hd (fun H1 locs1 hP1 _ hS1 => ?_)
  refine kk H1 locs1 ls ?_ hS1 hl
  rw [fm_set' (M' := M) (L' := fm_upL L k i.toNatClampNeg x) hk (by simp [fm_cell, fm_rowL]) (fun j hj e' _ => fm_cell_cong rfl (fm_rowL_n hj) e')] at hP1
  exact hP1
theorem g_alen1 (hC : fm_C p s m args meth c D cA b cc nL own ret n0) {k n : Nat} {zs : List Nat} {v : Int32} (hk : lay[k]? = some (1, n, zs)) (hv : Int32.ofNat n = v) (hd : decode cc pc = .ok (.arraylength, 1)) (kk : fm_G p l e R s m args below meth c D cA b nL Q lay M L cells slots (pc + 1) lv (.int v :: st)) : fm_G p l e R s m args below meth c D cA b nL Q lay M L cells slots pc lv (.ref (b + k) :: st) := by
  intro H locs ls hP hS hl
  exact va_alen hC.1.1 hC.1.2.1 hC.2.1.1 hP k 0 (fm_at hk) rfl hv hd (kk H locs ls hP hS hl)
theorem g_alen2 (hC : fm_C p s m args meth c D cA b cc nL own ret n0) {k n : Nat} {zs : List Nat} {v : Int32} (hk : lay[k]? = some (2, n, zs)) (hv : Int32.ofNat n = v) (hd : decode cc pc = .ok (.arraylength, 1)) (kk : fm_G p l e R s m args below meth c D cA b nL Q lay M L cells slots (pc + 1) lv (.int v :: st)) : fm_G p l e R s m args below meth c D cA b nL Q lay M L cells slots pc lv (.ref (b + k) :: st) := by
  intro H locs ls hP hS hl
  exact va_alen hC.1.1 hC.1.2.1 hC.2.1.1 hP k 1 (fm_at hk) rfl hv hd (kk H locs ls hP hS hl)
theorem g_max (hC : fm_C p s m args meth c D cA b cc nL own ret n0) {index : Nat} {x y : Int32} (h1 : Cond.methodLink own index Lib.Math.max.name ∈ fm_all) (h2 : Cond.static Lib.Math.max.name ∈ fm_all) (h3 : Cond.initialized "java/lang/Math" ∈ fm_all) (h4 : Cond.code Lib.Math.max.name Lib.Math.max.code 2 (some .int) ∈ fm_all) (hf : 1 ≤ R.frames) (hlo : (st.map fun v => v.category).sum + 13 ≤ R.locals) (hc : cells ≤ R.cells) (hs : slots ≤ R.slots) (hd : decode cc pc = .ok (.invokestatic index, 3)) (kk : fm_G p l e R s m args below meth c D cA b nL Q lay M L cells slots (pc + 3) lv (.int (if x < y then y else x) :: st)) : fm_G p l e R s m args below meth c D cA b nL Q lay M L cells slots pc lv (.int y :: .int x :: st) := by
  intro H locs ls hP hS hl
  exact va_mmax hC.1.1 hC.1.2.1 (by rw [hC.1.2.2.1]; exact hl.1.symm) hC.1.2.2.2.1 (hC.1.2.2.2.2 _ h1) (hC.1.2.2.2.2 _ h2) (hC.1.2.2.2.2 _ h3) (hC.1.2.2.2.2 _ h4) hf hlo hc hs hd (kk H locs ls hP hS hl)
theorem g_min (hC : fm_C p s m args meth c D cA b cc nL own ret n0) {index : Nat} {x y : Int32} (h1 : Cond.methodLink own index Lib.Math.min.name ∈ fm_all) (h2 : Cond.static Lib.Math.min.name ∈ fm_all) (h3 : Cond.initialized "java/lang/Math" ∈ fm_all) (h4 : Cond.code Lib.Math.min.name Lib.Math.min.code 2 (some .int) ∈ fm_all) (hf : 1 ≤ R.frames) (hlo : (st.map fun v => v.category).sum + 13 ≤ R.locals) (hc : cells ≤ R.cells) (hs : slots ≤ R.slots) (hd : decode cc pc = .ok (.invokestatic index, 3)) (kk : fm_G p l e R s m args below meth c D cA b nL Q lay M L cells slots (pc + 3) lv (.int (if y < x then y else x) :: st)) : fm_G p l e R s m args below meth c D cA b nL Q lay M L cells slots pc lv (.int y :: .int x :: st) := by
  intro H locs ls hP hS hl
  exact va_mmin hC.1.1 hC.1.2.1 (by rw [hC.1.2.2.1]; exact hl.1.symm) hC.1.2.2.2.1 (hC.1.2.2.2.2 _ h1) (hC.1.2.2.2.2 _ h2) (hC.1.2.2.2.2 _ h3) (hC.1.2.2.2.2 _ h4) hf hlo hc hs hd (kk H locs ls hP hS hl)
theorem g_abs (hC : fm_C p s m args meth c D cA b cc nL own ret n0) {index : Nat} {x : Int32} (h1 : Cond.methodLink own index Lib.Math.abs.name ∈ fm_all) (h2 : Cond.static Lib.Math.abs.name ∈ fm_all) (h3 : Cond.initialized "java/lang/Math" ∈ fm_all) (h4 : Cond.code Lib.Math.abs.name Lib.Math.abs.code 1 (some .int) ∈ fm_all) (hf : 1 ≤ R.frames) (hlo : (st.map fun v => v.category).sum + 13 ≤ R.locals) (hc : cells ≤ R.cells) (hs : slots ≤ R.slots) (hd : decode cc pc = .ok (.invokestatic index, 3)) (kk : fm_G p l e R s m args below meth c D cA b nL Q lay M L cells slots (pc + 3) lv (.int (if 0 ≤ x then x else 0 - x) :: st)) : fm_G p l e R s m args below meth c D cA b nL Q lay M L cells slots pc lv (.int x :: st) := by
  intro H locs ls hP hS hl
  exact va_mabs hC.1.1 hC.1.2.1 (by rw [hC.1.2.2.1]; exact hl.1.symm) hC.1.2.2.2.1 (hC.1.2.2.2.2 _ h1) (hC.1.2.2.2.2 _ h2) (hC.1.2.2.2.2 _ h3) (hC.1.2.2.2.2 _ h4) hf hlo hc hs hd (kk H locs ls hP hS hl)
theorem g_objInit (hC : fm_C p s m args meth c D cA b cc nL own ret n0) {index k : Nat} (h1 : Cond.methodLink own index objectInit ∈ fm_all) (h2 : Cond.instanceMethod objectInit ∈ fm_all) (h3 : Cond.code objectInit ⟨#[0xb1]⟩ 1 none ∈ fm_all) (hf : 1 ≤ R.frames) (hlo : (st.map fun v => v.category).sum + 12 ≤ R.locals) (hd : decode cc pc = .ok (.invokespecial index, 3)) (kk : fm_G p l e R s m args below meth c D cA b nL Q lay M L cells slots (pc + 3) lv st) : fm_G p l e R s m args below meth c D cA b nL Q lay M L cells slots pc lv (.ref k :: st) := by
  intro H locs ls hP hS hl
  refine W.objInit hC.1.1 hC.1.2.1 hC.1.2.2.2.1 (hC.1.2.2.2.2 _ h1) (hC.1.2.2.2.2 _ h2) (hC.1.2.2.2.2 _ h3) rfl (by rw [hC.1.2.2.1]; exact hl.1) rfl hd hf (by show 2 * 0 + _ + 12 ≤ _; omega) (kk H locs ls hP hS hl)
theorem g_zret (hC : fm_C p s m args meth c D cA b cc nL own ret n0) {v : Int32} {ty : FieldType} {post : Option Value → (Nat → Nat → Int32) → (Nat → Nat → Int64) → Prop} (hr : ret = some ty) (hn : narrow ty (.int v) = .int v) (hd : decode cc pc = .ok (.ireturn, 1)) (hp : post (some (.int v)) M L) : fm_G p l e R s m args below meth c D cA b nL (MQ below (fm_Q D cA b lay post) args s cells slots (fun q => b ≤ q)) lay M L cells slots pc lv [.int v] := by
  intro H locs ls hP hS hl
  exact W.zret hC.1.1 hC.1.2.1 (by rw [hC.2.2.2.1, hr]) hn (fun t ht hW => ⟨⟨(some (.int v)), M, L, rfl, hp, by rw [ht]; exact hP⟩, hS.F ht⟩) hS.2.2 hd hC.2.2.2.2
theorem g_lret (hC : fm_C p s m args meth c D cA b cc nL own ret n0) {v : Int64} {post : Option Value → (Nat → Nat → Int32) → (Nat → Nat → Int64) → Prop} (hr : ret = some .long) (hd : decode cc pc = .ok (.lreturn, 1)) (hp : post (some (.long v)) M L) : fm_G p l e R s m args below meth c D cA b nL (MQ below (fm_Q D cA b lay post) args s cells slots (fun q => b ≤ q)) lay M L cells slots pc lv [.long v] := by
  intro H locs ls hP hS hl
  exact W.lret hC.1.1 hC.1.2.1 (by rw [hC.2.2.2.1, hr]) (fun t ht hW => ⟨⟨(some (.long v)), M, L, rfl, hp, by rw [ht]; exact hP⟩, hS.F ht⟩) hS.2.2 hd hC.2.2.2.2
theorem g_vret (hC : fm_C p s m args meth c D cA b cc nL own ret n0)  {post : Option Value → (Nat → Nat → Int32) → (Nat → Nat → Int64) → Prop} (hr : ret = none) (hd : decode cc pc = .ok (.return_, 1)) (hp : post none M L) : fm_G p l e R s m args below meth c D cA b nL (MQ below (fm_Q D cA b lay post) args s cells slots (fun q => b ≤ q)) lay M L cells slots pc lv [] := by
  intro H locs ls hP hS hl
  exact W.vret hC.1.1 hC.1.2.1 (by rw [hC.2.2.2.1, hr]) (fun t ht hW => ⟨⟨none, M, L, rfl, hp, by rw [ht]; exact hP⟩, hS.F ht⟩) hS.2.2 hd hC.2.2.2.2
end FMR
end
section
/-! ===== calls and the making of cells ===== -/
section FMC
variable {p : Program} {l : Launch} {e : Env} {R : Room} {s : State} {m : MethodId} {args : Array Value} {below : List Frame} {meth : Method} {c : Code} {Q : State → Prop} {D : va_G} {cA : Nat → ClassId} {b nL : Nat} {lay lay' : List fm_E} {M : Nat → Nat → Int32} {L : Nat → Nat → Int64} {cells slots pc : Nat} {lv : List (Nat × Value)} {st : List Value} {cc : ByteArray} {own : String} {ret : Option FieldType} {n0 : Nat}
variable {y : MethodName} {bytes : ByteArray} {maxL : Nat} {ret' : Option FieldType} {fr lo mc ms index : Nat} {as rest : List Value} {post : Option Value → (Nat → Nat → Int32) → (Nat → Nat → Int64) → Prop}
def fm_linkV (own : String) (index : Nat) (C : String) (y : MethodName) (bytes : ByteArray) (maxL : Nat) (ret : Option FieldType) : Prop := Cond.methodLink own index y ∈ fm_all ∧ Cond.instanceMethod y ∈ fm_all ∧ Cond.selects C y y ∈ fm_all ∧ Cond.initialized C ∈ fm_all ∧ Cond.code y bytes maxL ret ∈ fm_all
def fm_linkS (own : String) (index : Nat) (y : MethodName) (bytes : ByteArray) (maxL : Nat) (ret : Option FieldType) : Prop := Cond.methodLink own index y ∈ fm_all ∧ Cond.static y ∈ fm_all ∧ Cond.initialized y.cls ∈ fm_all ∧ Cond.code y bytes maxL ret ∈ fm_all
def fm_linkI (own : String) (index : Nat) (y : MethodName) (bytes : ByteArray) (maxL : Nat) : Prop := Cond.methodLink own index y ∈ fm_all ∧ Cond.instanceMethod y ∈ fm_all ∧ Cond.initialized y.cls ∈ fm_all ∧ Cond.code y bytes maxL none ∈ fm_all
def fm_linkSN (own : String) (index : Nat) (y : MethodName) (host : String) (bytes : ByteArray) (maxL : Nat) (ret : Option FieldType) : Prop := (own, index, y, host) ∈ fm_nests ∧ Cond.static y ∈ fm_all ∧ Cond.initialized y.cls ∈ fm_all ∧ Cond.code y bytes maxL ret ∈ fm_all
def fm_linkIN (own : String) (index : Nat) (y : MethodName) (host : String) (bytes : ByteArray) (maxL : Nat) : Prop := (own, index, y, host) ∈ fm_nests ∧ Cond.instanceMethod y ∈ fm_all ∧ Cond.initialized y.cls ∈ fm_all ∧ Cond.code y bytes maxL none ∈ fm_all
theorem fm_goodV {C : String} (h : fm_linkV own index C y bytes maxL ret') : GoodIn fm_all (wsV own index C y (fm_ws y bytes maxL ret')) := fun w hw => by
  rcases List.mem_append.mp hw with q | q
  · have hm : w ∈ fm_all := by
      simp only [List.mem_cons, List.not_mem_nil, or_false] at q
      rcases q with rfl | rfl | rfl | rfl
      · exact h.1
      · exact h.2.1
      · exact h.2.2.1
      · exact h.2.2.2.1
    exact ⟨hm, good_of_word (fm_good hm)⟩
  · exact fm_goodIn h.2.2.2.2 w q
theorem fm_goodS (h : fm_linkS own index y bytes maxL ret') : GoodIn fm_all (va_wsS own index y (fm_ws y bytes maxL ret')) := fun w hw => by
  rcases List.mem_append.mp hw with q | q
  · have hm : w ∈ fm_all := by
      simp only [List.mem_cons, List.not_mem_nil, or_false] at q
      rcases q with rfl | rfl | rfl
      · exact h.1
      · exact h.2.1
      · exact h.2.2.1
    exact ⟨hm, good_of_word (fm_good hm)⟩
  · exact fm_goodIn h.2.2.2 w q
theorem fm_blind {as : List Value} : FrameBlind (va_Pc as (fun U => fm_P D cA b lay M L U.heap ∧ fm_K D cA U ∧ U.heap.size = b + lay.length)) := fun _ _ _ _ q => ⟨q.1, q.2.1, q.2.2.1.calling, q.2.2.2⟩
theorem fm_catR {m : MethodId} {ls : Array Slot} {st : List Value} (h : (rest.map fun v => v.category).sum ≤ 8) : 2 * (F0 m pc ls st).monitorRoom + (rest.map fun v => v.category).sum ≤ 8 := lv_room h
theorem fm_behind {H : Heap} {locs : List Loc} {ls : Array Slot} (hS : va_S (fun q => b ≤ q) s.heap H locs) (hv : lv_has ls nL lv)
    (hr : va_Run p l e R s m args below meth c H locs cells slots mc ms (F0 m pc ls st) rest (fm_Q D cA b lay' post as.toArray) (fun q => b ≤ q))
    (kk : ∀ (v : Option Value) (M' : Nat → Nat → Int32) (L' : Nat → Nat → Int64), post v M' L' → fm_G p l e R s m args below meth c D cA b nL Q lay' M' L' (cells + mc) (slots + ms) (pc + 3) lv (v.toList ++ rest)) :
    W p l e R s m args below meth c H locs cells slots Q (F0 m pc ls st) := by
  intro T hT X
  obtain ⟨v, st₀, t, T', L1, h0, X', hL, e1, e2, ⟨⟨v', M', L', hv', hp, hP'⟩, hz1, hk1⟩, stp⟩ := hr T hT X
  cases hv'
  rw [h0] at hz1 hk1
  obtain ⟨t2, a1, b1⟩ := kk v M' L' hp T'.heap (locs ++ L1) ls (by rw [e1]; exact hP')
    ⟨Nat.le_trans hS.1 (by rw [e1]; exact hz1), fun q h1 h2 => by rw [e1, hk1 q (Nat.lt_of_lt_of_le h1 hS.1) h2]; exact hS.2.1 q h1 h2, fun q hq => (List.mem_append.mp hq).elim (fun h => hS.2.2 q h) (fun h => hL q h)⟩ hv T' rfl X'
  exact ⟨t2, stp t2 a1, b1⟩
abbrev fm_KK (p : Program) (l : Launch) (e : Env) (R : Room) (s : State) (m : MethodId) (args : Array Value) (below : List Frame) (meth : Method) (c : Code) (D : va_G) (cA : Nat → ClassId) (b nL : Nat) (Q : State → Prop) (lay' : List fm_E) (cells slots mc ms pc : Nat) (lv : List (Nat × Value)) (rest : List Value) (post : Option Value → (Nat → Nat → Int32) → (Nat → Nat → Int64) → Prop) : Prop :=
  ∀ (v : Option Value) (M' : Nat → Nat → Int32) (L' : Nat → Nat → Int64), post v M' L' → fm_G p l e R s m args below meth c D cA b nL Q lay' M' L' (cells + mc) (slots + ms) (pc + 3) lv (v.toList ++ rest)
theorem g_callV (hC : fm_C p s m args meth c D cA b cc nL own ret n0) {C : String} {T : u_T} {N ci k : Nat} {zs : List Nat} (hM : fm_Met l D cA b y bytes maxL ret' fr lo mc ms (.ref (b + k) :: as) lay M L lay' post) (hl : fm_linkV own index C y bytes maxL ret')
    (hd : y.cls = C ∧ y.cls ≠ "java/lang/invoke/MethodHandle" ∧ y.cls ≠ "java/lang/invoke/VarHandle" ∧ (parseMethodDescriptor y.desc).map (fun d => d.parameters.length) = some as.length) (hc : vwCl[ci]? = some (C, T, N)) (hk : lay[k]? = some (0, ci, zs))
    (hR : fr + 1 ≤ R.frames ∧ 8 + (maxL + 11) + lo ≤ R.locals) (hf : cells + mc ≤ R.cells ∧ slots + ms ≤ R.slots) (hct : lay.length = n0 + cells) (hst : st = as.reverse ++ .ref (b + k) :: rest) (hW : (rest.map fun v => v.category).sum ≤ 8) (hdg : decode cc pc = .ok (.invokevirtual index, 3))
    (kk : fm_KK p l e R s m args below meth c D cA b nL Q lay' cells slots mc ms pc lv rest post) : fm_G p l e R s m args below meth c D cA b nL Q lay M L cells slots pc lv st := by
  intro H locs ls hP hS hv T hT X
  have hz := fm_size X hT hP hC.2.2.1 hct
  exact fm_behind (as := .ref (b + k) :: as) hS hv (va_runV (As := as) (rest := rest) hC.1 hM (cwV as.length hC.1.2.2.2.2 (fm_goodV hl) rfl rfl rfl hd hR) ⟨fm_blind, va_recv hC.2.1.1 hP hc (fm_at hk), fun U hU hW' => ⟨rfl, by rw [hU]; exact hP, hC.2.1.warm hW', by rw [hU]; exact hz⟩⟩ rfl rfl hv.1 hst (fm_catR hW) hdg hf) kk T hT X
theorem g_callS (hC : fm_C p s m args meth c D cA b cc nL own ret n0) (hM : fm_Met l D cA b y bytes maxL ret' fr lo mc ms as lay M L lay' post) (hl : fm_linkS own index y bytes maxL ret')
    (hd : y.cls ≠ "java/lang/invoke/MethodHandle" ∧ y.cls ≠ "java/lang/invoke/VarHandle" ∧ (parseMethodDescriptor y.desc).map (fun d => d.parameters.length) = some as.length)
    (hR : fr + 1 ≤ R.frames ∧ 8 + (maxL + 11) + lo ≤ R.locals) (hf : cells + mc ≤ R.cells ∧ slots + ms ≤ R.slots) (hct : lay.length = n0 + cells) (hst : st = as.reverse ++ rest) (hW : (rest.map fun v => v.category).sum ≤ 8) (hdg : decode cc pc = .ok (.invokestatic index, 3))
    (kk : fm_KK p l e R s m args below meth c D cA b nL Q lay' cells slots mc ms pc lv rest post) : fm_G p l e R s m args below meth c D cA b nL Q lay M L cells slots pc lv st := by
  intro H locs ls hP hS hv T hT X
  have hz := fm_size X hT hP hC.2.2.1 hct
  exact fm_behind (as := as) hS hv (va_runS (As := as) (rest := rest) hC.1 hM (va_cwS as.length hC.1.2.2.2.2 (fm_goodS hl) rfl rfl rfl hd hR) ⟨fm_blind, fun U hU hW' => ⟨rfl, by rw [hU]; exact hP, hC.2.1.warm hW', by rw [hU]; exact hz⟩⟩ rfl rfl hv.1 hst (fm_catR hW) hdg hf) kk T hT X
theorem g_callSN (hC : fm_C p s m args meth c D cA b cc nL own ret n0) {host : String} (hM : fm_Met l D cA b y bytes maxL ret' fr lo mc ms as lay M L lay' post) (hl : fm_linkSN own index y host bytes maxL ret')
    (hd : y.cls ≠ "java/lang/invoke/MethodHandle" ∧ y.cls ≠ "java/lang/invoke/VarHandle" ∧ (parseMethodDescriptor y.desc).map (fun d => d.parameters.length) = some as.length)
    (hR : fr + 1 ≤ R.frames ∧ 8 + (maxL + 11) + lo ≤ R.locals) (hf : cells + mc ≤ R.cells ∧ slots + ms ≤ R.slots) (hct : lay.length = n0 + cells) (hst : st = as.reverse ++ rest) (hW : (rest.map fun v => v.category).sum ≤ 8) (hdg : decode cc pc = .ok (.invokestatic index, 3))
    (kk : fm_KK p l e R s m args below meth c D cA b nL Q lay' cells slots mc ms pc lv rest post) : fm_G p l e R s m args below meth c D cA b nL Q lay M L cells slots pc lv st := by
  intro H locs ls hP hS hv T hT X
  have hz := fm_size X hT hP hC.2.2.1 hct
  exact fm_behind (as := as) hS hv (va_runSN (As := as) (rest := rest) hC.1 hM ⟨va_cnB as.length hC.1.2.2.2.2 (fm_goodIn hl.2.2.2) rfl rfl rfl (hC.2.1.2.1 _ hl.1) (hC.1.2.2.2.2 _ hl.2.2.1) hd hR, hC.1.2.2.2.2 _ hl.2.1, trivial⟩ ⟨fm_blind, fun U hU hW' => ⟨rfl, by rw [hU]; exact hP, hC.2.1.warm hW', by rw [hU]; exact hz⟩⟩ rfl rfl hv.1 hst (fm_catR hW) hdg hf) kk T hT X
theorem g_callI (hC : fm_C p s m args meth c D cA b cc nL own ret n0) {k : Nat} (hM : fm_Met l D cA b y bytes maxL none fr lo mc ms (.ref (b + k) :: as) lay M L lay' post) (hl : fm_linkI own index y bytes maxL) (hn : y.name = "<init>")
    (hd : y.cls ≠ "java/lang/invoke/MethodHandle" ∧ y.cls ≠ "java/lang/invoke/VarHandle" ∧ (parseMethodDescriptor y.desc).map (fun d => d.parameters.length) = some as.length)
    (hR : fr + 1 ≤ R.frames ∧ 8 + (maxL + 11) + lo ≤ R.locals) (hf : cells + mc ≤ R.cells ∧ slots + ms ≤ R.slots) (hct : lay.length = n0 + cells) (hst : st = as.reverse ++ .ref (b + k) :: rest) (hW : (rest.map fun v => v.category).sum ≤ 8) (hdg : decode cc pc = .ok (.invokespecial index, 3))
    (kk : fm_KK p l e R s m args below meth c D cA b nL Q lay' cells slots mc ms pc lv rest post) : fm_G p l e R s m args below meth c D cA b nL Q lay M L cells slots pc lv st := by
  intro H locs ls hP hS hv T hT X
  have hz := fm_size X hT hP hC.2.2.1 hct
  exact fm_behind (as := .ref (b + k) :: as) hS hv (va_runI (As := as) (rest := rest) hC.1 hM (cwI as.length hC.1.2.2.2.2 (fm_goodIn hl.2.2.2) rfl rfl rfl (hC.1.2.2.2.2 _ hl.2.2.1) (hC.1.2.2.2.2 _ hl.1) (hC.1.2.2.2.2 _ hl.2.1) hn hd hR) ⟨fm_blind, fun U hU hW' => ⟨rfl, by rw [hU]; exact hP, hC.2.1.warm hW', by rw [hU]; exact hz⟩⟩ rfl rfl hv.1 hst (fm_catR hW) hdg hf) kk T hT X
theorem g_callIN (hC : fm_C p s m args meth c D cA b cc nL own ret n0) {k : Nat} {host : String} (hM : fm_Met l D cA b y bytes maxL none fr lo mc ms (.ref (b + k) :: as) lay M L lay' post) (hl : fm_linkIN own index y host bytes maxL) (hn : y.name = "<init>")
    (hd : y.cls ≠ "java/lang/invoke/MethodHandle" ∧ y.cls ≠ "java/lang/invoke/VarHandle" ∧ (parseMethodDescriptor y.desc).map (fun d => d.parameters.length) = some as.length)
    (hR : fr + 1 ≤ R.frames ∧ 8 + (maxL + 11) + lo ≤ R.locals) (hf : cells + mc ≤ R.cells ∧ slots + ms ≤ R.slots) (hct : lay.length = n0 + cells) (hst : st = as.reverse ++ .ref (b + k) :: rest) (hW : (rest.map fun v => v.category).sum ≤ 8) (hdg : decode cc pc = .ok (.invokespecial index, 3))
    (kk : fm_KK p l e R s m args below meth c D cA b nL Q lay' cells slots mc ms pc lv rest post) : fm_G p l e R s m args below meth c D cA b nL Q lay M L cells slots pc lv st := by
  intro H locs ls hP hS hv T hT X
  have hz := fm_size X hT hP hC.2.2.1 hct
  exact fm_behind (as := .ref (b + k) :: as) hS hv (va_runIN (As := as) (rest := rest) hC.1 hM ⟨va_cnB as.length hC.1.2.2.2.2 (fm_goodIn hl.2.2.2) rfl rfl rfl (hC.2.1.2.1 _ hl.1) (hC.1.2.2.2.2 _ hl.2.2.1) hd hR, hn, hC.1.2.2.2.2 _ hl.2.1⟩ ⟨fm_blind, fun U hU hW' => ⟨rfl, by rw [hU]; exact hP, hC.2.1.warm hW', by rw [hU]; exact hz⟩⟩ rfl rfl hv.1 hst (fm_catR hW) hdg hf) kk T hT X
/-- an answer that is an int, the memory as it was -/
abbrev fm_pi (r : Int32) (M : Nat → Nat → Int32) (L : Nat → Nat → Int64) : Option Value → (Nat → Nat → Int32) → (Nat → Nat → Int64) → Prop := fun v M' L' => v = some (.int r) ∧ M' = M ∧ L' = L
theorem g_ri {r : Int32} (kk : fm_G p l e R s m args below meth c D cA b nL Q lay M L cells slots (pc + 3) lv (.int r :: rest)) : fm_KK p l e R s m args below meth c D cA b nL Q lay cells slots 0 0 pc lv rest (fm_pi r M L) := by
  intro v M' L' h
  obtain ⟨rfl, rfl, rfl⟩ := h
  exact kk
/-- the memory as it was, an int answer of which 'ok' is said -/
theorem g_ra {ok : Int32 → Prop} (kk : ∀ r : Int32, ok r → fm_G p l e R s m args below meth c D cA b nL Q lay M L cells slots (pc + 3) lv (.int r :: rest)) : fm_KK p l e R s m args below meth c D cA b nL Q lay cells slots 0 0 pc lv rest (fun v M' L' => ∃ r, v = some (.int r) ∧ M' = M ∧ L' = L ∧ ok r) := by
  intro v M' L' h
  obtain ⟨r, rfl, rfl, rfl, h⟩ := h
  exact kk r h
/-- an int answer and new memory -/
abbrev fm_pm (ok : Int32 → (Nat → Nat → Int32) → (Nat → Nat → Int64) → Prop) : Option Value → (Nat → Nat → Int32) → (Nat → Nat → Int64) → Prop := fun v M' L' => ∃ r, v = some (.int r) ∧ ok r M' L'
theorem g_rm {ok : Int32 → (Nat → Nat → Int32) → (Nat → Nat → Int64) → Prop} (kk : ∀ (r : Int32) (M' : Nat → Nat → Int32) (L' : Nat → Nat → Int64), ok r M' L' → fm_G p l e R s m args below meth c D cA b nL Q lay' M' L' (cells + mc) (slots + ms) (pc + 3) lv (.int r :: rest)) : fm_KK p l e R s m args below meth c D cA b nL Q lay' cells slots mc ms pc lv rest (fm_pm ok) := by
  intro v M' L' h
  obtain ⟨r, rfl, h⟩ := h
  exact kk r M' L' h
abbrev fm_pv (ok : (Nat → Nat → Int32) → (Nat → Nat → Int64) → Prop) : Option Value → (Nat → Nat → Int32) → (Nat → Nat → Int64) → Prop := fun v M' L' => v = none ∧ ok M' L'
theorem g_rv {ok : (Nat → Nat → Int32) → (Nat → Nat → Int64) → Prop} (kk : ∀ (M' : Nat → Nat → Int32) (L' : Nat → Nat → Int64), ok M' L' → fm_G p l e R s m args below meth c D cA b nL Q lay' M' L' (cells + mc) (slots + ms) (pc + 3) lv rest) : fm_KK p l e R s m args below meth c D cA b nL Q lay' cells slots mc ms pc lv rest (fm_pv ok) := by
  intro v M' L' h
  obtain ⟨rfl, h⟩ := h
  exact kk M' L' h
abbrev fm_pl (ok : Int64 → (Nat → Nat → Int32) → (Nat → Nat → Int64) → Prop) : Option Value → (Nat → Nat → Int32) → (Nat → Nat → Int64) → Prop := fun v M' L' => ∃ r, v = some (.long r) ∧ ok r M' L'
theorem g_rl {ok : Int64 → (Nat → Nat → Int32) → (Nat → Nat → Int64) → Prop} (kk : ∀ (r : Int64) (M' : Nat → Nat → Int32) (L' : Nat → Nat → Int64), ok r M' L' → fm_G p l e R s m args below meth c D cA b nL Q lay' M' L' (cells + mc) (slots + ms) (pc + 3) lv (.long r :: rest)) : fm_KK p l e R s m args below meth c D cA b nL Q lay' cells slots mc ms pc lv rest (fm_pl ok) := by
  intro v M' L' h
  obtain ⟨r, rfl, h⟩ := h
  exact kk r M' L' h
/-! the making of cells -/
theorem fm_push {M' : Nat → Nat → Int32} {L' : Nat → Nat → Int64} {H H1 : Heap} {e : fm_E} (hP : fm_P D cA b lay M L H) (hM : ∀ j, j < lay.length → M' j = M j) (hL : ∀ j, j < lay.length → L' j = L j) (hz : H.size = b + lay.length) (o1 : ∀ q, q < b + lay.length → H1[q]? = H[q]?) (hn : va_at D vwCl (b + lay.length, fm_cell cA b M' L' lay.length e) H1) : fm_P D cA b (lay ++ [e]) M' L' H1 := by
  intro k q hk
  rw [fm_w_get, Nat.zero_add] at hk
  rcases Nat.lt_or_ge k lay.length with h | h
  · rw [List.getElem?_append_left h, List.getElem?_eq_getElem h] at hk
    simp only [Option.map_some, Option.some.injEq] at hk
    subst hk
    have h1 := hP k _ (fm_at (List.getElem?_eq_getElem h))
    rw [fm_cell_cong (hM k h) (hL k h)]
    exact h1.kept (o1 _ (by omega))
  · rw [List.getElem?_append_right h] at hk
    have h0 : k - lay.length = 0 := by
      cases hj : k - lay.length with
      | zero => rfl
      | succ j => rw [hj] at hk; simp at hk
    rw [h0] at hk
    simp only [List.getElem?_cons_zero, Option.map_some, Option.some.injEq] at hk
    subst hk
    have : k = lay.length := by omega
    subst this
    exact hn
theorem fm_pushS {H H1 : Heap} {locs : List Loc} {n : Nat} (hS : va_S (fun q => b ≤ q) s.heap H locs) (hz : H.size = b + n) (z1 : H1.size = b + n + 1) (o1 : ∀ q, q < b + n → H1[q]? = H[q]?) : va_S (fun q => b ≤ q) s.heap H1 locs :=
  ⟨Nat.le_trans hS.1 (by omega), fun x h1 h2 => (o1 x (by omega)).trans (hS.2.1 x h1 h2), hS.2.2⟩
theorem g_new (hC : fm_C p s m args meth c D cA b cc nL own ret n0) {C : String} {T : u_T} {N ci : Nat} {zs : List Nat} (hin : ∀ w ∈ u_ws C T N, w ∈ fm_all) (ty0 : Nat → FieldType) (hty : ∀ k, k < N → parseFieldDescriptor (T k).2.2.1 = some (ty0 k)) (hc : vwCl[ci]? = some (C, T, N)) (h1 : Cond.classLink own index C ∈ fm_all) (h2 : Cond.instantiable C N ∈ fm_all) (h3 : Cond.initialized C ∈ fm_all)
    (hfs : ∀ j, j < N → defaultValue (ty0 j) = vp_V (fm_fs b (fm_row M lay.length (fun _ => 0)) lay.length 0 zs) j) (hct : lay.length = n0 + cells) (hcells : cells + 1 ≤ R.cells) (hslots : slots + N ≤ R.slots) (hd : decode cc pc = .ok (.new index, 3))
    (kk : fm_G p l e R s m args below meth c D cA b nL Q (lay ++ [(0, ci, zs)]) (fm_row M lay.length (fun _ => 0)) L (cells + 1) (slots + N) (pc + 3) lv (.ref (b + lay.length) :: st)) : fm_G p l e R s m args below meth c D cA b nL Q lay M L cells slots pc lv st := by
  intro H locs ls hP hS hv T hT X
  have hz := fm_size X hT hP hC.2.2.1 hct
  have hKn := hC.2.1.1.1 ci _ hc
  have w : W p l e R s m args below meth c H locs cells slots Q (F0 m pc ls st) := by
    refine W.newcK hC.1.1 hC.1.2.1 hC.1.2.2.2.1 (hC.1.2.2.2.2 _ h1) (hC.1.2.2.2.2 _ h2) (hC.1.2.2.2.2 _ h3) rfl hd hcells hslots hKn.2.1 hz (fun H1 kC hkC e1 z1 o1 => ?_)
    refine kk H1 locs ls (fm_push hP (fun j hj => fm_row_n (Nat.ne_of_lt hj)) (fun j hj => rfl) hz o1 ?_) (fm_pushS hS hz z1 o1) hv
    exact ⟨_, hc, (u_born ty0 hC.1.2.2.2.2 hin hKn hkC e1 hty).to hfs⟩
  exact w T hT X
theorem fm_ca {D : va_G} {cA : Nat → ClassId} {t0 : Nat} {ty : FieldType} {k : Nat} {cA' : ClassId} (hK : fm_K D cA s) (ht : (fm_tys cA)[t0]? = some (cA k, ty)) (hN : s.vm.findClass ("[" ++ ty.toString) = some cA') : cA' = cA k := by
  have h := (hK.1.2 t0 _ ht).2
  have h2 : s.vm.findClass ("[" ++ ty.toString) = some (cA k) := by
    cases ty with
    | object C => obtain ⟨_, _, -, -, -, h⟩ := h; exact h
    | _ => exact h
  exact Option.some.inj (hN.symm.trans h2)
theorem g_newI (hC : fm_C p s m args meth c D cA b cc nL own ret n0) {n : Int32} (N : Nat) (ha : Cond.arrayClass .int ∈ fm_all) (hn : ¬ n < 0) (hN : n.toNatClampNeg = N) (hb : N * 4 ≤ 536870912) (hct : lay.length = n0 + cells) (hcells : cells + 1 ≤ R.cells) (hslots : slots + N ≤ R.slots) (hd : decode cc pc = .ok (.newarray .int, 2))
    (kk : fm_G p l e R s m args below meth c D cA b nL Q (lay ++ [(1, N, [])]) (fm_row M lay.length (fun _ => 0)) L (cells + 1) (slots + N) (pc + 2) lv (.ref (b + lay.length) :: st)) : fm_G p l e R s m args below meth c D cA b nL Q lay M L cells slots pc lv (.int n :: st) := by
  intro H locs ls hP hS hv T hT X
  have hz := fm_size X hT hP hC.2.2.1 hct
  have w : W p l e R s m args below meth c H locs cells slots Q (F0 m pc ls (.int n :: st)) := by
    refine va_newaK (atype := .int) hC.1.1 hC.1.2.1 (hC.1.2.2.2.2 _ ha) rfl hd rfl hn hN hb hcells hslots hz (fun H1 cA' e1 z1 o1 _ hNm => ?_)
    refine kk H1 locs ls (fm_push hP (fun j hj => fm_row_n (Nat.ne_of_lt hj)) (fun j hj => rfl) hz o1 ?_) (fm_pushS hS hz z1 o1) hv
    show H1[b + lay.length]? = some (vp_cell (cA 1) (N, .inl (fm_row M lay.length (fun _ => 0) lay.length)))
    rw [e1, fm_row_s, vp_cell_i, fm_ca hC.2.1 (t0 := 0) (k := 1) (ty := .int) rfl hNm]
    rfl
  exact w T hT X
theorem g_newC (hC : fm_C p s m args meth c D cA b cc nL own ret n0) {n : Int32} (N : Nat) (ha : Cond.arrayClass .char ∈ fm_all) (hn : ¬ n < 0) (hN : n.toNatClampNeg = N) (hb : N * 2 ≤ 536870912) (hct : lay.length = n0 + cells) (hcells : cells + 1 ≤ R.cells) (hslots : slots + N ≤ R.slots) (hd : decode cc pc = .ok (.newarray .char, 2))
    (kk : fm_G p l e R s m args below meth c D cA b nL Q (lay ++ [(3, N, [])]) (fm_row M lay.length (fun _ => 0)) L (cells + 1) (slots + N) (pc + 2) lv (.ref (b + lay.length) :: st)) : fm_G p l e R s m args below meth c D cA b nL Q lay M L cells slots pc lv (.int n :: st) := by
  intro H locs ls hP hS hv T hT X
  have hz := fm_size X hT hP hC.2.2.1 hct
  have w : W p l e R s m args below meth c H locs cells slots Q (F0 m pc ls (.int n :: st)) := by
    refine va_newaK (atype := .char) hC.1.1 hC.1.2.1 (hC.1.2.2.2.2 _ ha) rfl hd rfl hn hN hb hcells hslots hz (fun H1 cA' e1 z1 o1 _ hNm => ?_)
    refine kk H1 locs ls (fm_push hP (fun j hj => fm_row_n (Nat.ne_of_lt hj)) (fun j hj => rfl) hz o1 ?_) (fm_pushS hS hz z1 o1) hv
    show H1[b + lay.length]? = some (vp_cell (cA 3) (N, .inl (fm_row M lay.length (fun _ => 0) lay.length)))
    rw [e1, fm_row_s, vp_cell_i, fm_ca hC.2.1 (t0 := 2) (k := 3) (ty := .char) rfl hNm]
    rfl
  exact w T hT X
theorem g_newJ (hC : fm_C p s m args meth c D cA b cc nL own ret n0) {n : Int32} (N : Nat) (ha : Cond.arrayClass .long ∈ fm_all) (hn : ¬ n < 0) (hN : n.toNatClampNeg = N) (hb : N * 8 ≤ 536870912) (hct : lay.length = n0 + cells) (hcells : cells + 1 ≤ R.cells) (hslots : slots + N ≤ R.slots) (hd : decode cc pc = .ok (.newarray .long, 2))
    (kk : fm_G p l e R s m args below meth c D cA b nL Q (lay ++ [(2, N, [])]) M (fm_rowL L lay.length (fun _ => 0)) (cells + 1) (slots + N) (pc + 2) lv (.ref (b + lay.length) :: st)) : fm_G p l e R s m args below meth c D cA b nL Q lay M L cells slots pc lv (.int n :: st) := by
  intro H locs ls hP hS hv T hT X
  have hz := fm_size X hT hP hC.2.2.1 hct
  have w : W p l e R s m args below meth c H locs cells slots Q (F0 m pc ls (.int n :: st)) := by
    refine va_newaK (atype := .long) hC.1.1 hC.1.2.1 (hC.1.2.2.2.2 _ ha) rfl hd rfl hn hN hb hcells hslots hz (fun H1 cA' e1 z1 o1 _ hNm => ?_)
    refine kk H1 locs ls (fm_push hP (fun j hj => rfl) (fun j hj => fm_rowL_n (Nat.ne_of_lt hj)) hz o1 ?_) (fm_pushS hS hz z1 o1) hv
    show H1[b + lay.length]? = some (vp_cell (cA 2) (N, .inr (.inl (fm_rowL L lay.length (fun _ => 0) lay.length))))
    rw [e1, fm_rowL_s, vp_cell_l, fm_ca hC.2.1 (t0 := 1) (k := 2) (ty := .long) rfl hNm]
    rfl
  exact w T hT X
theorem fm_tg0 (b N : Nat) : fm_tg b (List.replicate N 0) = fun _ => none := by
  funext j
  have h : (List.replicate N 0).getD j 0 = 0 := by
    simp only [List.getD, List.getElem?_replicate]
    split <;> rfl
  show (match (List.replicate N 0).getD j 0 with | 0 => none | t + 1 => some (b + t)) = none
  rw [h]
theorem g_newQ4 (hC : fm_C p s m args meth c D cA b cc nL own ret n0) {n : Int32} (N : Nat) (ha : Cond.classLink own index RX1 ∈ fm_all) (hn : ¬ n < 0) (hN : n.toNatClampNeg = N) (hb : N * 4 ≤ 536870912) (hct : lay.length = n0 + cells) (hcells : cells + 1 ≤ R.cells) (hslots : slots + N ≤ R.slots) (hd : decode cc pc = .ok (.anewarray index, 3))
    (kk : fm_G p l e R s m args below meth c D cA b nL Q (lay ++ [(4, N, List.replicate N 0)]) M L (cells + 1) (slots + N) (pc + 3) lv (.ref (b + lay.length) :: st)) : fm_G p l e R s m args below meth c D cA b nL Q lay M L cells slots pc lv (.int n :: st) := by
  intro H locs ls hP hS hv T hT X
  have hz := fm_size X hT hP hC.2.2.1 hct
  subst hN
  have w : W p l e R s m args below meth c H locs cells slots Q (F0 m pc ls (.int n :: st)) := by
    refine W.anew hC.1.1 hC.1.2.1 hC.1.2.2.2.1 (hC.1.2.2.2.2 _ ha) (va_AO.use hC.2.1.2.2.1) rfl hd rfl hn hb hcells hslots (fun cA' kA comp f1 f2 f3 f4 => ?_)
    generalize hH1 : H.push ({ cls := cA', slots := Array.replicate n.toNatClampNeg .null, vm := .none } : Cell) = H1
    have z1 : H1.size = b + lay.length + 1 := by rw [← hH1, Array.size_push, hz]
    have e1 : H1[b + lay.length]? = some (arrV cA' n.toNatClampNeg (fun _ => .null)) := by rw [← hH1, ← hz, Array.getElem?_push_size, ← arrV_new]
    have o1 : ∀ q : Nat, q < b + lay.length → H1[q]? = H[q]? := fun q hq => by rw [← hH1, Array.getElem?_push, if_neg (Nat.ne_of_lt (by rw [hz]; exact hq))]
    have k1 := kk H1 locs ls (fm_push hP (fun j hj => rfl) (fun j hj => rfl) hz o1 (by
      show H1[b + lay.length]? = some (vp_cell (cA 4) (n.toNatClampNeg, .inr (.inr (.inr (.inr (fm_tg b (List.replicate n.toNatClampNeg 0)))))))
      rw [e1, vp_cell_q, fm_tg0, fm_ca hC.2.1 (t0 := 3) (k := 4) (ty := .object RX1) rfl f1]
      rfl)) (fm_pushS hS hz z1 o1) hv
    rw [← hz] at k1
    exact k1
  exact w T hT X
theorem g_newQ5 (hC : fm_C p s m args meth c D cA b cc nL own ret n0) {n : Int32} (N : Nat) (ha : Cond.classLink own index RX3 ∈ fm_all) (hn : ¬ n < 0) (hN : n.toNatClampNeg = N) (hb : N * 4 ≤ 536870912) (hct : lay.length = n0 + cells) (hcells : cells + 1 ≤ R.cells) (hslots : slots + N ≤ R.slots) (hd : decode cc pc = .ok (.anewarray index, 3))
    (kk : fm_G p l e R s m args below meth c D cA b nL Q (lay ++ [(5, N, List.replicate N 0)]) M L (cells + 1) (slots + N) (pc + 3) lv (.ref (b + lay.length) :: st)) : fm_G p l e R s m args below meth c D cA b nL Q lay M L cells slots pc lv (.int n :: st) := by
  intro H locs ls hP hS hv T hT X
  have hz := fm_size X hT hP hC.2.2.1 hct
  subst hN
  have w : W p l e R s m args below meth c H locs cells slots Q (F0 m pc ls (.int n :: st)) := by
    refine W.anew hC.1.1 hC.1.2.1 hC.1.2.2.2.1 (hC.1.2.2.2.2 _ ha) (va_AO.use hC.2.1.2.2.2) rfl hd rfl hn hb hcells hslots (fun cA' kA comp f1 f2 f3 f4 => ?_)
    generalize hH1 : H.push ({ cls := cA', slots := Array.replicate n.toNatClampNeg .null, vm := .none } : Cell) = H1
    have z1 : H1.size = b + lay.length + 1 := by rw [← hH1, Array.size_push, hz]
    have e1 : H1[b + lay.length]? = some (arrV cA' n.toNatClampNeg (fun _ => .null)) := by rw [← hH1, ← hz, Array.getElem?_push_size, ← arrV_new]
    have o1 : ∀ q : Nat, q < b + lay.length → H1[q]? = H[q]? := fun q hq => by rw [← hH1, Array.getElem?_push, if_neg (Nat.ne_of_lt (by rw [hz]; exact hq))]
    have k1 := kk H1 locs ls (fm_push hP (fun j hj => rfl) (fun j hj => rfl) hz o1 (by
      show H1[b + lay.length]? = some (vp_cell (cA 5) (n.toNatClampNeg, .inr (.inr (.inr (.inr (fm_tg b (List.replicate n.toNatClampNeg 0)))))))
      rw [e1, vp_cell_q, fm_tg0, fm_ca hC.2.1 (t0 := 4) (k := 5) (ty := .object RX3) rfl f1]
      rfl)) (fm_pushS hS hz z1 o1) hv
    rw [← hz] at k1
    exact k1
  exact w T hT X
end FMC
end
section
/-! ===== helpers: truth as an int, numbers by toInt, names for tops, counters, scripts, copies ===== -/
def bi (P : Prop) [Decidable P] : Int32 := if P then 1 else 0
theorem bi_1 {P : Prop} [Decidable P] (h : P) : (1 : Int32) = bi P := by simp [bi, h]
theorem bi_0 {P : Prop} [Decidable P] (h : ¬ P) : (0 : Int32) = bi P := by simp [bi, h]
theorem bi_nz {P : Prop} [Decidable P] : bi P = 0 ↔ ¬ P := by
  by_cases h : P <;> simp [bi, h]
theorem bi_nar {P : Prop} [Decidable P] : narrow .boolean (.int (bi P)) = .int (bi P) := by
  by_cases h : P <;> simp [bi, h] <;> rfl
theorem ic_lt (a b : Int32) : a < b ↔ a.toInt < b.toInt := Int32.lt_iff_toInt_lt
theorem ic_le (a b : Int32) : a ≤ b ↔ a.toInt ≤ b.toInt := Int32.le_iff_toInt_le
theorem ic_eq (a b : Int32) : a = b ↔ a.toInt = b.toInt := Int32.toInt_inj.symm
theorem il_lt (a b : Int64) : a < b ↔ a.toInt < b.toInt := Int64.lt_iff_toInt_lt
theorem il_le (a b : Int64) : a ≤ b ↔ a.toInt ≤ b.toInt := Int64.le_iff_toInt_le
theorem il_eq (a b : Int64) : a = b ↔ a.toInt = b.toInt := Int64.toInt_inj.symm
theorem ic_rng (x : Int32) : -2147483648 ≤ x.toInt ∧ x.toInt < 2147483648 := ⟨Int32.le_toInt x, Int32.toInt_lt x⟩
theorem ic_nI {x : Int32} (h : 0 ≤ x.toInt) : x = nI x.toInt.toNat := by
  apply Int32.toInt_inj.mp
  have := ic_rng x
  rw [nI_toInt (by omega)]
  omega
/-- an int between 0 and n is nI of a number -/
theorem ic_of {x : Int32} {n : Nat} (h : 0 ≤ x.toInt) (h2 : x.toInt < n) : ∃ j : Nat, j < n ∧ x = nI j := ⟨x.toInt.toNat, by omega, ic_nI h⟩
theorem ic_w (x : Int32) : x.toInt64.toInt = x.toInt := Int32.toInt_toInt64 x
section FMH
variable {p : Program} {l : Launch} {e : Env} {R : Room} {s : State} {m : MethodId} {args : Array Value} {below : List Frame} {meth : Method} {c : Code} {Q : State → Prop} {D : va_G} {cA : Nat → ClassId} {b nL : Nat} {lay : List fm_E} {M : Nat → Nat → Int32} {L : Nat → Nat → Int64} {cells slots pc : Nat} {lv : List (Nat × Value)} {st : List Value} {cc : ByteArray} {own : String} {ret : Option FieldType} {n0 : Nat}
theorem g_top {x y : Int32} (h : x = y) (kk : fm_G p l e R s m args below meth c D cA b nL Q lay M L cells slots pc lv (.int y :: st)) : fm_G p l e R s m args below meth c D cA b nL Q lay M L cells slots pc lv (.int x :: st) := by subst h; exact kk
theorem g_topL {x y : Int64} (h : x = y) (kk : fm_G p l e R s m args below meth c D cA b nL Q lay M L cells slots pc lv (.long y :: st)) : fm_G p l e R s m args below meth c D cA b nL Q lay M L cells slots pc lv (.long x :: st) := by subst h; exact kk
theorem g_setM {M' : Nat → Nat → Int32} (h : M = M') (kk : fm_G p l e R s m args below meth c D cA b nL Q lay M' L cells slots pc lv st) : fm_G p l e R s m args below meth c D cA b nL Q lay M L cells slots pc lv st := by subst h; exact kk
theorem g_ifb_eq (hC : fm_C p s m args meth c D cA b cc nL own ret n0) {P : Prop} [Decidable P] {off : Int} (tgt : Nat) (hd : decode cc pc = .ok (.ifCond .eq off, 3)) (ht : (pc : Int) + off = (tgt : Int)) (kt : ¬ P → fm_G p l e R s m args below meth c D cA b nL Q lay M L cells slots tgt lv st) (kf : P → fm_G p l e R s m args below meth c D cA b nL Q lay M L cells slots (pc + 3) lv st) : fm_G p l e R s m args below meth c D cA b nL Q lay M L cells slots pc lv (.int (bi P) :: st) :=
  g_if_eq hC tgt hd ht (fun h => kt (bi_nz.mp h)) (fun h => kf (Classical.byContradiction fun q => h (bi_nz.mpr q)))
theorem g_ifb_ne (hC : fm_C p s m args meth c D cA b cc nL own ret n0) {P : Prop} [Decidable P] {off : Int} (tgt : Nat) (hd : decode cc pc = .ok (.ifCond .ne off, 3)) (ht : (pc : Int) + off = (tgt : Int)) (kt : P → fm_G p l e R s m args below meth c D cA b nL Q lay M L cells slots tgt lv st) (kf : ¬ P → fm_G p l e R s m args below meth c D cA b nL Q lay M L cells slots (pc + 3) lv st) : fm_G p l e R s m args below meth c D cA b nL Q lay M L cells slots pc lv (.int (bi P) :: st) :=
  g_if_ne hC tgt hd ht (fun h => kt (Classical.byContradiction fun q => h (bi_nz.mpr q))) (fun h => kf (bi_nz.mp h))
theorem g_ialdN (hC : fm_C p s m args meth c D cA b cc nL own ret n0) {k n : Nat} {zs : List Nat} {i : Int32} (j : Nat) (hk : lay[k]? = some (1, n, zs)) (hi : i = nI j) (hj : j < n) (hn : n < 2147483648) (hd : decode cc pc = .ok (.iaload, 1)) (kk : fm_G p l e R s m args below meth c D cA b nL Q lay M L cells slots (pc + 1) lv (.int (M k j) :: st)) : fm_G p l e R s m args below meth c D cA b nL Q lay M L cells slots pc lv (.int i :: .ref (b + k) :: st) := by
  subst hi
  exact g_iald hC hk (vp_in_nI hj hn) hd (by rw [nI_clamp (by omega)]; exact kk)
theorem g_caldN (hC : fm_C p s m args meth c D cA b cc nL own ret n0) {k n : Nat} {zs : List Nat} {i : Int32} (j : Nat) (hk : lay[k]? = some (3, n, zs)) (hi : i = nI j) (hj : j < n) (hn : n < 2147483648) (hd : decode cc pc = .ok (.caload, 1)) (kk : fm_G p l e R s m args below meth c D cA b nL Q lay M L cells slots (pc + 1) lv (.int (M k j) :: st)) : fm_G p l e R s m args below meth c D cA b nL Q lay M L cells slots pc lv (.int i :: .ref (b + k) :: st) := by
  subst hi
  exact g_cald hC hk (vp_in_nI hj hn) hd (by rw [nI_clamp (by omega)]; exact kk)
theorem g_laldN (hC : fm_C p s m args meth c D cA b cc nL own ret n0) {k n : Nat} {zs : List Nat} {i : Int32} (j : Nat) (hk : lay[k]? = some (2, n, zs)) (hi : i = nI j) (hj : j < n) (hn : n < 2147483648) (hd : decode cc pc = .ok (.laload, 1)) (kk : fm_G p l e R s m args below meth c D cA b nL Q lay M L cells slots (pc + 1) lv (.long (L k j) :: st)) : fm_G p l e R s m args below meth c D cA b nL Q lay M L cells slots pc lv (.int i :: .ref (b + k) :: st) := by
  subst hi
  exact g_lald hC hk (vp_in_nI hj hn) hd (by rw [nI_clamp (by omega)]; exact kk)
theorem g_aald4N (hC : fm_C p s m args meth c D cA b cc nL own ret n0) {k n : Nat} {zs : List Nat} {i : Int32} (j t : Nat) (hk : lay[k]? = some (4, n, zs)) (hi : i = nI j) (hj : j < n) (hn : n < 2147483648) (hz : zs[j]? = some (t + 1)) (hd : decode cc pc = .ok (.aaload, 1)) (kk : fm_G p l e R s m args below meth c D cA b nL Q lay M L cells slots (pc + 1) lv (.ref (b + t) :: st)) : fm_G p l e R s m args below meth c D cA b nL Q lay M L cells slots pc lv (.int i :: .ref (b + k) :: st) := by
  subst hi
  exact g_aald4 hC hk (vp_in_nI hj hn) (by rw [nI_clamp (by omega)]; exact hz) hd kk
theorem g_aald5N (hC : fm_C p s m args meth c D cA b cc nL own ret n0) {k n : Nat} {zs : List Nat} {i : Int32} (j t : Nat) (hk : lay[k]? = some (5, n, zs)) (hi : i = nI j) (hj : j < n) (hn : n < 2147483648) (hz : zs[j]? = some (t + 1)) (hd : decode cc pc = .ok (.aaload, 1)) (kk : fm_G p l e R s m args below meth c D cA b nL Q lay M L cells slots (pc + 1) lv (.ref (b + t) :: st)) : fm_G p l e R s m args below meth c D cA b nL Q lay M L cells slots pc lv (.int i :: .ref (b + k) :: st) := by
  subst hi
  exact g_aald5 hC hk (vp_in_nI hj hn) (by rw [nI_clamp (by omega)]; exact hz) hd kk
theorem g_iastN (hC : fm_C p s m args meth c D cA b cc nL own ret n0) {k n : Nat} {zs : List Nat} {i x : Int32} (j : Nat) (hk : lay[k]? = some (1, n, zs)) (hi : i = nI j) (hj : j < n) (hn : n < 2147483648) (hd : decode cc pc = .ok (.iastore, 1)) (kk : fm_G p l e R s m args below meth c D cA b nL Q lay (fm_up M k j x) L cells slots (pc + 1) lv st) : fm_G p l e R s m args below meth c D cA b nL Q lay M L cells slots pc lv (.int x :: .int i :: .ref (b + k) :: st) := by
  subst hi
  exact g_iast hC hk (vp_in_nI hj hn) hd (by rw [nI_clamp (by omega)]; exact kk)
theorem g_castN (hC : fm_C p s m args meth c D cA b cc nL own ret n0) {k n : Nat} {zs : List Nat} {i x : Int32} (j : Nat) (hk : lay[k]? = some (3, n, zs)) (hi : i = nI j) (hj : j < n) (hn : n < 2147483648) (hx : vp_nar .char x = x) (hd : decode cc pc = .ok (.castore, 1)) (kk : fm_G p l e R s m args below meth c D cA b nL Q lay (fm_up M k j x) L cells slots (pc + 1) lv st) : fm_G p l e R s m args below meth c D cA b nL Q lay M L cells slots pc lv (.int x :: .int i :: .ref (b + k) :: st) := by
  subst hi
  exact g_cast hC hk (vp_in_nI hj hn) hd (by rw [nI_clamp (by omega), hx]; exact kk)
theorem g_lastN (hC : fm_C p s m args meth c D cA b cc nL own ret n0) {k n : Nat} {zs : List Nat} {i : Int32} {x : Int64} (j : Nat) (hk : lay[k]? = some (2, n, zs)) (hi : i = nI j) (hj : j < n) (hn : n < 2147483648) (hd : decode cc pc = .ok (.lastore, 1)) (kk : fm_G p l e R s m args below meth c D cA b nL Q lay M (fm_upL L k j x) cells slots (pc + 1) lv st) : fm_G p l e R s m args below meth c D cA b nL Q lay M L cells slots pc lv (.long x :: .int i :: .ref (b + k) :: st) := by
  subst hi
  exact g_last hC hk (vp_in_nI hj hn) hd (by rw [nI_clamp (by omega)]; exact kk)
theorem g_copyI (hC : fm_C p s m args meth c D cA b cc nL own ret n0) {index k0 k1 n1 n2 : Nat} {zs0 zs1 : List Nat} {sp dp n : Int32} (w1 : Cond.methodLink own index arraycopyName ∈ fm_all) (w2 : Cond.native arraycopyName ∈ fm_all) (w3 : Cond.static arraycopyName ∈ fm_all) (w4 : Cond.initialized "java/lang/System" ∈ fm_all) (hk0 : lay[k0]? = some (1, n1, zs0)) (hk1 : lay[k1]? = some (1, n2, zs1)) (h1 : ¬ sp < 0) (h2 : ¬ dp < 0) (h3 : ¬ n < 0) (h4 : sp.toNatClampNeg + n.toNatClampNeg ≤ n1) (h5 : dp.toNatClampNeg + n.toNatClampNeg ≤ n2) (hf : 1 ≤ R.frames) (hlo : (st.map fun v => v.category).sum + (nativeFrameWords "java/lang/System" "arraycopy" 5 + 11) ≤ R.locals) (hd : decode cc pc = .ok (.invokestatic index, 3)) (kk : fm_G p l e R s m args below meth c D cA b nL Q lay (fm_row M k1 (va_cpy (M k0) (M k1) sp.toNatClampNeg dp.toNatClampNeg n.toNatClampNeg)) L cells slots (pc + 3) lv st) : fm_G p l e R s m args below meth c D cA b nL Q lay M L cells slots pc lv (.int n :: .int dp :: .ref (b + k1) :: .int sp :: .ref (b + k0) :: st) := by
  intro H locs ls hP hS hl
  refine va_copyi hC.1.1 hC.1.2.1 (by rw [hC.1.2.2.1]; exact hl.1.symm) hC.1.2.2.2.1 (hC.1.2.2.2.2 _ w1) (hC.1.2.2.2.2 _ w2) (hC.1.2.2.2.2 _ w3) (hC.1.2.2.2.2 _ w4) hC.2.1.1 hP fm_D hS k0 k1 0 0 (fm_at hk0) (fm_at hk1) rfl rfl rfl h1 h2 h3 h4 h5 (fun _ _ => rfl) hf hlo hd (fun H1 locs1 hP1 _ hS1 => ?_)
  refine kk H1 locs1 ls ?_ hS1 hl
  rw [fm_set' (M' := fm_row M k1 (va_cpy (M k0) (M k1) sp.toNatClampNeg dp.toNatClampNeg n.toNatClampNeg)) (L' := L) hk1 (by simp [fm_cell, fm_row]) (fun j hj e' _ => fm_cell_cong (fm_row_n hj) rfl e')] at hP1
  exact hP1
theorem g_copyL (hC : fm_C p s m args meth c D cA b cc nL own ret n0) {index k0 k1 n1 n2 : Nat} {zs0 zs1 : List Nat} {sp dp n : Int32} (w1 : Cond.methodLink own index arraycopyName ∈ fm_all) (w2 : Cond.native arraycopyName ∈ fm_all) (w3 : Cond.static arraycopyName ∈ fm_all) (w4 : Cond.initialized "java/lang/System" ∈ fm_all) (hk0 : lay[k0]? = some (2, n1, zs0)) (hk1 : lay[k1]? = some (2, n2, zs1)) (h1 : ¬ sp < 0) (h2 : ¬ dp < 0) (h3 : ¬ n < 0) (h4 : sp.toNatClampNeg + n.toNatClampNeg ≤ n1) (h5 : dp.toNatClampNeg + n.toNatClampNeg ≤ n2) (hf : 1 ≤ R.frames) (hlo : (st.map fun v => v.category).sum + (nativeFrameWords "java/lang/System" "arraycopy" 5 + 11) ≤ R.locals) (hd : decode cc pc = .ok (.invokestatic index, 3)) (kk : fm_G p l e R s m args below meth c D cA b nL Q lay M (fm_rowL L k1 (va_cpy (L k0) (L k1) sp.toNatClampNeg dp.toNatClampNeg n.toNatClampNeg)) cells slots (pc + 3) lv st) : fm_G p l e R s m args below meth c D cA b nL Q lay M L cells slots pc lv (.int n :: .int dp :: .ref (b + k1) :: .int sp :: .ref (b + k0) :: st) := by
  intro H locs ls hP hS hl
  refine va_copyl hC.1.1 hC.1.2.1 (by rw [hC.1.2.2.1]; exact hl.1.symm) hC.1.2.2.2.1 (hC.1.2.2.2.2 _ w1) (hC.1.2.2.2.2 _ w2) (hC.1.2.2.2.2 _ w3) (hC.1.2.2.2.2 _ w4) hC.2.1.1 hP fm_D hS k0 k1 1 1 (fm_at hk0) (fm_at hk1) rfl rfl rfl h1 h2 h3 h4 h5 (fun _ _ => rfl) hf hlo hd (fun H1 locs1 hP1 _ hS1 => ?_)
  refine kk H1 locs1 ls ?_ hS1 hl
  rw [fm_set' (M' := M) (L' := fm_rowL L k1 (va_cpy (L k0) (L k1) sp.toNatClampNeg dp.toNatClampNeg n.toNatClampNeg)) hk1 (by simp [fm_cell, fm_rowL]) (fun j hj e' _ => fm_cell_cong rfl (fm_rowL_n hj) e')] at hP1
  exact hP1
theorem g_sld (hC : fm_C p s m args meth c D cA b cc nL own ret n0) {bs N : Nat} {xs : Nat → Int32} (hX : va_X bs N xs s s.heap) (hbl : bs < s.heap.size) (hbA : bs < b) {i : Int32} (j : Nat) (hi : i = nI j) (hj : j < N) (hn : N < 2147483648) (hd : decode cc pc = .ok (.iaload, 1)) (kk : fm_G p l e R s m args below meth c D cA b nL Q lay M L cells slots (pc + 1) lv (.int (xs j) :: st)) : fm_G p l e R s m args below meth c D cA b nL Q lay M L cells slots pc lv (.int i :: .ref bs :: st) := by
  intro H locs ls hP hS hl
  subst hi
  have hk := kk H locs ls hP hS hl
  have e : (nI j).toNatClampNeg = j := nI_clamp (by omega)
  exact va_sld hC.1.1 hC.1.2.1 hX hbl (Nat.not_le.mpr hbA) hS (vp_in_nI hj hn) hd (by rw [e]; exact hk)
theorem g_slen (hC : fm_C p s m args meth c D cA b cc nL own ret n0) {bs N : Nat} {xs : Nat → Int32} (hX : va_X bs N xs s s.heap) (hbl : bs < s.heap.size) (hbA : bs < b) (hd : decode cc pc = .ok (.arraylength, 1)) (kk : fm_G p l e R s m args below meth c D cA b nL Q lay M L cells slots (pc + 1) lv (.int (nI N) :: st)) : fm_G p l e R s m args below meth c D cA b nL Q lay M L cells slots pc lv (.ref bs :: st) := by
  intro H locs ls hP hS hl
  exact va_slen hC.1.1 hC.1.2.1 hX hbl (Nat.not_le.mpr hbA) hS hd (kk H locs ls hP hS hl)
end FMH
end
