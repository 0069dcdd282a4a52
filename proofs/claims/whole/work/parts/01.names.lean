-- ===== PART A: goes FIRST, ahead of the names: the tables' words, and 'selects' of the private methods out of them =====
/-- a private method of a class that the tables say can be made, by its rows of tables_1 -/
def lw_okq (q : MethodName × Nat) : Prop := (q.1.cls ≠ "java/lang/invoke/MethodHandle" ∧ q.1.cls ≠ "java/lang/invoke/VarHandle") ∧ Cond.instantiable q.1.cls q.2 ∈ tables_1 ∧ Cond.privateMethod q.1 ∈ tables_1 ∧ Cond.instanceMethod q.1 ∈ tables_1
theorem lw_p0 : lw_okq (⟨"JarMinutes$Person", "cookWorth", "(I)I"⟩, 4) := ⟨⟨by decide +kernel, by decide +kernel⟩, List.mem_of_getElem? (i := 28) (by decide +kernel), List.mem_of_getElem? (i := 265) (by decide +kernel), List.mem_of_getElem? (i := 266) (by decide +kernel)⟩
theorem lw_p1 : lw_okq (⟨"JarMinutes$Tape", "readPerson", "(LJarMinutes$Person;)I"⟩, 6) := ⟨⟨by decide +kernel, by decide +kernel⟩, List.mem_of_getElem? (i := 114) (by decide +kernel), List.mem_of_getElem? (i := 318) (by decide +kernel), List.mem_of_getElem? (i := 319) (by decide +kernel)⟩
theorem lw_p2 : lw_okq (⟨"JarMinutes$Tape", "next", "()I"⟩, 6) := ⟨⟨by decide +kernel, by decide +kernel⟩, List.mem_of_getElem? (i := 114) (by decide +kernel), List.mem_of_getElem? (i := 322) (by decide +kernel), List.mem_of_getElem? (i := 323) (by decide +kernel)⟩
theorem lw_p3 : lw_okq (⟨"JarMinutes$Tape", "faultHere", "()I"⟩, 6) := ⟨⟨by decide +kernel, by decide +kernel⟩, List.mem_of_getElem? (i := 114) (by decide +kernel), List.mem_of_getElem? (i := 329) (by decide +kernel), List.mem_of_getElem? (i := 330) (by decide +kernel)⟩
theorem lw_p4 : lw_okq (⟨"JarMinutes$Tape", "readNumber", "(I)I"⟩, 6) := ⟨⟨by decide +kernel, by decide +kernel⟩, List.mem_of_getElem? (i := 114) (by decide +kernel), List.mem_of_getElem? (i := 333) (by decide +kernel), List.mem_of_getElem? (i := 334) (by decide +kernel)⟩
theorem lw_p5 : lw_okq (⟨"JarMinutes$Tape", "passes", "(C)Z"⟩, 6) := ⟨⟨by decide +kernel, by decide +kernel⟩, List.mem_of_getElem? (i := 114) (by decide +kernel), List.mem_of_getElem? (i := 341) (by decide +kernel), List.mem_of_getElem? (i := 342) (by decide +kernel)⟩
theorem lw_p6 : lw_okq (⟨"JarMinutes$Tape", "readHourNumber", "(I)I"⟩, 6) := ⟨⟨by decide +kernel, by decide +kernel⟩, List.mem_of_getElem? (i := 114) (by decide +kernel), List.mem_of_getElem? (i := 368) (by decide +kernel), List.mem_of_getElem? (i := 369) (by decide +kernel)⟩
theorem lw_p7 : lw_okq (⟨"JarMinutes$Planner", "mostFrom", "(II)I"⟩, 3) := ⟨⟨by decide +kernel, by decide +kernel⟩, List.mem_of_getElem? (i := 145) (by decide +kernel), List.mem_of_getElem? (i := 451) (by decide +kernel), List.mem_of_getElem? (i := 452) (by decide +kernel)⟩
theorem lw_p8 : lw_okq (⟨"JarMinutes$Planner", "mostBy", "(III)I"⟩, 3) := ⟨⟨by decide +kernel, by decide +kernel⟩, List.mem_of_getElem? (i := 145) (by decide +kernel), List.mem_of_getElem? (i := 455) (by decide +kernel), List.mem_of_getElem? (i := 456) (by decide +kernel)⟩
theorem lw_p9 : lw_okq (⟨"JarMinutes$Planner", "firstBest", "(II)I"⟩, 3) := ⟨⟨by decide +kernel, by decide +kernel⟩, List.mem_of_getElem? (i := 145) (by decide +kernel), List.mem_of_getElem? (i := 464) (by decide +kernel), List.mem_of_getElem? (i := 465) (by decide +kernel)⟩
theorem lw_p10 : lw_okq (⟨"JarMinutes", "clocksRefusal", "(IIII)I"⟩, 8) := ⟨⟨by decide +kernel, by decide +kernel⟩, List.mem_of_getElem? (i := 13) (by decide +kernel), List.mem_of_getElem? (i := 529) (by decide +kernel), List.mem_of_getElem? (i := 530) (by decide +kernel)⟩
theorem lw_p11 : lw_okq (⟨"JarMinutes", "rowRefusal", "(IIII)I"⟩, 8) := ⟨⟨by decide +kernel, by decide +kernel⟩, List.mem_of_getElem? (i := 13) (by decide +kernel), List.mem_of_getElem? (i := 533) (by decide +kernel), List.mem_of_getElem? (i := 534) (by decide +kernel)⟩
theorem lw_p12 : lw_okq (⟨"JarMinutes$ClockRows", "countWith", "(II)J"⟩, 2) := ⟨⟨by decide +kernel, by decide +kernel⟩, List.mem_of_getElem? (i := 162) (by decide +kernel), List.mem_of_getElem? (i := 558) (by decide +kernel), List.mem_of_getElem? (i := 559) (by decide +kernel)⟩
theorem lw_p13 : lw_okq (⟨"JarMinutes$ClockRows", "keepTold", "(I)V"⟩, 2) := ⟨⟨by decide +kernel, by decide +kernel⟩, List.mem_of_getElem? (i := 162) (by decide +kernel), List.mem_of_getElem? (i := 565) (by decide +kernel), List.mem_of_getElem? (i := 566) (by decide +kernel)⟩
theorem lw_p14 : lw_okq (⟨"JarMinutes$ClockRows", "passHour", "(II)V"⟩, 2) := ⟨⟨by decide +kernel, by decide +kernel⟩, List.mem_of_getElem? (i := 162) (by decide +kernel), List.mem_of_getElem? (i := 569) (by decide +kernel), List.mem_of_getElem? (i := 570) (by decide +kernel)⟩
theorem lw_p15 : lw_okq (⟨"JarMinutesModel", "add", "(IIII)V"⟩, 33) := ⟨⟨by decide +kernel, by decide +kernel⟩, List.mem_of_getElem? (i := 615) (by decide +kernel), List.mem_of_getElem? (i := 734) (by decide +kernel), List.mem_of_getElem? (i := 735) (by decide +kernel)⟩
def lw_privs_1 : List (MethodName × Nat) := [(⟨"JarMinutes$Person", "cookWorth", "(I)I"⟩, 4), (⟨"JarMinutes$Tape", "readPerson", "(LJarMinutes$Person;)I"⟩, 6), (⟨"JarMinutes$Tape", "next", "()I"⟩, 6), (⟨"JarMinutes$Tape", "faultHere", "()I"⟩, 6), (⟨"JarMinutes$Tape", "readNumber", "(I)I"⟩, 6), (⟨"JarMinutes$Tape", "passes", "(C)Z"⟩, 6), (⟨"JarMinutes$Tape", "readHourNumber", "(I)I"⟩, 6), (⟨"JarMinutes$Planner", "mostFrom", "(II)I"⟩, 3), (⟨"JarMinutes$Planner", "mostBy", "(III)I"⟩, 3), (⟨"JarMinutes$Planner", "firstBest", "(II)I"⟩, 3), (⟨"JarMinutes", "clocksRefusal", "(IIII)I"⟩, 8), (⟨"JarMinutes", "rowRefusal", "(IIII)I"⟩, 8), (⟨"JarMinutes$ClockRows", "countWith", "(II)J"⟩, 2), (⟨"JarMinutes$ClockRows", "keepTold", "(I)V"⟩, 2), (⟨"JarMinutes$ClockRows", "passHour", "(II)V"⟩, 2), (⟨"JarMinutesModel", "add", "(IIII)V"⟩, 33)]
theorem lw_r1 : ∀ q ∈ lw_privs_1, lw_okq q := List.forall_mem_cons.mpr ⟨lw_p0, List.forall_mem_cons.mpr ⟨lw_p1, List.forall_mem_cons.mpr ⟨lw_p2, List.forall_mem_cons.mpr ⟨lw_p3, List.forall_mem_cons.mpr ⟨lw_p4, List.forall_mem_cons.mpr ⟨lw_p5, List.forall_mem_cons.mpr ⟨lw_p6, List.forall_mem_cons.mpr ⟨lw_p7, List.forall_mem_cons.mpr ⟨lw_p8, List.forall_mem_cons.mpr ⟨lw_p9, List.forall_mem_cons.mpr ⟨lw_p10, List.forall_mem_cons.mpr ⟨lw_p11, List.forall_mem_cons.mpr ⟨lw_p12, List.forall_mem_cons.mpr ⟨lw_p13, List.forall_mem_cons.mpr ⟨lw_p14, List.forall_mem_cons.mpr ⟨lw_p15, fun _ h => absurd h List.not_mem_nil⟩⟩⟩⟩⟩⟩⟩⟩⟩⟩⟩⟩⟩⟩⟩⟩
theorem lw_p16 : lw_okq (⟨"JarMinutesModel", "isOne", "(I)Z"⟩, 33) := ⟨⟨by decide +kernel, by decide +kernel⟩, List.mem_of_getElem? (i := 615) (by decide +kernel), List.mem_of_getElem? (i := 742) (by decide +kernel), List.mem_of_getElem? (i := 743) (by decide +kernel)⟩
theorem lw_p17 : lw_okq (⟨"JarMinutesModel", "worthOf", "(III)I"⟩, 33) := ⟨⟨by decide +kernel, by decide +kernel⟩, List.mem_of_getElem? (i := 615) (by decide +kernel), List.mem_of_getElem? (i := 755) (by decide +kernel), List.mem_of_getElem? (i := 756) (by decide +kernel)⟩
theorem lw_p18 : lw_okq (⟨"JarMinutesModel", "readTown", "()Z"⟩, 33) := ⟨⟨by decide +kernel, by decide +kernel⟩, List.mem_of_getElem? (i := 615) (by decide +kernel), List.mem_of_getElem? (i := 797) (by decide +kernel), List.mem_of_getElem? (i := 798) (by decide +kernel)⟩
theorem lw_p19 : lw_okq (⟨"JarMinutesModel", "readOne", "(I)Z"⟩, 33) := ⟨⟨by decide +kernel, by decide +kernel⟩, List.mem_of_getElem? (i := 615) (by decide +kernel), List.mem_of_getElem? (i := 801) (by decide +kernel), List.mem_of_getElem? (i := 802) (by decide +kernel)⟩
theorem lw_p20 : lw_okq (⟨"JarMinutesModel", "nextByte", "()I"⟩, 33) := ⟨⟨by decide +kernel, by decide +kernel⟩, List.mem_of_getElem? (i := 615) (by decide +kernel), List.mem_of_getElem? (i := 805) (by decide +kernel), List.mem_of_getElem? (i := 806) (by decide +kernel)⟩
theorem lw_p21 : lw_okq (⟨"JarMinutesModel", "readNumber", "(I)I"⟩, 33) := ⟨⟨by decide +kernel, by decide +kernel⟩, List.mem_of_getElem? (i := 615) (by decide +kernel), List.mem_of_getElem? (i := 809) (by decide +kernel), List.mem_of_getElem? (i := 810) (by decide +kernel)⟩
theorem lw_p22 : lw_okq (⟨"JarMinutesModel", "takes", "(I)Z"⟩, 33) := ⟨⟨by decide +kernel, by decide +kernel⟩, List.mem_of_getElem? (i := 615) (by decide +kernel), List.mem_of_getElem? (i := 816) (by decide +kernel), List.mem_of_getElem? (i := 817) (by decide +kernel)⟩
theorem lw_p23 : lw_okq (⟨"JarMinutesModel", "end", "(Z)I"⟩, 33) := ⟨⟨by decide +kernel, by decide +kernel⟩, List.mem_of_getElem? (i := 615) (by decide +kernel), List.mem_of_getElem? (i := 820) (by decide +kernel), List.mem_of_getElem? (i := 821) (by decide +kernel)⟩
theorem lw_p24 : lw_okq (⟨"JarMinutesModel", "readPlan", "()Z"⟩, 33) := ⟨⟨by decide +kernel, by decide +kernel⟩, List.mem_of_getElem? (i := 615) (by decide +kernel), List.mem_of_getElem? (i := 828) (by decide +kernel), List.mem_of_getElem? (i := 829) (by decide +kernel)⟩
theorem lw_p25 : lw_okq (⟨"JarMinutesModel", "readHour", "()Z"⟩, 33) := ⟨⟨by decide +kernel, by decide +kernel⟩, List.mem_of_getElem? (i := 615) (by decide +kernel), List.mem_of_getElem? (i := 832) (by decide +kernel), List.mem_of_getElem? (i := 833) (by decide +kernel)⟩
theorem lw_p26 : lw_okq (⟨"JarMinutesModel", "gainOf", "([I)I"⟩, 33) := ⟨⟨by decide +kernel, by decide +kernel⟩, List.mem_of_getElem? (i := 615) (by decide +kernel), List.mem_of_getElem? (i := 858) (by decide +kernel), List.mem_of_getElem? (i := 859) (by decide +kernel)⟩
theorem lw_p27 : lw_okq (⟨"JarMinutesModel", "findGains", "()V"⟩, 33) := ⟨⟨by decide +kernel, by decide +kernel⟩, List.mem_of_getElem? (i := 615) (by decide +kernel), List.mem_of_getElem? (i := 862) (by decide +kernel), List.mem_of_getElem? (i := 863) (by decide +kernel)⟩
theorem lw_p28 : lw_okq (⟨"JarMinutesModel", "wrongOf", "([I)I"⟩, 33) := ⟨⟨by decide +kernel, by decide +kernel⟩, List.mem_of_getElem? (i := 615) (by decide +kernel), List.mem_of_getElem? (i := 870) (by decide +kernel), List.mem_of_getElem? (i := 871) (by decide +kernel)⟩
theorem lw_p29 : lw_okq (⟨"JarMinutesModel", "areCaught", "(II)Z"⟩, 33) := ⟨⟨by decide +kernel, by decide +kernel⟩, List.mem_of_getElem? (i := 615) (by decide +kernel), List.mem_of_getElem? (i := 874) (by decide +kernel), List.mem_of_getElem? (i := 875) (by decide +kernel)⟩
theorem lw_p30 : lw_okq (⟨"JarMinutesModel", "dayBy", "([I)I"⟩, 33) := ⟨⟨by decide +kernel, by decide +kernel⟩, List.mem_of_getElem? (i := 615) (by decide +kernel), List.mem_of_getElem? (i := 888) (by decide +kernel), List.mem_of_getElem? (i := 889) (by decide +kernel)⟩
theorem lw_p31 : lw_okq (⟨"JarMinutesModel", "findBest", "(Z)I"⟩, 33) := ⟨⟨by decide +kernel, by decide +kernel⟩, List.mem_of_getElem? (i := 615) (by decide +kernel), List.mem_of_getElem? (i := 897) (by decide +kernel), List.mem_of_getElem? (i := 898) (by decide +kernel)⟩
def lw_privs_2 : List (MethodName × Nat) := [(⟨"JarMinutesModel", "isOne", "(I)Z"⟩, 33), (⟨"JarMinutesModel", "worthOf", "(III)I"⟩, 33), (⟨"JarMinutesModel", "readTown", "()Z"⟩, 33), (⟨"JarMinutesModel", "readOne", "(I)Z"⟩, 33), (⟨"JarMinutesModel", "nextByte", "()I"⟩, 33), (⟨"JarMinutesModel", "readNumber", "(I)I"⟩, 33), (⟨"JarMinutesModel", "takes", "(I)Z"⟩, 33), (⟨"JarMinutesModel", "end", "(Z)I"⟩, 33), (⟨"JarMinutesModel", "readPlan", "()Z"⟩, 33), (⟨"JarMinutesModel", "readHour", "()Z"⟩, 33), (⟨"JarMinutesModel", "gainOf", "([I)I"⟩, 33), (⟨"JarMinutesModel", "findGains", "()V"⟩, 33), (⟨"JarMinutesModel", "wrongOf", "([I)I"⟩, 33), (⟨"JarMinutesModel", "areCaught", "(II)Z"⟩, 33), (⟨"JarMinutesModel", "dayBy", "([I)I"⟩, 33), (⟨"JarMinutesModel", "findBest", "(Z)I"⟩, 33)]
theorem lw_r2 : ∀ q ∈ lw_privs_2, lw_okq q := List.forall_mem_cons.mpr ⟨lw_p16, List.forall_mem_cons.mpr ⟨lw_p17, List.forall_mem_cons.mpr ⟨lw_p18, List.forall_mem_cons.mpr ⟨lw_p19, List.forall_mem_cons.mpr ⟨lw_p20, List.forall_mem_cons.mpr ⟨lw_p21, List.forall_mem_cons.mpr ⟨lw_p22, List.forall_mem_cons.mpr ⟨lw_p23, List.forall_mem_cons.mpr ⟨lw_p24, List.forall_mem_cons.mpr ⟨lw_p25, List.forall_mem_cons.mpr ⟨lw_p26, List.forall_mem_cons.mpr ⟨lw_p27, List.forall_mem_cons.mpr ⟨lw_p28, List.forall_mem_cons.mpr ⟨lw_p29, List.forall_mem_cons.mpr ⟨lw_p30, List.forall_mem_cons.mpr ⟨lw_p31, fun _ h => absurd h List.not_mem_nil⟩⟩⟩⟩⟩⟩⟩⟩⟩⟩⟩⟩⟩⟩⟩⟩
theorem lw_p32 : lw_okq (⟨"JarMinutesModel", "choiceOf", "(I)I"⟩, 33) := ⟨⟨by decide +kernel, by decide +kernel⟩, List.mem_of_getElem? (i := 615) (by decide +kernel), List.mem_of_getElem? (i := 915) (by decide +kernel), List.mem_of_getElem? (i := 916) (by decide +kernel)⟩
theorem lw_p33 : lw_okq (⟨"JarMinutesModel", "drawRow", "()V"⟩, 33) := ⟨⟨by decide +kernel, by decide +kernel⟩, List.mem_of_getElem? (i := 615) (by decide +kernel), List.mem_of_getElem? (i := 927) (by decide +kernel), List.mem_of_getElem? (i := 928) (by decide +kernel)⟩
theorem lw_p34 : lw_okq (⟨"JarMinutesModel", "carried", "(IIZ)I"⟩, 33) := ⟨⟨by decide +kernel, by decide +kernel⟩, List.mem_of_getElem? (i := 615) (by decide +kernel), List.mem_of_getElem? (i := 943) (by decide +kernel), List.mem_of_getElem? (i := 944) (by decide +kernel)⟩
theorem lw_p35 : lw_okq (⟨"JarMinutesModel", "lacksRow", "(IIII)I"⟩, 33) := ⟨⟨by decide +kernel, by decide +kernel⟩, List.mem_of_getElem? (i := 615) (by decide +kernel), List.mem_of_getElem? (i := 966) (by decide +kernel), List.mem_of_getElem? (i := 967) (by decide +kernel)⟩
theorem lw_p36 : lw_okq (⟨"JarMinutesModel", "lacksClocks", "(IIII)I"⟩, 33) := ⟨⟨by decide +kernel, by decide +kernel⟩, List.mem_of_getElem? (i := 615) (by decide +kernel), List.mem_of_getElem? (i := 977) (by decide +kernel), List.mem_of_getElem? (i := 978) (by decide +kernel)⟩
theorem lw_p37 : lw_okq (⟨"JarMinutesModel", "waysBy", "(IIII)J"⟩, 33) := ⟨⟨by decide +kernel, by decide +kernel⟩, List.mem_of_getElem? (i := 615) (by decide +kernel), List.mem_of_getElem? (i := 981) (by decide +kernel), List.mem_of_getElem? (i := 982) (by decide +kernel)⟩
theorem lw_p38 : lw_okq (⟨"JarMinutesModel", "isTold", "(IIII)Z"⟩, 33) := ⟨⟨by decide +kernel, by decide +kernel⟩, List.mem_of_getElem? (i := 615) (by decide +kernel), List.mem_of_getElem? (i := 985) (by decide +kernel), List.mem_of_getElem? (i := 986) (by decide +kernel)⟩
def lw_privs_3 : List (MethodName × Nat) := [(⟨"JarMinutesModel", "choiceOf", "(I)I"⟩, 33), (⟨"JarMinutesModel", "drawRow", "()V"⟩, 33), (⟨"JarMinutesModel", "carried", "(IIZ)I"⟩, 33), (⟨"JarMinutesModel", "lacksRow", "(IIII)I"⟩, 33), (⟨"JarMinutesModel", "lacksClocks", "(IIII)I"⟩, 33), (⟨"JarMinutesModel", "waysBy", "(IIII)J"⟩, 33), (⟨"JarMinutesModel", "isTold", "(IIII)Z"⟩, 33)]
theorem lw_r3 : ∀ q ∈ lw_privs_3, lw_okq q := List.forall_mem_cons.mpr ⟨lw_p32, List.forall_mem_cons.mpr ⟨lw_p33, List.forall_mem_cons.mpr ⟨lw_p34, List.forall_mem_cons.mpr ⟨lw_p35, List.forall_mem_cons.mpr ⟨lw_p36, List.forall_mem_cons.mpr ⟨lw_p37, List.forall_mem_cons.mpr ⟨lw_p38, fun _ h => absurd h List.not_mem_nil⟩⟩⟩⟩⟩⟩⟩
def lw_privs : List (MethodName × Nat) := lw_privs_1 ++ (lw_privs_2 ++ (lw_privs_3))
def lw_tbl : List Cond := k2_sels lw_privs ++ tables_1
theorem lw_privs_ok : ∀ q ∈ lw_privs, lw_okq q := by
  show ∀ q ∈ lw_privs_1 ++ (lw_privs_2 ++ (lw_privs_3)), lw_okq q
  exact List.forall_mem_append.mpr ⟨lw_r1, List.forall_mem_append.mpr ⟨lw_r2, lw_r3⟩⟩
-- ===== end of PART A; then your names; then what follows =====
def RX0 : String := "JarMinutes$ClockRows"
def TX0 : u_T := fun k => match k with
  | 0 => ("JarMinutes$ClockRows", "told", "[I", true)
  | _ => ("JarMinutes$ClockRows", "ways", "[J", true)
def tyX0 : Nat → FieldType := fun k => match k with
  | 0 => .array .int
  | _ => .array .long
theorem nmX0 : ∀ a, a < 2 → ∀ b, b < 2 → a ≠ b → (TX0 a).2.1 ≠ (TX0 b).2.1 := by decide +kernel
theorem tyX0_ok : ∀ k, k < 2 → parseFieldDescriptor (TX0 k).2.2.1 = some (tyX0 k) := by decide +kernel
abbrev cX0_init : ByteArray := prog_2_method_1_code
def yX0_init : MethodName := ⟨RX0, "<init>", "()V"⟩
abbrev cX0_tell : ByteArray := prog_2_method_2_code
def yX0_tell : MethodName := ⟨RX0, "tell", "(LJarMinutes$Sheet;II)V"⟩
abbrev cX0_countAll : ByteArray := prog_2_method_3_code
def yX0_countAll : MethodName := ⟨RX0, "countAll", "()J"⟩
abbrev cX0_sureNumber : ByteArray := prog_2_method_4_code
def yX0_sureNumber : MethodName := ⟨RX0, "sureNumber", "(I)I"⟩
abbrev cX0_countWith : ByteArray := prog_2_method_5_code
def yX0_countWith : MethodName := ⟨RX0, "countWith", "(II)J"⟩
abbrev cX0_passHour : ByteArray := prog_2_method_6_code
def yX0_passHour : MethodName := ⟨RX0, "passHour", "(II)V"⟩
abbrev cX0_keepTold : ByteArray := prog_2_method_7_code
def yX0_keepTold : MethodName := ⟨RX0, "keepTold", "(I)V"⟩
def RX1 : String := "JarMinutes$Person"
def TX1 : u_T := fun k => match k with
  | 0 => ("JarMinutes$Person", "kind", "I", false)
  | 1 => ("JarMinutes$Person", "likedHour", "I", false)
  | 2 => ("JarMinutes$Person", "weight", "I", false)
  | _ => ("JarMinutes$Person", "mayAct", "I", false)
def tyX1 : Nat → FieldType := fun k => match k with
  | 0 => .int
  | 1 => .int
  | 2 => .int
  | _ => .int
theorem nmX1 : ∀ a, a < 4 → ∀ b, b < 4 → a ≠ b → (TX1 a).2.1 ≠ (TX1 b).2.1 := by decide +kernel
theorem tyX1_ok : ∀ k, k < 4 → parseFieldDescriptor (TX1 k).2.2.1 = some (tyX1 k) := by decide +kernel
abbrev cX1_init : ByteArray := prog_3_method_1_code
def yX1_init : MethodName := ⟨RX1, "<init>", "()V"⟩
abbrev cX1_become : ByteArray := prog_3_method_2_code
def yX1_become : MethodName := ⟨RX1, "become", "(IIII)V"⟩
abbrev cX1_becomeLike : ByteArray := prog_3_method_3_code
def yX1_becomeLike : MethodName := ⟨RX1, "becomeLike", "(LJarMinutes$Person;)V"⟩
abbrev cX1_worthOf : ByteArray := prog_3_method_4_code
def yX1_worthOf : MethodName := ⟨RX1, "worthOf", "(II)I"⟩
abbrev cX1_cookWorth : ByteArray := prog_3_method_5_code
def yX1_cookWorth : MethodName := ⟨RX1, "cookWorth", "(I)I"⟩
abbrev cX1_favouriteHour : ByteArray := prog_3_method_6_code
def yX1_favouriteHour : MethodName := ⟨RX1, "favouriteHour", "()I"⟩
def RX2 : String := "JarMinutes$Planner"
def TX2 : u_T := fun k => match k with
  | 0 => ("JarMinutes$Planner", "gains", "[I", true)
  | 1 => ("JarMinutes$Planner", "most", "[I", true)
  | _ => ("JarMinutes$Planner", "row", "[I", true)
def tyX2 : Nat → FieldType := fun k => match k with
  | 0 => .array .int
  | 1 => .array .int
  | _ => .array .int
theorem nmX2 : ∀ a, a < 3 → ∀ b, b < 3 → a ≠ b → (TX2 a).2.1 ≠ (TX2 b).2.1 := by decide +kernel
theorem tyX2_ok : ∀ k, k < 3 → parseFieldDescriptor (TX2 k).2.2.1 = some (tyX2 k) := by decide +kernel
abbrev cX2_init : ByteArray := prog_4_method_1_code
def yX2_init : MethodName := ⟨RX2, "<init>", "()V"⟩
abbrev cX2_mostGain : ByteArray := prog_4_method_2_code
def yX2_mostGain : MethodName := ⟨RX2, "mostGain", "(LJarMinutes$Town;IZ)I"⟩
abbrev cX2_mostFrom : ByteArray := prog_4_method_3_code
def yX2_mostFrom : MethodName := ⟨RX2, "mostFrom", "(II)I"⟩
abbrev cX2_mostBy : ByteArray := prog_4_method_4_code
def yX2_mostBy : MethodName := ⟨RX2, "mostBy", "(III)I"⟩
abbrev cX2_findRow : ByteArray := prog_4_method_5_code
def yX2_findRow : MethodName := ⟨RX2, "findRow", "()V"⟩
abbrev cX2_firstBest : ByteArray := prog_4_method_6_code
def yX2_firstBest : MethodName := ⟨RX2, "firstBest", "(II)I"⟩
def RX3 : String := "JarMinutes$Sheet"
def TX3 : u_T := fun k => match k with
  | 0 => ("JarMinutes$Sheet", "lane", "I", false)
  | 1 => ("JarMinutes$Sheet", "count", "I", false)
  | _ => ("JarMinutes$Sheet", "items", "[J", true)
def tyX3 : Nat → FieldType := fun k => match k with
  | 0 => .int
  | 1 => .int
  | _ => .array .long
theorem nmX3 : ∀ a, a < 3 → ∀ b, b < 3 → a ≠ b → (TX3 a).2.1 ≠ (TX3 b).2.1 := by decide +kernel
theorem tyX3_ok : ∀ k, k < 3 → parseFieldDescriptor (TX3 k).2.2.1 = some (tyX3 k) := by decide +kernel
abbrev cX3_init : ByteArray := prog_5_method_1_code
def yX3_init : MethodName := ⟨RX3, "<init>", "()V"⟩
abbrev cX3_begin : ByteArray := prog_5_method_2_code
def yX3_begin : MethodName := ⟨RX3, "begin", "(II)V"⟩
abbrev cX3_put : ByteArray := prog_5_method_3_code
def yX3_put : MethodName := ⟨RX3, "put", "(IJ)V"⟩
abbrev cX3_hasRange : ByteArray := prog_5_method_4_code
def yX3_hasRange : MethodName := ⟨RX3, "hasRange", "(II)Z"⟩
def RX4 : String := "JarMinutes$Tape"
def TX4 : u_T := fun k => match k with
  | 0 => ("JarMinutes$Tape", "bytes", "[C", true)
  | 1 => ("JarMinutes$Tape", "count", "I", false)
  | 2 => ("JarMinutes$Tape", "place", "I", false)
  | 3 => ("JarMinutes$Tape", "numberPlace", "I", false)
  | 4 => ("JarMinutes$Tape", "readPeople", "[LJarMinutes$Person;", true)
  | _ => ("JarMinutes$Tape", "readNumbers", "[I", true)
def tyX4 : Nat → FieldType := fun k => match k with
  | 0 => .array .char
  | 1 => .int
  | 2 => .int
  | 3 => .int
  | 4 => .array (.object "JarMinutes$Person")
  | _ => .array .int
theorem nmX4 : ∀ a, a < 6 → ∀ b, b < 6 → a ≠ b → (TX4 a).2.1 ≠ (TX4 b).2.1 := by decide +kernel
theorem tyX4_ok : ∀ k, k < 6 → parseFieldDescriptor (TX4 k).2.2.1 = some (tyX4 k) := by decide +kernel
abbrev cX4_init : ByteArray := prog_6_method_1_code
def yX4_init : MethodName := ⟨RX4, "<init>", "()V"⟩
abbrev cX4_isSign : ByteArray := prog_6_method_2_code
def yX4_isSign : MethodName := ⟨RX4, "isSign", "(I)Z"⟩
abbrev cX4_isFigure : ByteArray := prog_6_method_3_code
def yX4_isFigure : MethodName := ⟨RX4, "isFigure", "(I)Z"⟩
abbrev cX4_add : ByteArray := prog_6_method_4_code
def yX4_add : MethodName := ⟨RX4, "add", "(I)V"⟩
abbrev cX4_clear : ByteArray := prog_6_method_5_code
def yX4_clear : MethodName := ⟨RX4, "clear", "()V"⟩
abbrev cX4_next : ByteArray := prog_6_method_6_code
def yX4_next : MethodName := ⟨RX4, "next", "()I"⟩
abbrev cX4_passes : ByteArray := prog_6_method_7_code
def yX4_passes : MethodName := ⟨RX4, "passes", "(C)Z"⟩
abbrev cX4_faultHere : ByteArray := prog_6_method_8_code
def yX4_faultHere : MethodName := ⟨RX4, "faultHere", "()I"⟩
abbrev cX4_readNumber : ByteArray := prog_6_method_9_code
def yX4_readNumber : MethodName := ⟨RX4, "readNumber", "(I)I"⟩
abbrev cX4_readTown : ByteArray := prog_6_method_10_code
def yX4_readTown : MethodName := ⟨RX4, "readTown", "()I"⟩
abbrev cX4_readPerson : ByteArray := prog_6_method_11_code
def yX4_readPerson : MethodName := ⟨RX4, "readPerson", "(LJarMinutes$Person;)I"⟩
abbrev cX4_kindOf : ByteArray := prog_6_method_12_code
def yX4_kindOf : MethodName := ⟨RX4, "kindOf", "(I)I"⟩
abbrev cX4_readPlan : ByteArray := prog_6_method_13_code
def yX4_readPlan : MethodName := ⟨RX4, "readPlan", "()I"⟩
abbrev cX4_readHourNumber : ByteArray := prog_6_method_14_code
def yX4_readHourNumber : MethodName := ⟨RX4, "readHourNumber", "(I)I"⟩
def RX5 : String := "JarMinutes$Town"
def TX5 : u_T := fun k => match k with
  | 0 => ("JarMinutes$Town", "people", "[LJarMinutes$Person;", true)
  | 1 => ("JarMinutes$Town", "peopleCount", "I", false)
  | 2 => ("JarMinutes$Town", "trainHours", "[I", true)
  | 3 => ("JarMinutes$Town", "trainWaits", "[I", true)
  | 4 => ("JarMinutes$Town", "trainCount", "I", false)
  | 5 => ("JarMinutes$Town", "losses", "[I", true)
  | 6 => ("JarMinutes$Town", "planned", "[I", true)
  | 7 => ("JarMinutes$Town", "jar", "I", false)
  | 8 => ("JarMinutes$Town", "leak", "I", false)
  | 9 => ("JarMinutes$Town", "term", "I", false)
  | 10 => ("JarMinutes$Town", "due", "I", false)
  | 11 => ("JarMinutes$Town", "daysDone", "I", false)
  | 12 => ("JarMinutes$Town", "happiness", "I", false)
  | _ => ("JarMinutes$Town", "draw", "I", false)
def tyX5 : Nat → FieldType := fun k => match k with
  | 0 => .array (.object "JarMinutes$Person")
  | 1 => .int
  | 2 => .array .int
  | 3 => .array .int
  | 4 => .int
  | 5 => .array .int
  | 6 => .array .int
  | 7 => .int
  | 8 => .int
  | 9 => .int
  | 10 => .int
  | 11 => .int
  | 12 => .int
  | _ => .int
theorem nmX5 : ∀ a, a < 14 → ∀ b, b < 14 → a ≠ b → (TX5 a).2.1 ≠ (TX5 b).2.1 := by decide +kernel
theorem tyX5_ok : ∀ k, k < 14 → parseFieldDescriptor (TX5 k).2.2.1 = some (tyX5 k) := by decide +kernel
abbrev cX5_init : ByteArray := prog_7_method_1_code
def yX5_init : MethodName := ⟨RX5, "<init>", "()V"⟩
abbrev cX5_becomeLike : ByteArray := prog_7_method_2_code
def yX5_becomeLike : MethodName := ⟨RX5, "becomeLike", "(LJarMinutes$Town;)V"⟩
abbrev cX5_takePeople : ByteArray := prog_7_method_3_code
def yX5_takePeople : MethodName := ⟨RX5, "takePeople", "([LJarMinutes$Person;I)V"⟩
abbrev cX5_hasPerson : ByteArray := prog_7_method_4_code
def yX5_hasPerson : MethodName := ⟨RX5, "hasPerson", "(I)Z"⟩
abbrev cX5_gainAt : ByteArray := prog_7_method_5_code
def yX5_gainAt : MethodName := ⟨RX5, "gainAt", "(III)I"⟩
abbrev cX5_gainOf : ByteArray := prog_7_method_6_code
def yX5_gainOf : MethodName := ⟨RX5, "gainOf", "([I)I"⟩
abbrev cX5_mostLateAt : ByteArray := prog_7_method_7_code
def yX5_mostLateAt : MethodName := ⟨RX5, "mostLateAt", "(I)I"⟩
abbrev cX5_missedBy : ByteArray := prog_7_method_8_code
def yX5_missedBy : MethodName := ⟨RX5, "missedBy", "([I)I"⟩
abbrev cX5_firstWrong : ByteArray := prog_7_method_9_code
def yX5_firstWrong : MethodName := ⟨RX5, "firstWrong", "([I)I"⟩
abbrev cX5_liveDay : ByteArray := prog_7_method_10_code
def yX5_liveDay : MethodName := ⟨RX5, "liveDay", "([I)I"⟩
abbrev cX5_votesFor : ByteArray := prog_7_method_11_code
def yX5_votesFor : MethodName := ⟨RX5, "votesFor", "(II)I"⟩
abbrev cX5_drawPlan : ByteArray := prog_7_method_12_code
def yX5_drawPlan : MethodName := ⟨RX5, "drawPlan", "([I)V"⟩
def RX6 : String := "JarMinutes"
def TX6 : u_T := fun k => match k with
  | 0 => ("JarMinutes", "now", "LJarMinutes$Town;", true)
  | 1 => ("JarMinutes", "kept", "LJarMinutes$Town;", true)
  | 2 => ("JarMinutes", "hasImage", "Z", false)
  | 3 => ("JarMinutes", "tape", "LJarMinutes$Tape;", true)
  | 4 => ("JarMinutes", "planner", "LJarMinutes$Planner;", true)
  | 5 => ("JarMinutes", "clockRows", "LJarMinutes$ClockRows;", true)
  | 6 => ("JarMinutes", "sheets", "[LJarMinutes$Sheet;", true)
  | _ => ("JarMinutes", "drawnRow", "[I", true)
def tyX6 : Nat → FieldType := fun k => match k with
  | 0 => .object "JarMinutes$Town"
  | 1 => .object "JarMinutes$Town"
  | 2 => .boolean
  | 3 => .object "JarMinutes$Tape"
  | 4 => .object "JarMinutes$Planner"
  | 5 => .object "JarMinutes$ClockRows"
  | 6 => .array (.object "JarMinutes$Sheet")
  | _ => .array .int
theorem nmX6 : ∀ a, a < 8 → ∀ b, b < 8 → a ≠ b → (TX6 a).2.1 ≠ (TX6 b).2.1 := by decide +kernel
theorem tyX6_ok : ∀ k, k < 8 → parseFieldDescriptor (TX6 k).2.2.1 = some (tyX6 k) := by decide +kernel
abbrev cX6_init : ByteArray := prog_1_method_1_code
def yX6_init : MethodName := ⟨RX6, "<init>", "()V"⟩
abbrev cX6_person : ByteArray := prog_1_method_2_code
def yX6_person : MethodName := ⟨RX6, "person", "(III)I"⟩
abbrev cX6_may : ByteArray := prog_1_method_3_code
def yX6_may : MethodName := ⟨RX6, "may", "(II)I"⟩
abbrev cX6_told : ByteArray := prog_1_method_4_code
def yX6_told : MethodName := ⟨RX6, "told", "(II)I"⟩
abbrev cX6_worth : ByteArray := prog_1_method_5_code
def yX6_worth : MethodName := ⟨RX6, "worth", "(III)I"⟩
abbrev cX6_train : ByteArray := prog_1_method_6_code
def yX6_train : MethodName := ⟨RX6, "train", "(II)I"⟩
abbrev cX6_strike : ByteArray := prog_1_method_7_code
def yX6_strike : MethodName := ⟨RX6, "strike", "()I"⟩
abbrev cX6_set : ByteArray := prog_1_method_8_code
def yX6_set : MethodName := ⟨RX6, "set", "(II)I"⟩
abbrev cX6_loss : ByteArray := prog_1_method_9_code
def yX6_loss : MethodName := ⟨RX6, "loss", "(II)I"⟩
abbrev cX6_type : ByteArray := prog_1_method_10_code
def yX6_type : MethodName := ⟨RX6, "type", "(JI)I"⟩
abbrev cX6_town : ByteArray := prog_1_method_11_code
def yX6_town : MethodName := ⟨RX6, "town", "()I"⟩
abbrev cX6_plan : ByteArray := prog_1_method_12_code
def yX6_plan : MethodName := ⟨RX6, "plan", "()I"⟩
abbrev cX6_lay : ByteArray := prog_1_method_13_code
def yX6_lay : MethodName := ⟨RX6, "lay", "(II)I"⟩
abbrev cX6_is : ByteArray := prog_1_method_14_code
def yX6_is : MethodName := ⟨RX6, "is", "(I)I"⟩
abbrev cX6_late : ByteArray := prog_1_method_15_code
def yX6_late : MethodName := ⟨RX6, "late", "(I)I"⟩
abbrev cX6_gain : ByteArray := prog_1_method_16_code
def yX6_gain : MethodName := ⟨RX6, "gain", "()I"⟩
abbrev cX6_wrong : ByteArray := prog_1_method_17_code
def yX6_wrong : MethodName := ⟨RX6, "wrong", "()I"⟩
abbrev cX6_missed : ByteArray := prog_1_method_18_code
def yX6_missed : MethodName := ⟨RX6, "missed", "()I"⟩
abbrev cX6_day : ByteArray := prog_1_method_19_code
def yX6_day : MethodName := ⟨RX6, "day", "()I"⟩
abbrev cX6_best : ByteArray := prog_1_method_20_code
def yX6_best : MethodName := ⟨RX6, "best", "(II)I"⟩
abbrev cX6_spend : ByteArray := prog_1_method_21_code
def yX6_spend : MethodName := ⟨RX6, "spend", "(I)I"⟩
abbrev cX6_share : ByteArray := prog_1_method_22_code
def yX6_share : MethodName := ⟨RX6, "share", "(I)I"⟩
abbrev cX6_vote : ByteArray := prog_1_method_23_code
def yX6_vote : MethodName := ⟨RX6, "vote", "(I)I"⟩
abbrev cX6_choice : ByteArray := prog_1_method_24_code
def yX6_choice : MethodName := ⟨RX6, "choice", "(I)I"⟩
abbrev cX6_lots : ByteArray := prog_1_method_25_code
def yX6_lots : MethodName := ⟨RX6, "lots", "(I)I"⟩
abbrev cX6_seed : ByteArray := prog_1_method_26_code
def yX6_seed : MethodName := ⟨RX6, "seed", "(I)I"⟩
abbrev cX6_image : ByteArray := prog_1_method_27_code
def yX6_image : MethodName := ⟨RX6, "image", "()I"⟩
abbrev cX6_restore : ByteArray := prog_1_method_28_code
def yX6_restore : MethodName := ⟨RX6, "restore", "()I"⟩
abbrev cX6_clocks : ByteArray := prog_1_method_29_code
def yX6_clocks : MethodName := ⟨RX6, "clocks", "(IIII)J"⟩
abbrev cX6_sure : ByteArray := prog_1_method_30_code
def yX6_sure : MethodName := ⟨RX6, "sure", "(IIIII)I"⟩
abbrev cX6_film : ByteArray := prog_1_method_31_code
def yX6_film : MethodName := ⟨RX6, "film", "(III)I"⟩
abbrev cX6_build : ByteArray := prog_1_method_32_code
def yX6_build : MethodName := ⟨RX6, "build", "(III)I"⟩
abbrev cX6_sheet : ByteArray := prog_1_method_33_code
def yX6_sheet : MethodName := ⟨RX6, "sheet", "(III)I"⟩
abbrev cX6_drop : ByteArray := prog_1_method_34_code
def yX6_drop : MethodName := ⟨RX6, "drop", "(I)I"⟩
abbrev cX6_item : ByteArray := prog_1_method_35_code
def yX6_item : MethodName := ⟨RX6, "item", "(IIIJ)I"⟩
abbrev cX6_copy : ByteArray := prog_1_method_36_code
def yX6_copy : MethodName := ⟨RX6, "copy", "(IIIII)I"⟩
abbrev cX6_isWithin : ByteArray := prog_1_method_37_code
def yX6_isWithin : MethodName := ⟨RX6, "isWithin", "(II)Z"⟩
abbrev cX6_isHour : ByteArray := prog_1_method_38_code
def yX6_isHour : MethodName := ⟨RX6, "isHour", "(I)Z"⟩
abbrev cX6_isNumber : ByteArray := prog_1_method_39_code
def yX6_isNumber : MethodName := ⟨RX6, "isNumber", "(J)Z"⟩
abbrev cX6_isSheet : ByteArray := prog_1_method_40_code
def yX6_isSheet : MethodName := ⟨RX6, "isSheet", "(I)Z"⟩
abbrev cX6_isLane : ByteArray := prog_1_method_41_code
def yX6_isLane : MethodName := ⟨RX6, "isLane", "(I)Z"⟩
abbrev cX6_mostOfSetting : ByteArray := prog_1_method_42_code
def yX6_mostOfSetting : MethodName := ⟨RX6, "mostOfSetting", "(I)I"⟩
abbrev cX6_byteOf : ByteArray := prog_1_method_43_code
def yX6_byteOf : MethodName := ⟨RX6, "byteOf", "(JI)I"⟩
abbrev cX6_apart : ByteArray := prog_1_method_44_code
def yX6_apart : MethodName := ⟨RX6, "apart", "(II)I"⟩
abbrev cX6_lateAt : ByteArray := prog_1_method_45_code
def yX6_lateAt : MethodName := ⟨RX6, "lateAt", "([II)I"⟩
abbrev cX6_rowRefusal : ByteArray := prog_1_method_46_code
def yX6_rowRefusal : MethodName := ⟨RX6, "rowRefusal", "(IIII)I"⟩
abbrev cX6_clocksRefusal : ByteArray := prog_1_method_47_code
def yX6_clocksRefusal : MethodName := ⟨RX6, "clocksRefusal", "(IIII)I"⟩
def RX7 : String := "JarMinutesModel"
def TX7 : u_T := fun k => match k with
  | 0 => ("JarMinutesModel", "kinds", "[I", true)
  | 1 => ("JarMinutesModel", "likes", "[I", true)
  | 2 => ("JarMinutesModel", "weights", "[I", true)
  | 3 => ("JarMinutesModel", "mays", "[I", true)
  | 4 => ("JarMinutesModel", "people", "I", false)
  | 5 => ("JarMinutesModel", "trainHours", "[I", true)
  | 6 => ("JarMinutesModel", "waits", "[I", true)
  | 7 => ("JarMinutesModel", "trains", "I", false)
  | 8 => ("JarMinutesModel", "losses", "[I", true)
  | 9 => ("JarMinutesModel", "plan", "[I", true)
  | 10 => ("JarMinutesModel", "jar", "I", false)
  | 11 => ("JarMinutesModel", "leak", "I", false)
  | 12 => ("JarMinutesModel", "term", "I", false)
  | 13 => ("JarMinutesModel", "due", "I", false)
  | 14 => ("JarMinutesModel", "days", "I", false)
  | 15 => ("JarMinutesModel", "happiness", "I", false)
  | 16 => ("JarMinutesModel", "drawn", "I", false)
  | 17 => ("JarMinutesModel", "tape", "[I", true)
  | 18 => ("JarMinutesModel", "taped", "I", false)
  | 19 => ("JarMinutesModel", "place", "I", false)
  | 20 => ("JarMinutesModel", "reads", "I", false)
  | 21 => ("JarMinutesModel", "read", "[I", true)
  | 22 => ("JarMinutesModel", "readSet", "I", false)
  | 23 => ("JarMinutesModel", "gains", "[I", true)
  | 24 => ("JarMinutesModel", "mosts", "[I", true)
  | 25 => ("JarMinutesModel", "row", "[I", true)
  | 26 => ("JarMinutesModel", "isKept", "Z", false)
  | 27 => ("JarMinutesModel", "kept", "[I", true)
  | 28 => ("JarMinutesModel", "lanes", "[I", true)
  | 29 => ("JarMinutesModel", "rowSizes", "[I", true)
  | 30 => ("JarMinutesModel", "items", "[J", true)
  | 31 => ("JarMinutesModel", "ways", "[J", true)
  | _ => ("JarMinutesModel", "moved", "[J", true)
def tyX7 : Nat → FieldType := fun k => match k with
  | 0 => .array .int
  | 1 => .array .int
  | 2 => .array .int
  | 3 => .array .int
  | 4 => .int
  | 5 => .array .int
  | 6 => .array .int
  | 7 => .int
  | 8 => .array .int
  | 9 => .array .int
  | 10 => .int
  | 11 => .int
  | 12 => .int
  | 13 => .int
  | 14 => .int
  | 15 => .int
  | 16 => .int
  | 17 => .array .int
  | 18 => .int
  | 19 => .int
  | 20 => .int
  | 21 => .array .int
  | 22 => .int
  | 23 => .array .int
  | 24 => .array .int
  | 25 => .array .int
  | 26 => .boolean
  | 27 => .array .int
  | 28 => .array .int
  | 29 => .array .int
  | 30 => .array .long
  | 31 => .array .long
  | _ => .array .long
theorem nmX7 : ∀ a, a < 33 → ∀ b, b < 33 → a ≠ b → (TX7 a).2.1 ≠ (TX7 b).2.1 := by decide +kernel
theorem tyX7_ok : ∀ k, k < 33 → parseFieldDescriptor (TX7 k).2.2.1 = some (tyX7 k) := by decide +kernel
abbrev cX7_init : ByteArray := prog_9_method_1_code
def yX7_init : MethodName := ⟨RX7, "<init>", "()V"⟩
abbrev cX7_in : ByteArray := prog_9_method_2_code
def yX7_in : MethodName := ⟨RX7, "in", "(JJJ)Z"⟩
abbrev cX7_isHour : ByteArray := prog_9_method_3_code
def yX7_isHour : MethodName := ⟨RX7, "isHour", "(I)Z"⟩
abbrev cX7_isOne : ByteArray := prog_9_method_4_code
def yX7_isOne : MethodName := ⟨RX7, "isOne", "(I)Z"⟩
abbrev cX7_isNumber : ByteArray := prog_9_method_5_code
def yX7_isNumber : MethodName := ⟨RX7, "isNumber", "(J)Z"⟩
abbrev cX7_add : ByteArray := prog_9_method_6_code
def yX7_add : MethodName := ⟨RX7, "add", "(IIII)V"⟩
abbrev cX7_person : ByteArray := prog_9_method_7_code
def yX7_person : MethodName := ⟨RX7, "person", "(III)I"⟩
abbrev cX7_may : ByteArray := prog_9_method_8_code
def yX7_may : MethodName := ⟨RX7, "may", "(II)I"⟩
abbrev cX7_told : ByteArray := prog_9_method_9_code
def yX7_told : MethodName := ⟨RX7, "told", "(II)I"⟩
abbrev cX7_apart : ByteArray := prog_9_method_10_code
def yX7_apart : MethodName := ⟨RX7, "apart", "(II)I"⟩
abbrev cX7_worthOf : ByteArray := prog_9_method_11_code
def yX7_worthOf : MethodName := ⟨RX7, "worthOf", "(III)I"⟩
abbrev cX7_worth : ByteArray := prog_9_method_12_code
def yX7_worth : MethodName := ⟨RX7, "worth", "(III)I"⟩
abbrev cX7_train : ByteArray := prog_9_method_13_code
def yX7_train : MethodName := ⟨RX7, "train", "(II)I"⟩
abbrev cX7_strike : ByteArray := prog_9_method_14_code
def yX7_strike : MethodName := ⟨RX7, "strike", "()I"⟩
abbrev cX7_set : ByteArray := prog_9_method_15_code
def yX7_set : MethodName := ⟨RX7, "set", "(II)I"⟩
abbrev cX7_loss : ByteArray := prog_9_method_16_code
def yX7_loss : MethodName := ⟨RX7, "loss", "(II)I"⟩
abbrev cX7_is : ByteArray := prog_9_method_17_code
def yX7_is : MethodName := ⟨RX7, "is", "(I)I"⟩
abbrev cX7_type : ByteArray := prog_9_method_18_code
def yX7_type : MethodName := ⟨RX7, "type", "(JI)I"⟩
abbrev cX7_nextByte : ByteArray := prog_9_method_19_code
def yX7_nextByte : MethodName := ⟨RX7, "nextByte", "()I"⟩
abbrev cX7_takes : ByteArray := prog_9_method_20_code
def yX7_takes : MethodName := ⟨RX7, "takes", "(I)Z"⟩
abbrev cX7_readNumber : ByteArray := prog_9_method_21_code
def yX7_readNumber : MethodName := ⟨RX7, "readNumber", "(I)I"⟩
abbrev cX7_readOne : ByteArray := prog_9_method_22_code
def yX7_readOne : MethodName := ⟨RX7, "readOne", "(I)Z"⟩
abbrev cX7_readTown : ByteArray := prog_9_method_23_code
def yX7_readTown : MethodName := ⟨RX7, "readTown", "()Z"⟩
abbrev cX7_end : ByteArray := prog_9_method_24_code
def yX7_end : MethodName := ⟨RX7, "end", "(Z)I"⟩
abbrev cX7_town : ByteArray := prog_9_method_25_code
def yX7_town : MethodName := ⟨RX7, "town", "()I"⟩
abbrev cX7_readHour : ByteArray := prog_9_method_26_code
def yX7_readHour : MethodName := ⟨RX7, "readHour", "()Z"⟩
abbrev cX7_readPlan : ByteArray := prog_9_method_27_code
def yX7_readPlan : MethodName := ⟨RX7, "readPlan", "()Z"⟩
abbrev cX7_plan : ByteArray := prog_9_method_28_code
def yX7_plan : MethodName := ⟨RX7, "plan", "()I"⟩
abbrev cX7_lay : ByteArray := prog_9_method_29_code
def yX7_lay : MethodName := ⟨RX7, "lay", "(II)I"⟩
abbrev cX7_lateBy : ByteArray := prog_9_method_30_code
def yX7_lateBy : MethodName := ⟨RX7, "lateBy", "([II)I"⟩
abbrev cX7_late : ByteArray := prog_9_method_31_code
def yX7_late : MethodName := ⟨RX7, "late", "(I)I"⟩
abbrev cX7_findGains : ByteArray := prog_9_method_32_code
def yX7_findGains : MethodName := ⟨RX7, "findGains", "()V"⟩
abbrev cX7_gainOf : ByteArray := prog_9_method_33_code
def yX7_gainOf : MethodName := ⟨RX7, "gainOf", "([I)I"⟩
abbrev cX7_gain : ByteArray := prog_9_method_34_code
def yX7_gain : MethodName := ⟨RX7, "gain", "()I"⟩
abbrev cX7_areCaught : ByteArray := prog_9_method_35_code
def yX7_areCaught : MethodName := ⟨RX7, "areCaught", "(II)Z"⟩
abbrev cX7_wrongOf : ByteArray := prog_9_method_36_code
def yX7_wrongOf : MethodName := ⟨RX7, "wrongOf", "([I)I"⟩
abbrev cX7_wrong : ByteArray := prog_9_method_37_code
def yX7_wrong : MethodName := ⟨RX7, "wrong", "()I"⟩
abbrev cX7_missed : ByteArray := prog_9_method_38_code
def yX7_missed : MethodName := ⟨RX7, "missed", "()I"⟩
abbrev cX7_dayBy : ByteArray := prog_9_method_39_code
def yX7_dayBy : MethodName := ⟨RX7, "dayBy", "([I)I"⟩
abbrev cX7_day : ByteArray := prog_9_method_40_code
def yX7_day : MethodName := ⟨RX7, "day", "()I"⟩
abbrev cX7_findBest : ByteArray := prog_9_method_41_code
def yX7_findBest : MethodName := ⟨RX7, "findBest", "(Z)I"⟩
abbrev cX7_best : ByteArray := prog_9_method_42_code
def yX7_best : MethodName := ⟨RX7, "best", "(II)I"⟩
abbrev cX7_spend : ByteArray := prog_9_method_43_code
def yX7_spend : MethodName := ⟨RX7, "spend", "(I)I"⟩
abbrev cX7_share : ByteArray := prog_9_method_44_code
def yX7_share : MethodName := ⟨RX7, "share", "(I)I"⟩
abbrev cX7_choiceOf : ByteArray := prog_9_method_45_code
def yX7_choiceOf : MethodName := ⟨RX7, "choiceOf", "(I)I"⟩
abbrev cX7_choice : ByteArray := prog_9_method_46_code
def yX7_choice : MethodName := ⟨RX7, "choice", "(I)I"⟩
abbrev cX7_vote : ByteArray := prog_9_method_47_code
def yX7_vote : MethodName := ⟨RX7, "vote", "(I)I"⟩
abbrev cX7_drawRow : ByteArray := prog_9_method_48_code
def yX7_drawRow : MethodName := ⟨RX7, "drawRow", "()V"⟩
abbrev cX7_lots : ByteArray := prog_9_method_49_code
def yX7_lots : MethodName := ⟨RX7, "lots", "(I)I"⟩
abbrev cX7_seed : ByteArray := prog_9_method_50_code
def yX7_seed : MethodName := ⟨RX7, "seed", "(I)I"⟩
abbrev cX7_carried : ByteArray := prog_9_method_51_code
def yX7_carried : MethodName := ⟨RX7, "carried", "(IIZ)I"⟩
abbrev cX7_image : ByteArray := prog_9_method_52_code
def yX7_image : MethodName := ⟨RX7, "image", "()I"⟩
abbrev cX7_restore : ByteArray := prog_9_method_53_code
def yX7_restore : MethodName := ⟨RX7, "restore", "()I"⟩
abbrev cX7_isSheet : ByteArray := prog_9_method_54_code
def yX7_isSheet : MethodName := ⟨RX7, "isSheet", "(II)Z"⟩
abbrev cX7_asLane : ByteArray := prog_9_method_55_code
def yX7_asLane : MethodName := ⟨RX7, "asLane", "(IJ)J"⟩
abbrev cX7_sheet : ByteArray := prog_9_method_56_code
def yX7_sheet : MethodName := ⟨RX7, "sheet", "(III)I"⟩
abbrev cX7_drop : ByteArray := prog_9_method_57_code
def yX7_drop : MethodName := ⟨RX7, "drop", "(I)I"⟩
abbrev cX7_lacksRow : ByteArray := prog_9_method_58_code
def yX7_lacksRow : MethodName := ⟨RX7, "lacksRow", "(IIII)I"⟩
abbrev cX7_item : ByteArray := prog_9_method_59_code
def yX7_item : MethodName := ⟨RX7, "item", "(IIIJ)I"⟩
abbrev cX7_isTold : ByteArray := prog_9_method_60_code
def yX7_isTold : MethodName := ⟨RX7, "isTold", "(IIII)Z"⟩
abbrev cX7_waysBy : ByteArray := prog_9_method_61_code
def yX7_waysBy : MethodName := ⟨RX7, "waysBy", "(IIII)J"⟩
abbrev cX7_lacksClocks : ByteArray := prog_9_method_62_code
def yX7_lacksClocks : MethodName := ⟨RX7, "lacksClocks", "(IIII)I"⟩
abbrev cX7_clocks : ByteArray := prog_9_method_63_code
def yX7_clocks : MethodName := ⟨RX7, "clocks", "(IIII)J"⟩
abbrev cX7_sure : ByteArray := prog_9_method_64_code
def yX7_sure : MethodName := ⟨RX7, "sure", "(IIIII)I"⟩
abbrev cX7_film : ByteArray := prog_9_method_65_code
def yX7_film : MethodName := ⟨RX7, "film", "(III)I"⟩
abbrev cX7_build : ByteArray := prog_9_method_66_code
def yX7_build : MethodName := ⟨RX7, "build", "(III)I"⟩
abbrev cX7_copy : ByteArray := prog_9_method_67_code
def yX7_copy : MethodName := ⟨RX7, "copy", "(IIIII)I"⟩
def RJ9 : String := "java/lang/Math"
def TJ9 : u_T := fun k => match k with
  | _ => ("", "", "", false)
def tyJ9 : Nat → FieldType := fun k => match k with
  | _ => .int
theorem nmJ9 : ∀ a, a < 0 → ∀ b, b < 0 → a ≠ b → (TJ9 a).2.1 ≠ (TJ9 b).2.1 := by decide +kernel
theorem tyJ9_ok : ∀ k, k < 0 → parseFieldDescriptor (TJ9 k).2.2.1 = some (tyJ9 k) := by decide +kernel
abbrev cJ9_abs_0f7a4 : ByteArray := prog_10_method_59_code
def yJ9_abs_0f7a4 : MethodName := ⟨RJ9, "abs", "(I)I"⟩
abbrev cJ9_max_7cf53 : ByteArray := prog_10_method_65_code
def yJ9_max_7cf53 : MethodName := ⟨RJ9, "max", "(II)I"⟩
abbrev cJ9_min_7cf53 : ByteArray := prog_10_method_69_code
def yJ9_min_7cf53 : MethodName := ⟨RJ9, "min", "(II)I"⟩
def RJ10 : String := "java/lang/System"
def TJ10 : u_T := fun k => match k with
  | _ => ("", "", "", false)
def tyJ10 : Nat → FieldType := fun k => match k with
  | _ => .int
theorem nmJ10 : ∀ a, a < 0 → ∀ b, b < 0 → a ≠ b → (TJ10 a).2.1 ≠ (TJ10 b).2.1 := by decide +kernel
theorem tyJ10_ok : ∀ k, k < 0 → parseFieldDescriptor (TJ10 k).2.2.1 = some (tyJ10 k) := by decide +kernel
def RJ7 : String := "java/util/Arrays"
def TJ7 : u_T := fun k => match k with
  | _ => ("", "", "", false)
def tyJ7 : Nat → FieldType := fun k => match k with
  | _ => .int
theorem nmJ7 : ∀ a, a < 0 → ∀ b, b < 0 → a ≠ b → (TJ7 a).2.1 ≠ (TJ7 b).2.1 := by decide +kernel
theorem tyJ7_ok : ∀ k, k < 0 → parseFieldDescriptor (TJ7 k).2.2.1 = some (tyJ7 k) := by decide +kernel
abbrev cJ7_fill_d0a16 : ByteArray := prog_12_method_101_code
def yJ7_fill_d0a16 : MethodName := ⟨RJ7, "fill", "([JJ)V"⟩
abbrev cJ7_fill_53178 : ByteArray := prog_12_method_103_code
def yJ7_fill_53178 : MethodName := ⟨RJ7, "fill", "([II)V"⟩
def RL : String := "JarMinutesLaw"
abbrev cL_law : ByteArray := code
def yL_law : MethodName := ⟨RL, "law", "([I)Z"⟩
abbrev vwCl : List vw_C := [(RX0, TX0, 2), (RX1, TX1, 4), (RX2, TX2, 3), (RX3, TX3, 3), (RX4, TX4, 6), (RX5, TX5, 14), (RX6, TX6, 8), (RX7, TX7, 33)]
