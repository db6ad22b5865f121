section
-- ===== PART A: goes FIRST, ahead of the names: the tables' words, and 'selects' of the private methods out of them =====
/-- a private method of a class that the tables say can be made, by its rows of tables_1 -/
def lw_okq (q : MethodName × Nat) : Prop := (q.1.cls ≠ "java/lang/invoke/MethodHandle" ∧ q.1.cls ≠ "java/lang/invoke/VarHandle") ∧ Cond.instantiable q.1.cls q.2 ∈ tables_1 ∧ Cond.privateMethod q.1 ∈ tables_1 ∧ Cond.instanceMethod q.1 ∈ tables_1
theorem lw_p0 : lw_okq (⟨"DreamGraves", "found", "(I)I"⟩, 8) := ⟨⟨by decide +kernel, by decide +kernel⟩, List.mem_of_getElem? (i := 13) (by decide +kernel), List.mem_of_getElem? (i := 230) (by decide +kernel), List.mem_of_getElem? (i := 231) (by decide +kernel)⟩
theorem lw_p1 : lw_okq (⟨"DreamGraves", "sound", "(I)I"⟩, 8) := ⟨⟨by decide +kernel, by decide +kernel⟩, List.mem_of_getElem? (i := 13) (by decide +kernel), List.mem_of_getElem? (i := 242) (by decide +kernel), List.mem_of_getElem? (i := 243) (by decide +kernel)⟩
theorem lw_p2 : lw_okq (⟨"DreamGraves$Tape", "nextToken", "()V"⟩, 9) := ⟨⟨by decide +kernel, by decide +kernel⟩, List.mem_of_getElem? (i := 23) (by decide +kernel), List.mem_of_getElem? (i := 301) (by decide +kernel), List.mem_of_getElem? (i := 302) (by decide +kernel)⟩
theorem lw_p3 : lw_okq (⟨"DreamGraves$Tape", "takeFigures", "()V"⟩, 9) := ⟨⟨by decide +kernel, by decide +kernel⟩, List.mem_of_getElem? (i := 23) (by decide +kernel), List.mem_of_getElem? (i := 308) (by decide +kernel), List.mem_of_getElem? (i := 309) (by decide +kernel)⟩
theorem lw_p4 : lw_okq (⟨"DreamGraves$Tape", "readLaw", "()Z"⟩, 9) := ⟨⟨by decide +kernel, by decide +kernel⟩, List.mem_of_getElem? (i := 23) (by decide +kernel), List.mem_of_getElem? (i := 312) (by decide +kernel), List.mem_of_getElem? (i := 313) (by decide +kernel)⟩
theorem lw_p5 : lw_okq (⟨"DreamGraves$Tape", "takeSign", "(I)Z"⟩, 9) := ⟨⟨by decide +kernel, by decide +kernel⟩, List.mem_of_getElem? (i := 23) (by decide +kernel), List.mem_of_getElem? (i := 316) (by decide +kernel), List.mem_of_getElem? (i := 317) (by decide +kernel)⟩
theorem lw_p6 : lw_okq (⟨"DreamGraves$Tape", "fail", "(I)Z"⟩, 9) := ⟨⟨by decide +kernel, by decide +kernel⟩, List.mem_of_getElem? (i := 23) (by decide +kernel), List.mem_of_getElem? (i := 320) (by decide +kernel), List.mem_of_getElem? (i := 321) (by decide +kernel)⟩
theorem lw_p7 : lw_okq (⟨"DreamGraves$Tape", "takeNumber", "(II)Z"⟩, 9) := ⟨⟨by decide +kernel, by decide +kernel⟩, List.mem_of_getElem? (i := 23) (by decide +kernel), List.mem_of_getElem? (i := 324) (by decide +kernel), List.mem_of_getElem? (i := 325) (by decide +kernel)⟩
theorem lw_p8 : lw_okq (⟨"DreamGraves$Tape", "readSleepers", "()Z"⟩, 9) := ⟨⟨by decide +kernel, by decide +kernel⟩, List.mem_of_getElem? (i := 23) (by decide +kernel), List.mem_of_getElem? (i := 331) (by decide +kernel), List.mem_of_getElem? (i := 332) (by decide +kernel)⟩
theorem lw_p9 : lw_okq (⟨"DreamGraves$Tape", "readSleeper", "(I)Z"⟩, 9) := ⟨⟨by decide +kernel, by decide +kernel⟩, List.mem_of_getElem? (i := 23) (by decide +kernel), List.mem_of_getElem? (i := 335) (by decide +kernel), List.mem_of_getElem? (i := 336) (by decide +kernel)⟩
theorem lw_p10 : lw_okq (⟨"DreamGraves", "noYard", "()Z"⟩, 8) := ⟨⟨by decide +kernel, by decide +kernel⟩, List.mem_of_getElem? (i := 13) (by decide +kernel), List.mem_of_getElem? (i := 377) (by decide +kernel), List.mem_of_getElem? (i := 378) (by decide +kernel)⟩
theorem lw_p11 : lw_okq (⟨"DreamGraves$Yard", "rememberedBy", "(I)I"⟩, 10) := ⟨⟨by decide +kernel, by decide +kernel⟩, List.mem_of_getElem? (i := 29) (by decide +kernel), List.mem_of_getElem? (i := 404) (by decide +kernel), List.mem_of_getElem? (i := 405) (by decide +kernel)⟩
theorem lw_p12 : lw_okq (⟨"DreamGraves$Yard", "nextBehind", "(I)I"⟩, 10) := ⟨⟨by decide +kernel, by decide +kernel⟩, List.mem_of_getElem? (i := 29) (by decide +kernel), List.mem_of_getElem? (i := 414) (by decide +kernel), List.mem_of_getElem? (i := 415) (by decide +kernel)⟩
theorem lw_p13 : lw_okq (⟨"DreamGraves$Yard", "graveOfYear", "()I"⟩, 10) := ⟨⟨by decide +kernel, by decide +kernel⟩, List.mem_of_getElem? (i := 29) (by decide +kernel), List.mem_of_getElem? (i := 418) (by decide +kernel), List.mem_of_getElem? (i := 419) (by decide +kernel)⟩
theorem lw_p14 : lw_okq (⟨"DreamGraves$Yard", "forgetByAll", "(I)V"⟩, 10) := ⟨⟨by decide +kernel, by decide +kernel⟩, List.mem_of_getElem? (i := 29) (by decide +kernel), List.mem_of_getElem? (i := 422) (by decide +kernel), List.mem_of_getElem? (i := 423) (by decide +kernel)⟩
theorem lw_p15 : lw_okq (⟨"DreamGraves$Yard", "fadeFor", "(I)V"⟩, 10) := ⟨⟨by decide +kernel, by decide +kernel⟩, List.mem_of_getElem? (i := 29) (by decide +kernel), List.mem_of_getElem? (i := 431) (by decide +kernel), List.mem_of_getElem? (i := 432) (by decide +kernel)⟩
def lw_privs_1 : List (MethodName × Nat) := [(⟨"DreamGraves", "found", "(I)I"⟩, 8), (⟨"DreamGraves", "sound", "(I)I"⟩, 8), (⟨"DreamGraves$Tape", "nextToken", "()V"⟩, 9), (⟨"DreamGraves$Tape", "takeFigures", "()V"⟩, 9), (⟨"DreamGraves$Tape", "readLaw", "()Z"⟩, 9), (⟨"DreamGraves$Tape", "takeSign", "(I)Z"⟩, 9), (⟨"DreamGraves$Tape", "fail", "(I)Z"⟩, 9), (⟨"DreamGraves$Tape", "takeNumber", "(II)Z"⟩, 9), (⟨"DreamGraves$Tape", "readSleepers", "()Z"⟩, 9), (⟨"DreamGraves$Tape", "readSleeper", "(I)Z"⟩, 9), (⟨"DreamGraves", "noYard", "()Z"⟩, 8), (⟨"DreamGraves$Yard", "rememberedBy", "(I)I"⟩, 10), (⟨"DreamGraves$Yard", "nextBehind", "(I)I"⟩, 10), (⟨"DreamGraves$Yard", "graveOfYear", "()I"⟩, 10), (⟨"DreamGraves$Yard", "forgetByAll", "(I)V"⟩, 10), (⟨"DreamGraves$Yard", "fadeFor", "(I)V"⟩, 10)]
theorem lw_r1 : ∀ q ∈ lw_privs_1, lw_okq q := List.forall_mem_cons.mpr ⟨lw_p0, List.forall_mem_cons.mpr ⟨lw_p1, List.forall_mem_cons.mpr ⟨lw_p2, List.forall_mem_cons.mpr ⟨lw_p3, List.forall_mem_cons.mpr ⟨lw_p4, List.forall_mem_cons.mpr ⟨lw_p5, List.forall_mem_cons.mpr ⟨lw_p6, List.forall_mem_cons.mpr ⟨lw_p7, List.forall_mem_cons.mpr ⟨lw_p8, List.forall_mem_cons.mpr ⟨lw_p9, List.forall_mem_cons.mpr ⟨lw_p10, List.forall_mem_cons.mpr ⟨lw_p11, List.forall_mem_cons.mpr ⟨lw_p12, List.forall_mem_cons.mpr ⟨lw_p13, List.forall_mem_cons.mpr ⟨lw_p14, List.forall_mem_cons.mpr ⟨lw_p15, fun _ h => absurd h List.not_mem_nil⟩⟩⟩⟩⟩⟩⟩⟩⟩⟩⟩⟩⟩⟩⟩⟩
theorem lw_p16 : lw_okq (⟨"DreamGraves", "isSleeper", "(I)Z"⟩, 8) := ⟨⟨by decide +kernel, by decide +kernel⟩, List.mem_of_getElem? (i := 13) (by decide +kernel), List.mem_of_getElem? (i := 443) (by decide +kernel), List.mem_of_getElem? (i := 444) (by decide +kernel)⟩
theorem lw_p17 : lw_okq (⟨"DreamGraves", "isGrave", "(I)Z"⟩, 8) := ⟨⟨by decide +kernel, by decide +kernel⟩, List.mem_of_getElem? (i := 13) (by decide +kernel), List.mem_of_getElem? (i := 464) (by decide +kernel), List.mem_of_getElem? (i := 465) (by decide +kernel)⟩
theorem lw_p18 : lw_okq (⟨"DreamGraves$Seer", "copyOf", "(LDreamGraves$Yard;)LDreamGraves$Yard;"⟩, 4) := ⟨⟨by decide +kernel, by decide +kernel⟩, List.mem_of_getElem? (i := 140) (by decide +kernel), List.mem_of_getElem? (i := 506) (by decide +kernel), List.mem_of_getElem? (i := 507) (by decide +kernel)⟩
theorem lw_p19 : lw_okq (⟨"DreamGraves$Seer", "tryYear", "(IIII)V"⟩, 4) := ⟨⟨by decide +kernel, by decide +kernel⟩, List.mem_of_getElem? (i := 140) (by decide +kernel), List.mem_of_getElem? (i := 542) (by decide +kernel), List.mem_of_getElem? (i := 543) (by decide +kernel)⟩
theorem lw_p20 : lw_okq (⟨"DreamGraves$Asker", "sizeOf", "(LDreamGraves$Yard;II)I"⟩, 2) := ⟨⟨by decide +kernel, by decide +kernel⟩, List.mem_of_getElem? (i := 163) (by decide +kernel), List.mem_of_getElem? (i := 667) (by decide +kernel), List.mem_of_getElem? (i := 668) (by decide +kernel)⟩
theorem lw_p21 : lw_okq (⟨"DreamGraves$Asker", "give", "(ILDreamGraves$Yard;II)I"⟩, 2) := ⟨⟨by decide +kernel, by decide +kernel⟩, List.mem_of_getElem? (i := 163) (by decide +kernel), List.mem_of_getElem? (i := 676) (by decide +kernel), List.mem_of_getElem? (i := 677) (by decide +kernel)⟩
theorem lw_p22 : lw_okq (⟨"DreamGraves$Asker", "leave", "(I)V"⟩, 2) := ⟨⟨by decide +kernel, by decide +kernel⟩, List.mem_of_getElem? (i := 163) (by decide +kernel), List.mem_of_getElem? (i := 680) (by decide +kernel), List.mem_of_getElem? (i := 681) (by decide +kernel)⟩
theorem lw_p23 : lw_okq (⟨"DreamGraves$Asker", "markOf", "(LDreamGraves$Yard;II)I"⟩, 2) := ⟨⟨by decide +kernel, by decide +kernel⟩, List.mem_of_getElem? (i := 163) (by decide +kernel), List.mem_of_getElem? (i := 685) (by decide +kernel), List.mem_of_getElem? (i := 686) (by decide +kernel)⟩
theorem lw_p24 : lw_okq (⟨"DreamGraves", "rowsThere", "()I"⟩, 8) := ⟨⟨by decide +kernel, by decide +kernel⟩, List.mem_of_getElem? (i := 13) (by decide +kernel), List.mem_of_getElem? (i := 700) (by decide +kernel), List.mem_of_getElem? (i := 701) (by decide +kernel)⟩
theorem lw_p25 : lw_okq (⟨"DreamGravesModel", "find", "(I)I"⟩, 25) := ⟨⟨by decide +kernel, by decide +kernel⟩, List.mem_of_getElem? (i := 708) (by decide +kernel), List.mem_of_getElem? (i := 804) (by decide +kernel), List.mem_of_getElem? (i := 805) (by decide +kernel)⟩
theorem lw_p26 : lw_okq (⟨"DreamGravesModel", "well", "(I)I"⟩, 25) := ⟨⟨by decide +kernel, by decide +kernel⟩, List.mem_of_getElem? (i := 708) (by decide +kernel), List.mem_of_getElem? (i := 809) (by decide +kernel), List.mem_of_getElem? (i := 810) (by decide +kernel)⟩
theorem lw_p27 : lw_okq (⟨"DreamGravesModel", "readYard", "()Z"⟩, 25) := ⟨⟨by decide +kernel, by decide +kernel⟩, List.mem_of_getElem? (i := 708) (by decide +kernel), List.mem_of_getElem? (i := 838) (by decide +kernel), List.mem_of_getElem? (i := 839) (by decide +kernel)⟩
theorem lw_p28 : lw_okq (⟨"DreamGravesModel", "nextToken", "()V"⟩, 25) := ⟨⟨by decide +kernel, by decide +kernel⟩, List.mem_of_getElem? (i := 708) (by decide +kernel), List.mem_of_getElem? (i := 842) (by decide +kernel), List.mem_of_getElem? (i := 843) (by decide +kernel)⟩
theorem lw_p29 : lw_okq (⟨"DreamGravesModel", "takes", "(I)Z"⟩, 25) := ⟨⟨by decide +kernel, by decide +kernel⟩, List.mem_of_getElem? (i := 708) (by decide +kernel), List.mem_of_getElem? (i := 850) (by decide +kernel), List.mem_of_getElem? (i := 851) (by decide +kernel)⟩
theorem lw_p30 : lw_okq (⟨"DreamGravesModel", "isLetter", "(I)Z"⟩, 25) := ⟨⟨by decide +kernel, by decide +kernel⟩, List.mem_of_getElem? (i := 708) (by decide +kernel), List.mem_of_getElem? (i := 854) (by decide +kernel), List.mem_of_getElem? (i := 855) (by decide +kernel)⟩
theorem lw_p31 : lw_okq (⟨"DreamGravesModel", "faults", "(I)Z"⟩, 25) := ⟨⟨by decide +kernel, by decide +kernel⟩, List.mem_of_getElem? (i := 708) (by decide +kernel), List.mem_of_getElem? (i := 858) (by decide +kernel), List.mem_of_getElem? (i := 859) (by decide +kernel)⟩
def lw_privs_2 : List (MethodName × Nat) := [(⟨"DreamGraves", "isSleeper", "(I)Z"⟩, 8), (⟨"DreamGraves", "isGrave", "(I)Z"⟩, 8), (⟨"DreamGraves$Seer", "copyOf", "(LDreamGraves$Yard;)LDreamGraves$Yard;"⟩, 4), (⟨"DreamGraves$Seer", "tryYear", "(IIII)V"⟩, 4), (⟨"DreamGraves$Asker", "sizeOf", "(LDreamGraves$Yard;II)I"⟩, 2), (⟨"DreamGraves$Asker", "give", "(ILDreamGraves$Yard;II)I"⟩, 2), (⟨"DreamGraves$Asker", "leave", "(I)V"⟩, 2), (⟨"DreamGraves$Asker", "markOf", "(LDreamGraves$Yard;II)I"⟩, 2), (⟨"DreamGraves", "rowsThere", "()I"⟩, 8), (⟨"DreamGravesModel", "find", "(I)I"⟩, 25), (⟨"DreamGravesModel", "well", "(I)I"⟩, 25), (⟨"DreamGravesModel", "readYard", "()Z"⟩, 25), (⟨"DreamGravesModel", "nextToken", "()V"⟩, 25), (⟨"DreamGravesModel", "takes", "(I)Z"⟩, 25), (⟨"DreamGravesModel", "isLetter", "(I)Z"⟩, 25), (⟨"DreamGravesModel", "faults", "(I)Z"⟩, 25)]
theorem lw_r2 : ∀ q ∈ lw_privs_2, lw_okq q := List.forall_mem_cons.mpr ⟨lw_p16, List.forall_mem_cons.mpr ⟨lw_p17, List.forall_mem_cons.mpr ⟨lw_p18, List.forall_mem_cons.mpr ⟨lw_p19, List.forall_mem_cons.mpr ⟨lw_p20, List.forall_mem_cons.mpr ⟨lw_p21, List.forall_mem_cons.mpr ⟨lw_p22, List.forall_mem_cons.mpr ⟨lw_p23, List.forall_mem_cons.mpr ⟨lw_p24, List.forall_mem_cons.mpr ⟨lw_p25, List.forall_mem_cons.mpr ⟨lw_p26, List.forall_mem_cons.mpr ⟨lw_p27, List.forall_mem_cons.mpr ⟨lw_p28, List.forall_mem_cons.mpr ⟨lw_p29, List.forall_mem_cons.mpr ⟨lw_p30, List.forall_mem_cons.mpr ⟨lw_p31, fun _ h => absurd h List.not_mem_nil⟩⟩⟩⟩⟩⟩⟩⟩⟩⟩⟩⟩⟩⟩⟩⟩
theorem lw_p32 : lw_okq (⟨"DreamGravesModel", "takesNumber", "(IIII)Z"⟩, 25) := ⟨⟨by decide +kernel, by decide +kernel⟩, List.mem_of_getElem? (i := 708) (by decide +kernel), List.mem_of_getElem? (i := 862) (by decide +kernel), List.mem_of_getElem? (i := 863) (by decide +kernel)⟩
theorem lw_p33 : lw_okq (⟨"DreamGravesModel", "readSleeper", "(I)Z"⟩, 25) := ⟨⟨by decide +kernel, by decide +kernel⟩, List.mem_of_getElem? (i := 708) (by decide +kernel), List.mem_of_getElem? (i := 866) (by decide +kernel), List.mem_of_getElem? (i := 867) (by decide +kernel)⟩
theorem lw_p34 : lw_okq (⟨"DreamGravesModel", "note", "()V"⟩, 25) := ⟨⟨by decide +kernel, by decide +kernel⟩, List.mem_of_getElem? (i := 708) (by decide +kernel), List.mem_of_getElem? (i := 885) (by decide +kernel), List.mem_of_getElem? (i := 886) (by decide +kernel)⟩
theorem lw_p35 : lw_okq (⟨"DreamGravesModel", "oneYear", "()V"⟩, 25) := ⟨⟨by decide +kernel, by decide +kernel⟩, List.mem_of_getElem? (i := 708) (by decide +kernel), List.mem_of_getElem? (i := 889) (by decide +kernel), List.mem_of_getElem? (i := 890) (by decide +kernel)⟩
theorem lw_p36 : lw_okq (⟨"DreamGravesModel", "allDreams", "()I"⟩, 25) := ⟨⟨by decide +kernel, by decide +kernel⟩, List.mem_of_getElem? (i := 708) (by decide +kernel), List.mem_of_getElem? (i := 893) (by decide +kernel), List.mem_of_getElem? (i := 894) (by decide +kernel)⟩
theorem lw_p37 : lw_okq (⟨"DreamGravesModel", "dreams", "(I)I"⟩, 25) := ⟨⟨by decide +kernel, by decide +kernel⟩, List.mem_of_getElem? (i := 708) (by decide +kernel), List.mem_of_getElem? (i := 897) (by decide +kernel), List.mem_of_getElem? (i := 898) (by decide +kernel)⟩
theorem lw_p38 : lw_okq (⟨"DreamGravesModel", "mostOf", "(II)I"⟩, 25) := ⟨⟨by decide +kernel, by decide +kernel⟩, List.mem_of_getElem? (i := 708) (by decide +kernel), List.mem_of_getElem? (i := 901) (by decide +kernel), List.mem_of_getElem? (i := 902) (by decide +kernel)⟩
theorem lw_p39 : lw_okq (⟨"DreamGravesModel", "memoryOf", "(II)I"⟩, 25) := ⟨⟨by decide +kernel, by decide +kernel⟩, List.mem_of_getElem? (i := 708) (by decide +kernel), List.mem_of_getElem? (i := 908) (by decide +kernel), List.mem_of_getElem? (i := 909) (by decide +kernel)⟩
theorem lw_p40 : lw_okq (⟨"DreamGravesModel", "lessOf", "(I)I"⟩, 25) := ⟨⟨by decide +kernel, by decide +kernel⟩, List.mem_of_getElem? (i := 708) (by decide +kernel), List.mem_of_getElem? (i := 912) (by decide +kernel), List.mem_of_getElem? (i := 913) (by decide +kernel)⟩
theorem lw_p41 : lw_okq (⟨"DreamGravesModel", "isSleeper", "(I)Z"⟩, 25) := ⟨⟨by decide +kernel, by decide +kernel⟩, List.mem_of_getElem? (i := 708) (by decide +kernel), List.mem_of_getElem? (i := 920) (by decide +kernel), List.mem_of_getElem? (i := 921) (by decide +kernel)⟩
theorem lw_p42 : lw_okq (⟨"DreamGravesModel", "suppered", "()I"⟩, 25) := ⟨⟨by decide +kernel, by decide +kernel⟩, List.mem_of_getElem? (i := 708) (by decide +kernel), List.mem_of_getElem? (i := 924) (by decide +kernel), List.mem_of_getElem? (i := 925) (by decide +kernel)⟩
theorem lw_p43 : lw_okq (⟨"DreamGravesModel", "isGrave", "(I)Z"⟩, 25) := ⟨⟨by decide +kernel, by decide +kernel⟩, List.mem_of_getElem? (i := 708) (by decide +kernel), List.mem_of_getElem? (i := 939) (by decide +kernel), List.mem_of_getElem? (i := 940) (by decide +kernel)⟩
theorem lw_p44 : lw_okq (⟨"DreamGravesModel", "memoryBy", "(I)I"⟩, 25) := ⟨⟨by decide +kernel, by decide +kernel⟩, List.mem_of_getElem? (i := 708) (by decide +kernel), List.mem_of_getElem? (i := 951) (by decide +kernel), List.mem_of_getElem? (i := 952) (by decide +kernel)⟩
theorem lw_p45 : lw_okq (⟨"DreamGravesModel", "putAside", "()V"⟩, 25) := ⟨⟨by decide +kernel, by decide +kernel⟩, List.mem_of_getElem? (i := 708) (by decide +kernel), List.mem_of_getElem? (i := 968) (by decide +kernel), List.mem_of_getElem? (i := 969) (by decide +kernel)⟩
theorem lw_p46 : lw_okq (⟨"DreamGravesModel", "takeBack", "()V"⟩, 25) := ⟨⟨by decide +kernel, by decide +kernel⟩, List.mem_of_getElem? (i := 708) (by decide +kernel), List.mem_of_getElem? (i := 972) (by decide +kernel), List.mem_of_getElem? (i := 973) (by decide +kernel)⟩
theorem lw_p47 : lw_okq (⟨"DreamGravesModel", "dugIn", "(IZ)I"⟩, 25) := ⟨⟨by decide +kernel, by decide +kernel⟩, List.mem_of_getElem? (i := 708) (by decide +kernel), List.mem_of_getElem? (i := 980) (by decide +kernel), List.mem_of_getElem? (i := 981) (by decide +kernel)⟩
def lw_privs_3 : List (MethodName × Nat) := [(⟨"DreamGravesModel", "takesNumber", "(IIII)Z"⟩, 25), (⟨"DreamGravesModel", "readSleeper", "(I)Z"⟩, 25), (⟨"DreamGravesModel", "note", "()V"⟩, 25), (⟨"DreamGravesModel", "oneYear", "()V"⟩, 25), (⟨"DreamGravesModel", "allDreams", "()I"⟩, 25), (⟨"DreamGravesModel", "dreams", "(I)I"⟩, 25), (⟨"DreamGravesModel", "mostOf", "(II)I"⟩, 25), (⟨"DreamGravesModel", "memoryOf", "(II)I"⟩, 25), (⟨"DreamGravesModel", "lessOf", "(I)I"⟩, 25), (⟨"DreamGravesModel", "isSleeper", "(I)Z"⟩, 25), (⟨"DreamGravesModel", "suppered", "()I"⟩, 25), (⟨"DreamGravesModel", "isGrave", "(I)Z"⟩, 25), (⟨"DreamGravesModel", "memoryBy", "(I)I"⟩, 25), (⟨"DreamGravesModel", "putAside", "()V"⟩, 25), (⟨"DreamGravesModel", "takeBack", "()V"⟩, 25), (⟨"DreamGravesModel", "dugIn", "(IZ)I"⟩, 25)]
theorem lw_r3 : ∀ q ∈ lw_privs_3, lw_okq q := List.forall_mem_cons.mpr ⟨lw_p32, List.forall_mem_cons.mpr ⟨lw_p33, List.forall_mem_cons.mpr ⟨lw_p34, List.forall_mem_cons.mpr ⟨lw_p35, List.forall_mem_cons.mpr ⟨lw_p36, List.forall_mem_cons.mpr ⟨lw_p37, List.forall_mem_cons.mpr ⟨lw_p38, List.forall_mem_cons.mpr ⟨lw_p39, List.forall_mem_cons.mpr ⟨lw_p40, List.forall_mem_cons.mpr ⟨lw_p41, List.forall_mem_cons.mpr ⟨lw_p42, List.forall_mem_cons.mpr ⟨lw_p43, List.forall_mem_cons.mpr ⟨lw_p44, List.forall_mem_cons.mpr ⟨lw_p45, List.forall_mem_cons.mpr ⟨lw_p46, List.forall_mem_cons.mpr ⟨lw_p47, fun _ h => absurd h List.not_mem_nil⟩⟩⟩⟩⟩⟩⟩⟩⟩⟩⟩⟩⟩⟩⟩⟩
theorem lw_p48 : lw_okq (⟨"DreamGravesModel", "feedAll", "()V"⟩, 25) := ⟨⟨by decide +kernel, by decide +kernel⟩, List.mem_of_getElem? (i := 708) (by decide +kernel), List.mem_of_getElem? (i := 984) (by decide +kernel), List.mem_of_getElem? (i := 985) (by decide +kernel)⟩
theorem lw_p49 : lw_okq (⟨"DreamGravesModel", "findWay", "(II)I"⟩, 25) := ⟨⟨by decide +kernel, by decide +kernel⟩, List.mem_of_getElem? (i := 708) (by decide +kernel), List.mem_of_getElem? (i := 998) (by decide +kernel), List.mem_of_getElem? (i := 999) (by decide +kernel)⟩
theorem lw_p50 : lw_okq (⟨"DreamGravesModel", "isKeptBy", "(II)Z"⟩, 25) := ⟨⟨by decide +kernel, by decide +kernel⟩, List.mem_of_getElem? (i := 708) (by decide +kernel), List.mem_of_getElem? (i := 1002) (by decide +kernel), List.mem_of_getElem? (i := 1003) (by decide +kernel)⟩
theorem lw_p51 : lw_okq (⟨"DreamGravesModel", "giveSuppers", "(I)V"⟩, 25) := ⟨⟨by decide +kernel, by decide +kernel⟩, List.mem_of_getElem? (i := 708) (by decide +kernel), List.mem_of_getElem? (i := 1006) (by decide +kernel), List.mem_of_getElem? (i := 1007) (by decide +kernel)⟩
theorem lw_p52 : lw_okq (⟨"DreamGravesModel", "lacks", "(III)I"⟩, 25) := ⟨⟨by decide +kernel, by decide +kernel⟩, List.mem_of_getElem? (i := 708) (by decide +kernel), List.mem_of_getElem? (i := 1031) (by decide +kernel), List.mem_of_getElem? (i := 1032) (by decide +kernel)⟩
theorem lw_p53 : lw_okq (⟨"DreamGravesModel", "isSo", "(II)Z"⟩, 25) := ⟨⟨by decide +kernel, by decide +kernel⟩, List.mem_of_getElem? (i := 708) (by decide +kernel), List.mem_of_getElem? (i := 1035) (by decide +kernel), List.mem_of_getElem? (i := 1036) (by decide +kernel)⟩
theorem lw_p54 : lw_okq (⟨"DreamGravesModel", "needsSupper", "(I)Z"⟩, 25) := ⟨⟨by decide +kernel, by decide +kernel⟩, List.mem_of_getElem? (i := 708) (by decide +kernel), List.mem_of_getElem? (i := 1048) (by decide +kernel), List.mem_of_getElem? (i := 1049) (by decide +kernel)⟩
theorem lw_p55 : lw_okq (⟨"DreamGravesModel", "sizeOf", "(I)I"⟩, 25) := ⟨⟨by decide +kernel, by decide +kernel⟩, List.mem_of_getElem? (i := 708) (by decide +kernel), List.mem_of_getElem? (i := 1090) (by decide +kernel), List.mem_of_getElem? (i := 1091) (by decide +kernel)⟩
theorem lw_p56 : lw_okq (⟨"DreamGravesModel", "begin", "(I)V"⟩, 25) := ⟨⟨by decide +kernel, by decide +kernel⟩, List.mem_of_getElem? (i := 708) (by decide +kernel), List.mem_of_getElem? (i := 1094) (by decide +kernel), List.mem_of_getElem? (i := 1095) (by decide +kernel)⟩
theorem lw_p57 : lw_okq (⟨"DreamGravesModel", "dreamerSize", "(I)I"⟩, 25) := ⟨⟨by decide +kernel, by decide +kernel⟩, List.mem_of_getElem? (i := 708) (by decide +kernel), List.mem_of_getElem? (i := 1098) (by decide +kernel), List.mem_of_getElem? (i := 1099) (by decide +kernel)⟩
theorem lw_p58 : lw_okq (⟨"DreamGravesModel", "lent", "(II)I"⟩, 25) := ⟨⟨by decide +kernel, by decide +kernel⟩, List.mem_of_getElem? (i := 708) (by decide +kernel), List.mem_of_getElem? (i := 1102) (by decide +kernel), List.mem_of_getElem? (i := 1103) (by decide +kernel)⟩
theorem lw_p59 : lw_okq (⟨"DreamGravesModel", "markOf", "(I)I"⟩, 25) := ⟨⟨by decide +kernel, by decide +kernel⟩, List.mem_of_getElem? (i := 708) (by decide +kernel), List.mem_of_getElem? (i := 1106) (by decide +kernel), List.mem_of_getElem? (i := 1107) (by decide +kernel)⟩
theorem lw_p60 : lw_okq (⟨"DreamGravesModel", "dreamerMark", "(I)I"⟩, 25) := ⟨⟨by decide +kernel, by decide +kernel⟩, List.mem_of_getElem? (i := 708) (by decide +kernel), List.mem_of_getElem? (i := 1110) (by decide +kernel), List.mem_of_getElem? (i := 1111) (by decide +kernel)⟩
theorem lw_p61 : lw_okq (⟨"DreamGravesModel", "sizeOfWife", "(I)I"⟩, 25) := ⟨⟨by decide +kernel, by decide +kernel⟩, List.mem_of_getElem? (i := 708) (by decide +kernel), List.mem_of_getElem? (i := 1114) (by decide +kernel), List.mem_of_getElem? (i := 1115) (by decide +kernel)⟩
theorem lw_p62 : lw_okq (⟨"DreamGravesModel", "wifeSize", "(I)I"⟩, 25) := ⟨⟨by decide +kernel, by decide +kernel⟩, List.mem_of_getElem? (i := 708) (by decide +kernel), List.mem_of_getElem? (i := 1118) (by decide +kernel), List.mem_of_getElem? (i := 1119) (by decide +kernel)⟩
def lw_privs_4 : List (MethodName × Nat) := [(⟨"DreamGravesModel", "feedAll", "()V"⟩, 25), (⟨"DreamGravesModel", "findWay", "(II)I"⟩, 25), (⟨"DreamGravesModel", "isKeptBy", "(II)Z"⟩, 25), (⟨"DreamGravesModel", "giveSuppers", "(I)V"⟩, 25), (⟨"DreamGravesModel", "lacks", "(III)I"⟩, 25), (⟨"DreamGravesModel", "isSo", "(II)Z"⟩, 25), (⟨"DreamGravesModel", "needsSupper", "(I)Z"⟩, 25), (⟨"DreamGravesModel", "sizeOf", "(I)I"⟩, 25), (⟨"DreamGravesModel", "begin", "(I)V"⟩, 25), (⟨"DreamGravesModel", "dreamerSize", "(I)I"⟩, 25), (⟨"DreamGravesModel", "lent", "(II)I"⟩, 25), (⟨"DreamGravesModel", "markOf", "(I)I"⟩, 25), (⟨"DreamGravesModel", "dreamerMark", "(I)I"⟩, 25), (⟨"DreamGravesModel", "sizeOfWife", "(I)I"⟩, 25), (⟨"DreamGravesModel", "wifeSize", "(I)I"⟩, 25)]
theorem lw_r4 : ∀ q ∈ lw_privs_4, lw_okq q := List.forall_mem_cons.mpr ⟨lw_p48, List.forall_mem_cons.mpr ⟨lw_p49, List.forall_mem_cons.mpr ⟨lw_p50, List.forall_mem_cons.mpr ⟨lw_p51, List.forall_mem_cons.mpr ⟨lw_p52, List.forall_mem_cons.mpr ⟨lw_p53, List.forall_mem_cons.mpr ⟨lw_p54, List.forall_mem_cons.mpr ⟨lw_p55, List.forall_mem_cons.mpr ⟨lw_p56, List.forall_mem_cons.mpr ⟨lw_p57, List.forall_mem_cons.mpr ⟨lw_p58, List.forall_mem_cons.mpr ⟨lw_p59, List.forall_mem_cons.mpr ⟨lw_p60, List.forall_mem_cons.mpr ⟨lw_p61, List.forall_mem_cons.mpr ⟨lw_p62, fun _ h => absurd h List.not_mem_nil⟩⟩⟩⟩⟩⟩⟩⟩⟩⟩⟩⟩⟩⟩⟩
def lw_privs : List (MethodName × Nat) := lw_privs_1 ++ (lw_privs_2 ++ (lw_privs_3 ++ (lw_privs_4)))
def lw_tbl : List Cond := k2_sels lw_privs ++ tables_1
theorem lw_privs_ok : ∀ q ∈ lw_privs, lw_okq q := by
  show ∀ q ∈ lw_privs_1 ++ (lw_privs_2 ++ (lw_privs_3 ++ (lw_privs_4))), lw_okq q
  exact List.forall_mem_append.mpr ⟨lw_r1, List.forall_mem_append.mpr ⟨lw_r2, List.forall_mem_append.mpr ⟨lw_r3, lw_r4⟩⟩⟩
end
section
def RX0 : String := "DreamGraves$Asker"
def TX0 : u_T := fun k => match k with
  | 0 => ("DreamGraves$Asker", "traced", "I", false)
  | _ => ("DreamGraves$Asker", "left", "[I", true)
def tyX0 : Nat → FieldType := fun k => match k with
  | 0 => .int
  | _ => .array .int
abbrev wsX00 : List Cond := u_ws RX0 TX0 2
theorem nmX0 : ∀ a, a < 2 → ∀ b, b < 2 → a ≠ b → (TX0 a).2.1 ≠ (TX0 b).2.1 := by decide +kernel
theorem tyX0_ok : ∀ k, k < 2 → parseFieldDescriptor (TX0 k).2.2.1 = some (tyX0 k) := by decide +kernel
abbrev cX0_init : ByteArray := prog_2_method_1_code
def yX0_init : MethodName := ⟨RX0, "<init>", "()V"⟩
abbrev cX0_answer : ByteArray := prog_2_method_2_code
def yX0_answer : MethodName := ⟨RX0, "answer", "(LDreamGraves$Yard;II)I"⟩
abbrev cX0_sizeOf : ByteArray := prog_2_method_3_code
def yX0_sizeOf : MethodName := ⟨RX0, "sizeOf", "(LDreamGraves$Yard;II)I"⟩
abbrev cX0_markOf : ByteArray := prog_2_method_4_code
def yX0_markOf : MethodName := ⟨RX0, "markOf", "(LDreamGraves$Yard;II)I"⟩
abbrev cX0_kindOf : ByteArray := prog_2_method_5_code
def yX0_kindOf : MethodName := ⟨RX0, "kindOf", "(LDreamGraves$Yard;I)I"⟩
abbrev cX0_give : ByteArray := prog_2_method_6_code
def yX0_give : MethodName := ⟨RX0, "give", "(ILDreamGraves$Yard;II)I"⟩
abbrev cX0_leave : ByteArray := prog_2_method_7_code
def yX0_leave : MethodName := ⟨RX0, "leave", "(I)V"⟩
def RX1 : String := "DreamGraves$Past"
def TX1 : u_T := fun k => match k with
  | 0 => ("DreamGraves$Past", "size", "I", false)
  | 1 => ("DreamGraves$Past", "oldest", "I", false)
  | _ => ("DreamGraves$Past", "yards", "[LDreamGraves$Yard;", true)
def tyX1 : Nat → FieldType := fun k => match k with
  | 0 => .int
  | 1 => .int
  | _ => .array (.object "DreamGraves$Yard")
abbrev wsX10 : List Cond := u_ws RX1 TX1 3
theorem nmX1 : ∀ a, a < 3 → ∀ b, b < 3 → a ≠ b → (TX1 a).2.1 ≠ (TX1 b).2.1 := by decide +kernel
theorem tyX1_ok : ∀ k, k < 3 → parseFieldDescriptor (TX1 k).2.2.1 = some (tyX1 k) := by decide +kernel
abbrev cX1_init : ByteArray := prog_3_method_1_code
def yX1_init : MethodName := ⟨RX1, "<init>", "()V"⟩
abbrev cX1_clear : ByteArray := prog_3_method_2_code
def yX1_clear : MethodName := ⟨RX1, "clear", "()V"⟩
abbrev cX1_keep : ByteArray := prog_3_method_3_code
def yX1_keep : MethodName := ⟨RX1, "keep", "(LDreamGraves$Yard;)V"⟩
abbrev cX1_giveBack : ByteArray := prog_3_method_4_code
def yX1_giveBack : MethodName := ⟨RX1, "giveBack", "(LDreamGraves$Yard;)Z"⟩
def RX2 : String := "DreamGraves$Row"
def TX2 : u_T := fun k => match k with
  | 0 => ("DreamGraves$Row", "lane", "I", false)
  | 1 => ("DreamGraves$Row", "size", "I", false)
  | _ => ("DreamGraves$Row", "items", "[I", true)
def tyX2 : Nat → FieldType := fun k => match k with
  | 0 => .int
  | 1 => .int
  | _ => .array .int
abbrev wsX20 : List Cond := u_ws RX2 TX2 3
theorem nmX2 : ∀ a, a < 3 → ∀ b, b < 3 → a ≠ b → (TX2 a).2.1 ≠ (TX2 b).2.1 := by decide +kernel
theorem tyX2_ok : ∀ k, k < 3 → parseFieldDescriptor (TX2 k).2.2.1 = some (tyX2 k) := by decide +kernel
abbrev cX2_init : ByteArray := prog_4_method_1_code
def yX2_init : MethodName := ⟨RX2, "<init>", "()V"⟩
abbrev cX2_isMissing : ByteArray := prog_4_method_2_code
def yX2_isMissing : MethodName := ⟨RX2, "isMissing", "()Z"⟩
abbrev cX2_lay : ByteArray := prog_4_method_3_code
def yX2_lay : MethodName := ⟨RX2, "lay", "(II)V"⟩
abbrev cX2_holds : ByteArray := prog_4_method_4_code
def yX2_holds : MethodName := ⟨RX2, "holds", "(II)Z"⟩
abbrev cX2_findingAt : ByteArray := prog_4_method_5_code
def yX2_findingAt : MethodName := ⟨RX2, "findingAt", "(II)I"⟩
abbrev cX2_put : ByteArray := prog_4_method_6_code
def yX2_put : MethodName := ⟨RX2, "put", "(II)I"⟩
def RX3 : String := "DreamGraves$Seer"
def TX3 : u_T := fun k => match k with
  | 0 => ("DreamGraves$Seer", "fewest", "I", false)
  | 1 => ("DreamGraves$Seer", "way", "[I", true)
  | 2 => ("DreamGraves$Seer", "given", "[I", true)
  | _ => ("DreamGraves$Seer", "seen", "[LDreamGraves$Yard;", true)
def tyX3 : Nat → FieldType := fun k => match k with
  | 0 => .int
  | 1 => .array .int
  | 2 => .array .int
  | _ => .array (.object "DreamGraves$Yard")
abbrev wsX30 : List Cond := u_ws RX3 TX3 4
theorem nmX3 : ∀ a, a < 4 → ∀ b, b < 4 → a ≠ b → (TX3 a).2.1 ≠ (TX3 b).2.1 := by decide +kernel
theorem tyX3_ok : ∀ k, k < 4 → parseFieldDescriptor (TX3 k).2.2.1 = some (tyX3 k) := by decide +kernel
abbrev cX3_init : ByteArray := prog_5_method_1_code
def yX3_init : MethodName := ⟨RX3, "<init>", "()V"⟩
abbrev cX3_copyOf : ByteArray := prog_5_method_2_code
def yX3_copyOf : MethodName := ⟨RX3, "copyOf", "(LDreamGraves$Yard;)LDreamGraves$Yard;"⟩
abbrev cX3_keptBehind : ByteArray := prog_5_method_3_code
def yX3_keptBehind : MethodName := ⟨RX3, "keptBehind", "(LDreamGraves$Yard;I)I"⟩
abbrev cX3_yearsTillDug : ByteArray := prog_5_method_4_code
def yX3_yearsTillDug : MethodName := ⟨RX3, "yearsTillDug", "(LDreamGraves$Yard;IZ)I"⟩
abbrev cX3_graveDugFirst : ByteArray := prog_5_method_5_code
def yX3_graveDugFirst : MethodName := ⟨RX3, "graveDugFirst", "(LDreamGraves$Yard;)I"⟩
abbrev cX3_firstOf : ByteArray := prog_5_method_6_code
def yX3_firstOf : MethodName := ⟨RX3, "firstOf", "(I)I"⟩
abbrev cX3_findFewestSuppers : ByteArray := prog_5_method_7_code
def yX3_findFewestSuppers : MethodName := ⟨RX3, "findFewestSuppers", "(LDreamGraves$Yard;II)Z"⟩
abbrev cX3_tryYear : ByteArray := prog_5_method_8_code
def yX3_tryYear : MethodName := ⟨RX3, "tryYear", "(IIII)V"⟩
abbrev cX3_yearsTillForgotten : ByteArray := prog_5_method_9_code
def yX3_yearsTillForgotten : MethodName := ⟨RX3, "yearsTillForgotten", "(LDreamGraves$Yard;II)I"⟩
abbrev cX3_kindsBy : ByteArray := prog_5_method_10_code
def yX3_kindsBy : MethodName := ⟨RX3, "kindsBy", "(LDreamGraves$Yard;ILDreamGraves$Row;II)I"⟩
abbrev cX3_whisperersBy : ByteArray := prog_5_method_11_code
def yX3_whisperersBy : MethodName := ⟨RX3, "whisperersBy", "(LDreamGraves$Yard;ILDreamGraves$Row;II)I"⟩
abbrev cX3_goesAsTold : ByteArray := prog_5_method_12_code
def yX3_goesAsTold : MethodName := ⟨RX3, "goesAsTold", "(LDreamGraves$Yard;LDreamGraves$Row;II)Z"⟩
abbrev cX3_suppersNeeded : ByteArray := prog_5_method_13_code
def yX3_suppersNeeded : MethodName := ⟨RX3, "suppersNeeded", "(LDreamGraves$Yard;I)I"⟩
abbrev cX3_chanceOfKeeping : ByteArray := prog_5_method_14_code
def yX3_chanceOfKeeping : MethodName := ⟨RX3, "chanceOfKeeping", "(LDreamGraves$Yard;IIZ)J"⟩
abbrev cX3_commonDivisor : ByteArray := prog_5_method_15_code
def yX3_commonDivisor : MethodName := ⟨RX3, "commonDivisor", "(JJ)J"⟩
abbrev cX3_yearsByDraws : ByteArray := prog_5_method_16_code
def yX3_yearsByDraws : MethodName := ⟨RX3, "yearsByDraws", "(LDreamGraves$Yard;II)LDreamGraves$Yard;"⟩
def RX4 : String := "DreamGraves$Tape"
def TX4 : u_T := fun k => match k with
  | 0 => ("DreamGraves$Tape", "draft", "LDreamGraves$Yard;", true)
  | 1 => ("DreamGraves$Tape", "size", "I", false)
  | 2 => ("DreamGraves$Tape", "latestFault", "I", false)
  | 3 => ("DreamGraves$Tape", "bytes", "[I", true)
  | 4 => ("DreamGraves$Tape", "start", "I", false)
  | 5 => ("DreamGraves$Tape", "behind", "I", false)
  | 6 => ("DreamGraves$Tape", "token", "I", false)
  | 7 => ("DreamGraves$Tape", "value", "I", false)
  | _ => ("DreamGraves$Tape", "taken", "I", false)
def tyX4 : Nat → FieldType := fun k => match k with
  | 0 => .object "DreamGraves$Yard"
  | 1 => .int
  | 2 => .int
  | 3 => .array .int
  | 4 => .int
  | 5 => .int
  | 6 => .int
  | 7 => .int
  | _ => .int
abbrev wsX40 : List Cond := u_ws RX4 TX4 9
theorem nmX4 : ∀ a, a < 9 → ∀ b, b < 9 → a ≠ b → (TX4 a).2.1 ≠ (TX4 b).2.1 := by decide +kernel
theorem tyX4_ok : ∀ k, k < 9 → parseFieldDescriptor (TX4 k).2.2.1 = some (tyX4 k) := by decide +kernel
abbrev cX4_init : ByteArray := prog_6_method_1_code
def yX4_init : MethodName := ⟨RX4, "<init>", "()V"⟩
abbrev cX4_add : ByteArray := prog_6_method_2_code
def yX4_add : MethodName := ⟨RX4, "add", "(I)Z"⟩
abbrev cX4_read : ByteArray := prog_6_method_3_code
def yX4_read : MethodName := ⟨RX4, "read", "()I"⟩
abbrev cX4_readLaw : ByteArray := prog_6_method_4_code
def yX4_readLaw : MethodName := ⟨RX4, "readLaw", "()Z"⟩
abbrev cX4_readSleepers : ByteArray := prog_6_method_5_code
def yX4_readSleepers : MethodName := ⟨RX4, "readSleepers", "()Z"⟩
abbrev cX4_readSleeper : ByteArray := prog_6_method_6_code
def yX4_readSleeper : MethodName := ⟨RX4, "readSleeper", "(I)Z"⟩
abbrev cX4_kindTold : ByteArray := prog_6_method_7_code
def yX4_kindTold : MethodName := ⟨RX4, "kindTold", "(I)I"⟩
abbrev cX4_fail : ByteArray := prog_6_method_8_code
def yX4_fail : MethodName := ⟨RX4, "fail", "(I)Z"⟩
abbrev cX4_takeSign : ByteArray := prog_6_method_9_code
def yX4_takeSign : MethodName := ⟨RX4, "takeSign", "(I)Z"⟩
abbrev cX4_takeNumber : ByteArray := prog_6_method_10_code
def yX4_takeNumber : MethodName := ⟨RX4, "takeNumber", "(II)Z"⟩
abbrev cX4_nextToken : ByteArray := prog_6_method_11_code
def yX4_nextToken : MethodName := ⟨RX4, "nextToken", "()V"⟩
abbrev cX4_takeFigures : ByteArray := prog_6_method_12_code
def yX4_takeFigures : MethodName := ⟨RX4, "takeFigures", "()V"⟩
abbrev cX4_isFigure : ByteArray := prog_6_method_13_code
def yX4_isFigure : MethodName := ⟨RX4, "isFigure", "(I)Z"⟩
def RX5 : String := "DreamGraves$Yard"
def TX5 : u_T := fun k => match k with
  | 0 => ("DreamGraves$Yard", "graves", "I", false)
  | 1 => ("DreamGraves$Yard", "least", "I", false)
  | 2 => ("DreamGraves$Yard", "share", "I", false)
  | 3 => ("DreamGraves$Yard", "sleepers", "I", false)
  | 4 => ("DreamGraves$Yard", "year", "I", false)
  | 5 => ("DreamGraves$Yard", "kept", "I", false)
  | 6 => ("DreamGraves$Yard", "suppers", "I", false)
  | 7 => ("DreamGraves$Yard", "fevers", "I", false)
  | 8 => ("DreamGraves$Yard", "kinds", "[I", true)
  | _ => ("DreamGraves$Yard", "memories", "[I", true)
def tyX5 : Nat → FieldType := fun k => match k with
  | 0 => .int
  | 1 => .int
  | 2 => .int
  | 3 => .int
  | 4 => .int
  | 5 => .int
  | 6 => .int
  | 7 => .int
  | 8 => .array .int
  | _ => .array .int
abbrev wsX50 : List Cond := u_ws RX5 TX5 10
theorem nmX5 : ∀ a, a < 10 → ∀ b, b < 10 → a ≠ b → (TX5 a).2.1 ≠ (TX5 b).2.1 := by decide +kernel
theorem tyX5_ok : ∀ k, k < 10 → parseFieldDescriptor (TX5 k).2.2.1 = some (tyX5 k) := by decide +kernel
abbrev cX5_init : ByteArray := prog_7_method_1_code
def yX5_init : MethodName := ⟨RX5, "<init>", "()V"⟩
abbrev cX5_isNone : ByteArray := prog_7_method_2_code
def yX5_isNone : MethodName := ⟨RX5, "isNone", "()Z"⟩
abbrev cX5_clear : ByteArray := prog_7_method_3_code
def yX5_clear : MethodName := ⟨RX5, "clear", "()V"⟩
abbrev cX5_become : ByteArray := prog_7_method_4_code
def yX5_become : MethodName := ⟨RX5, "become", "(LDreamGraves$Yard;)V"⟩
abbrev cX5_hasRoom : ByteArray := prog_7_method_5_code
def yX5_hasRoom : MethodName := ⟨RX5, "hasRoom", "(II)Z"⟩
abbrev cX5_memoryOf : ByteArray := prog_7_method_6_code
def yX5_memoryOf : MethodName := ⟨RX5, "memoryOf", "(II)I"⟩
abbrev cX5_remember : ByteArray := prog_7_method_7_code
def yX5_remember : MethodName := ⟨RX5, "remember", "(III)V"⟩
abbrev cX5_allMemoryOf : ByteArray := prog_7_method_8_code
def yX5_allMemoryOf : MethodName := ⟨RX5, "allMemoryOf", "(I)I"⟩
abbrev cX5_allMemory : ByteArray := prog_7_method_9_code
def yX5_allMemory : MethodName := ⟨RX5, "allMemory", "()I"⟩
abbrev cX5_clearest : ByteArray := prog_7_method_10_code
def yX5_clearest : MethodName := ⟨RX5, "clearest", "(III)I"⟩
abbrev cX5_dreamsOf : ByteArray := prog_7_method_11_code
def yX5_dreamsOf : MethodName := ⟨RX5, "dreamsOf", "(I)I"⟩
abbrev cX5_nextBehind : ByteArray := prog_7_method_12_code
def yX5_nextBehind : MethodName := ⟨RX5, "nextBehind", "(I)I"⟩
abbrev cX5_graveOfYear : ByteArray := prog_7_method_13_code
def yX5_graveOfYear : MethodName := ⟨RX5, "graveOfYear", "()I"⟩
abbrev cX5_rememberedBy : ByteArray := prog_7_method_14_code
def yX5_rememberedBy : MethodName := ⟨RX5, "rememberedBy", "(I)I"⟩
abbrev cX5_dreamersOf : ByteArray := prog_7_method_15_code
def yX5_dreamersOf : MethodName := ⟨RX5, "dreamersOf", "(I)I"⟩
abbrev cX5_pass : ByteArray := prog_7_method_16_code
def yX5_pass : MethodName := ⟨RX5, "pass", "()V"⟩
abbrev cX5_digUndreamt : ByteArray := prog_7_method_17_code
def yX5_digUndreamt : MethodName := ⟨RX5, "digUndreamt", "()V"⟩
abbrev cX5_forgetByAll : ByteArray := prog_7_method_18_code
def yX5_forgetByAll : MethodName := ⟨RX5, "forgetByAll", "(I)V"⟩
abbrev cX5_endYear : ByteArray := prog_7_method_19_code
def yX5_endYear : MethodName := ⟨RX5, "endYear", "()V"⟩
abbrev cX5_fadeFor : ByteArray := prog_7_method_20_code
def yX5_fadeFor : MethodName := ⟨RX5, "fadeFor", "(I)V"⟩
abbrev cX5_faded : ByteArray := prog_7_method_21_code
def yX5_faded : MethodName := ⟨RX5, "faded", "(I)I"⟩
abbrev cX5_inNeed : ByteArray := prog_7_method_22_code
def yX5_inNeed : MethodName := ⟨RX5, "inNeed", "()I"⟩
def RX6 : String := "DreamGraves"
def TX6 : u_T := fun k => match k with
  | 0 => ("DreamGraves", "rows", "[LDreamGraves$Row;", true)
  | 1 => ("DreamGraves", "tape", "LDreamGraves$Tape;", true)
  | 2 => ("DreamGraves", "yard", "LDreamGraves$Yard;", true)
  | 3 => ("DreamGraves", "past", "LDreamGraves$Past;", true)
  | 4 => ("DreamGraves", "images", "[LDreamGraves$Yard;", true)
  | 5 => ("DreamGraves", "seer", "LDreamGraves$Seer;", true)
  | 6 => ("DreamGraves", "asker", "LDreamGraves$Asker;", true)
  | _ => ("DreamGraves", "finding", "I", false)
def tyX6 : Nat → FieldType := fun k => match k with
  | 0 => .array (.object "DreamGraves$Row")
  | 1 => .object "DreamGraves$Tape"
  | 2 => .object "DreamGraves$Yard"
  | 3 => .object "DreamGraves$Past"
  | 4 => .array (.object "DreamGraves$Yard")
  | 5 => .object "DreamGraves$Seer"
  | 6 => .object "DreamGraves$Asker"
  | _ => .int
abbrev wsX60 : List Cond := u_ws RX6 TX6 8
theorem nmX6 : ∀ a, a < 8 → ∀ b, b < 8 → a ≠ b → (TX6 a).2.1 ≠ (TX6 b).2.1 := by decide +kernel
theorem tyX6_ok : ∀ k, k < 8 → parseFieldDescriptor (TX6 k).2.2.1 = some (tyX6 k) := by decide +kernel
abbrev cX6_init : ByteArray := prog_1_method_1_code
def yX6_init : MethodName := ⟨RX6, "<init>", "()V"⟩
abbrev cX6_row : ByteArray := prog_1_method_2_code
def yX6_row : MethodName := ⟨RX6, "row", "(III)I"⟩
abbrev cX6_set : ByteArray := prog_1_method_3_code
def yX6_set : MethodName := ⟨RX6, "set", "(III)I"⟩
abbrev cX6_copy : ByteArray := prog_1_method_4_code
def yX6_copy : MethodName := ⟨RX6, "copy", "(IIIII)I"⟩
abbrev cX6_drop : ByteArray := prog_1_method_5_code
def yX6_drop : MethodName := ⟨RX6, "drop", "(I)I"⟩
abbrev cX6_feed : ByteArray := prog_1_method_6_code
def yX6_feed : MethodName := ⟨RX6, "feed", "(I)I"⟩
abbrev cX6_yard : ByteArray := prog_1_method_7_code
def yX6_yard : MethodName := ⟨RX6, "yard", "()I"⟩
abbrev cX6_fault : ByteArray := prog_1_method_8_code
def yX6_fault : MethodName := ⟨RX6, "fault", "()I"⟩
abbrev cX6_undo : ByteArray := prog_1_method_9_code
def yX6_undo : MethodName := ⟨RX6, "undo", "()I"⟩
abbrev cX6_years : ByteArray := prog_1_method_10_code
def yX6_years : MethodName := ⟨RX6, "years", "(I)I"⟩
abbrev cX6_supper : ByteArray := prog_1_method_11_code
def yX6_supper : MethodName := ⟨RX6, "supper", "(I)I"⟩
abbrev cX6_fever : ByteArray := prog_1_method_12_code
def yX6_fever : MethodName := ⟨RX6, "fever", "(I)I"⟩
abbrev cX6_tell : ByteArray := prog_1_method_13_code
def yX6_tell : MethodName := ⟨RX6, "tell", "(II)I"⟩
abbrev cX6_bury : ByteArray := prog_1_method_14_code
def yX6_bury : MethodName := ⟨RX6, "bury", "(II)I"⟩
abbrev cX6_sleeper : ByteArray := prog_1_method_15_code
def yX6_sleeper : MethodName := ⟨RX6, "sleeper", "(II)I"⟩
abbrev cX6_memory : ByteArray := prog_1_method_16_code
def yX6_memory : MethodName := ⟨RX6, "memory", "(II)I"⟩
abbrev cX6_grave : ByteArray := prog_1_method_17_code
def yX6_grave : MethodName := ⟨RX6, "grave", "(II)I"⟩
abbrev cX6_ahead : ByteArray := prog_1_method_18_code
def yX6_ahead : MethodName := ⟨RX6, "ahead", "(I)I"⟩
abbrev cX6_dug : ByteArray := prog_1_method_19_code
def yX6_dug : MethodName := ⟨RX6, "dug", "(I)I"⟩
abbrev cX6_firstDug : ByteArray := prog_1_method_20_code
def yX6_firstDug : MethodName := ⟨RX6, "firstDug", "()I"⟩
abbrev cX6_suppers : ByteArray := prog_1_method_21_code
def yX6_suppers : MethodName := ⟨RX6, "suppers", "(III)I"⟩
abbrev cX6_bound : ByteArray := prog_1_method_22_code
def yX6_bound : MethodName := ⟨RX6, "bound", "(I)I"⟩
abbrev cX6_forgets : ByteArray := prog_1_method_23_code
def yX6_forgets : MethodName := ⟨RX6, "forgets", "(II)I"⟩
abbrev cX6_most : ByteArray := prog_1_method_24_code
def yX6_most : MethodName := ⟨RX6, "most", "(II)I"⟩
abbrev cX6_pair : ByteArray := prog_1_method_25_code
def yX6_pair : MethodName := ⟨RX6, "pair", "(II)I"⟩
abbrev cX6_who : ByteArray := prog_1_method_26_code
def yX6_who : MethodName := ⟨RX6, "who", "(IIII)I"⟩
abbrev cX6_whispered : ByteArray := prog_1_method_27_code
def yX6_whispered : MethodName := ⟨RX6, "whispered", "(IIII)I"⟩
abbrev cX6_cheese : ByteArray := prog_1_method_28_code
def yX6_cheese : MethodName := ⟨RX6, "cheese", "(I)I"⟩
abbrev cX6_awake : ByteArray := prog_1_method_29_code
def yX6_awake : MethodName := ⟨RX6, "awake", "(III)J"⟩
abbrev cX6_drawn : ByteArray := prog_1_method_30_code
def yX6_drawn : MethodName := ⟨RX6, "drawn", "(III)I"⟩
abbrev cX6_image : ByteArray := prog_1_method_31_code
def yX6_image : MethodName := ⟨RX6, "image", "(I)I"⟩
abbrev cX6_restore : ByteArray := prog_1_method_32_code
def yX6_restore : MethodName := ⟨RX6, "restore", "(I)I"⟩
abbrev cX6_kind : ByteArray := prog_1_method_33_code
def yX6_kind : MethodName := ⟨RX6, "kind", "(I)I"⟩
abbrev cX6_as : ByteArray := prog_1_method_34_code
def yX6_as : MethodName := ⟨RX6, "as", "(II)I"⟩
abbrev cX6_ask : ByteArray := prog_1_method_35_code
def yX6_ask : MethodName := ⟨RX6, "ask", "(II)I"⟩
abbrev cX6_trace : ByteArray := prog_1_method_36_code
def yX6_trace : MethodName := ⟨RX6, "trace", "(I)I"⟩
abbrev cX6_count : ByteArray := prog_1_method_37_code
def yX6_count : MethodName := ⟨RX6, "count", "(I)I"⟩
abbrev cX6_status : ByteArray := prog_1_method_38_code
def yX6_status : MethodName := ⟨RX6, "status", "()I"⟩
abbrev cX6_found : ByteArray := prog_1_method_39_code
def yX6_found : MethodName := ⟨RX6, "found", "(I)I"⟩
abbrev cX6_sound : ByteArray := prog_1_method_40_code
def yX6_sound : MethodName := ⟨RX6, "sound", "(I)I"⟩
abbrev cX6_isRow : ByteArray := prog_1_method_41_code
def yX6_isRow : MethodName := ⟨RX6, "isRow", "(I)Z"⟩
abbrev cX6_noYard : ByteArray := prog_1_method_42_code
def yX6_noYard : MethodName := ⟨RX6, "noYard", "()Z"⟩
abbrev cX6_isSleeper : ByteArray := prog_1_method_43_code
def yX6_isSleeper : MethodName := ⟨RX6, "isSleeper", "(I)Z"⟩
abbrev cX6_isGrave : ByteArray := prog_1_method_44_code
def yX6_isGrave : MethodName := ⟨RX6, "isGrave", "(I)Z"⟩
abbrev cX6_rowsThere : ByteArray := prog_1_method_45_code
def yX6_rowsThere : MethodName := ⟨RX6, "rowsThere", "()I"⟩
abbrev cX6_isOfKind : ByteArray := prog_1_method_46_code
def yX6_isOfKind : MethodName := ⟨RX6, "isOfKind", "(II)Z"⟩
abbrev cX6_bit : ByteArray := prog_1_method_47_code
def yX6_bit : MethodName := ⟨RX6, "bit", "(I)I"⟩
abbrev cX6_hasBit : ByteArray := prog_1_method_48_code
def yX6_hasBit : MethodName := ⟨RX6, "hasBit", "(II)Z"⟩
def RX7 : String := "DreamGravesModel"
def TX7 : u_T := fun k => match k with
  | 0 => ("DreamGravesModel", "lanes", "[I", true)
  | 1 => ("DreamGravesModel", "sizes", "[I", true)
  | 2 => ("DreamGravesModel", "items", "[I", true)
  | 3 => ("DreamGravesModel", "status", "I", false)
  | 4 => ("DreamGravesModel", "isThere", "Z", false)
  | 5 => ("DreamGravesModel", "st", "[I", true)
  | 6 => ("DreamGravesModel", "moved", "[I", true)
  | 7 => ("DreamGravesModel", "tape", "[I", true)
  | 8 => ("DreamGravesModel", "bytes", "I", false)
  | 9 => ("DreamGravesModel", "latest", "I", false)
  | 10 => ("DreamGravesModel", "place", "I", false)
  | 11 => ("DreamGravesModel", "token", "I", false)
  | 12 => ("DreamGravesModel", "value", "I", false)
  | 13 => ("DreamGravesModel", "begins", "I", false)
  | 14 => ("DreamGravesModel", "wrong", "I", false)
  | 15 => ("DreamGravesModel", "read", "[I", true)
  | 16 => ("DreamGravesModel", "acts", "[I", true)
  | 17 => ("DreamGravesModel", "actMany", "I", false)
  | 18 => ("DreamGravesModel", "aside", "[I", true)
  | 19 => ("DreamGravesModel", "way", "[I", true)
  | 20 => ("DreamGravesModel", "bestWay", "I", false)
  | 21 => ("DreamGravesModel", "isHeld", "[Z", true)
  | 22 => ("DreamGravesModel", "held", "[I", true)
  | 23 => ("DreamGravesModel", "trace", "[I", true)
  | _ => ("DreamGravesModel", "traced", "I", false)
def tyX7 : Nat → FieldType := fun k => match k with
  | 0 => .array .int
  | 1 => .array .int
  | 2 => .array .int
  | 3 => .int
  | 4 => .boolean
  | 5 => .array .int
  | 6 => .array .int
  | 7 => .array .int
  | 8 => .int
  | 9 => .int
  | 10 => .int
  | 11 => .int
  | 12 => .int
  | 13 => .int
  | 14 => .int
  | 15 => .array .int
  | 16 => .array .int
  | 17 => .int
  | 18 => .array .int
  | 19 => .array .int
  | 20 => .int
  | 21 => .array .boolean
  | 22 => .array .int
  | 23 => .array .int
  | _ => .int
abbrev wsX70 : List Cond := u_ws RX7 TX7 25
theorem nmX7 : ∀ a, a < 25 → ∀ b, b < 25 → a ≠ b → (TX7 a).2.1 ≠ (TX7 b).2.1 := by decide +kernel
theorem tyX7_ok : ∀ k, k < 25 → parseFieldDescriptor (TX7 k).2.2.1 = some (tyX7 k) := by decide +kernel
abbrev cX7_init : ByteArray := prog_9_method_1_code
def yX7_init : MethodName := ⟨RX7, "<init>", "()V"⟩
abbrev cX7_in : ByteArray := prog_9_method_2_code
def yX7_in : MethodName := ⟨RX7, "in", "(JJJ)Z"⟩
abbrev cX7_has : ByteArray := prog_9_method_3_code
def yX7_has : MethodName := ⟨RX7, "has", "(II)Z"⟩
abbrev cX7_ones : ByteArray := prog_9_method_4_code
def yX7_ones : MethodName := ⟨RX7, "ones", "(I)I"⟩
abbrev cX7_find : ByteArray := prog_9_method_5_code
def yX7_find : MethodName := ⟨RX7, "find", "(I)I"⟩
abbrev cX7_well : ByteArray := prog_9_method_6_code
def yX7_well : MethodName := ⟨RX7, "well", "(I)I"⟩
abbrev cX7_isRow : ByteArray := prog_9_method_7_code
def yX7_isRow : MethodName := ⟨RX7, "isRow", "(I)Z"⟩
abbrev cX7_row : ByteArray := prog_9_method_8_code
def yX7_row : MethodName := ⟨RX7, "row", "(III)I"⟩
abbrev cX7_asLane : ByteArray := prog_9_method_9_code
def yX7_asLane : MethodName := ⟨RX7, "asLane", "(II)I"⟩
abbrev cX7_set : ByteArray := prog_9_method_10_code
def yX7_set : MethodName := ⟨RX7, "set", "(III)I"⟩
abbrev cX7_copy : ByteArray := prog_9_method_11_code
def yX7_copy : MethodName := ⟨RX7, "copy", "(IIIII)I"⟩
abbrev cX7_drop : ByteArray := prog_9_method_12_code
def yX7_drop : MethodName := ⟨RX7, "drop", "(I)I"⟩
abbrev cX7_feed : ByteArray := prog_9_method_13_code
def yX7_feed : MethodName := ⟨RX7, "feed", "(I)I"⟩
abbrev cX7_nextToken : ByteArray := prog_9_method_14_code
def yX7_nextToken : MethodName := ⟨RX7, "nextToken", "()V"⟩
abbrev cX7_faults : ByteArray := prog_9_method_15_code
def yX7_faults : MethodName := ⟨RX7, "faults", "(I)Z"⟩
abbrev cX7_isLetter : ByteArray := prog_9_method_16_code
def yX7_isLetter : MethodName := ⟨RX7, "isLetter", "(I)Z"⟩
abbrev cX7_takes : ByteArray := prog_9_method_17_code
def yX7_takes : MethodName := ⟨RX7, "takes", "(I)Z"⟩
abbrev cX7_takesNumber : ByteArray := prog_9_method_18_code
def yX7_takesNumber : MethodName := ⟨RX7, "takesNumber", "(IIII)Z"⟩
abbrev cX7_readSleeper : ByteArray := prog_9_method_19_code
def yX7_readSleeper : MethodName := ⟨RX7, "readSleeper", "(I)Z"⟩
abbrev cX7_readYard : ByteArray := prog_9_method_20_code
def yX7_readYard : MethodName := ⟨RX7, "readYard", "()Z"⟩
abbrev cX7_yard : ByteArray := prog_9_method_21_code
def yX7_yard : MethodName := ⟨RX7, "yard", "()I"⟩
abbrev cX7_fault : ByteArray := prog_9_method_22_code
def yX7_fault : MethodName := ⟨RX7, "fault", "()I"⟩
abbrev cX7_isSleeper : ByteArray := prog_9_method_23_code
def yX7_isSleeper : MethodName := ⟨RX7, "isSleeper", "(I)Z"⟩
abbrev cX7_isGrave : ByteArray := prog_9_method_24_code
def yX7_isGrave : MethodName := ⟨RX7, "isGrave", "(I)Z"⟩
abbrev cX7_memoryOf : ByteArray := prog_9_method_25_code
def yX7_memoryOf : MethodName := ⟨RX7, "memoryOf", "(II)I"⟩
abbrev cX7_mostOf : ByteArray := prog_9_method_26_code
def yX7_mostOf : MethodName := ⟨RX7, "mostOf", "(II)I"⟩
abbrev cX7_dreams : ByteArray := prog_9_method_27_code
def yX7_dreams : MethodName := ⟨RX7, "dreams", "(I)I"⟩
abbrev cX7_allDreams : ByteArray := prog_9_method_28_code
def yX7_allDreams : MethodName := ⟨RX7, "allDreams", "()I"⟩
abbrev cX7_lessOf : ByteArray := prog_9_method_29_code
def yX7_lessOf : MethodName := ⟨RX7, "lessOf", "(I)I"⟩
abbrev cX7_oneYear : ByteArray := prog_9_method_30_code
def yX7_oneYear : MethodName := ⟨RX7, "oneYear", "()V"⟩
abbrev cX7_note : ByteArray := prog_9_method_31_code
def yX7_note : MethodName := ⟨RX7, "note", "()V"⟩
abbrev cX7_undo : ByteArray := prog_9_method_32_code
def yX7_undo : MethodName := ⟨RX7, "undo", "()I"⟩
abbrev cX7_years : ByteArray := prog_9_method_33_code
def yX7_years : MethodName := ⟨RX7, "years", "(I)I"⟩
abbrev cX7_suppered : ByteArray := prog_9_method_34_code
def yX7_suppered : MethodName := ⟨RX7, "suppered", "()I"⟩
abbrev cX7_supper : ByteArray := prog_9_method_35_code
def yX7_supper : MethodName := ⟨RX7, "supper", "(I)I"⟩
abbrev cX7_fever : ByteArray := prog_9_method_36_code
def yX7_fever : MethodName := ⟨RX7, "fever", "(I)I"⟩
abbrev cX7_tell : ByteArray := prog_9_method_37_code
def yX7_tell : MethodName := ⟨RX7, "tell", "(II)I"⟩
abbrev cX7_bury : ByteArray := prog_9_method_38_code
def yX7_bury : MethodName := ⟨RX7, "bury", "(II)I"⟩
abbrev cX7_memoryBy : ByteArray := prog_9_method_39_code
def yX7_memoryBy : MethodName := ⟨RX7, "memoryBy", "(I)I"⟩
abbrev cX7_sleeper : ByteArray := prog_9_method_40_code
def yX7_sleeper : MethodName := ⟨RX7, "sleeper", "(II)I"⟩
abbrev cX7_memory : ByteArray := prog_9_method_41_code
def yX7_memory : MethodName := ⟨RX7, "memory", "(II)I"⟩
abbrev cX7_grave : ByteArray := prog_9_method_42_code
def yX7_grave : MethodName := ⟨RX7, "grave", "(II)I"⟩
abbrev cX7_putAside : ByteArray := prog_9_method_43_code
def yX7_putAside : MethodName := ⟨RX7, "putAside", "()V"⟩
abbrev cX7_takeBack : ByteArray := prog_9_method_44_code
def yX7_takeBack : MethodName := ⟨RX7, "takeBack", "()V"⟩
abbrev cX7_ahead : ByteArray := prog_9_method_45_code
def yX7_ahead : MethodName := ⟨RX7, "ahead", "(I)I"⟩
abbrev cX7_feedAll : ByteArray := prog_9_method_46_code
def yX7_feedAll : MethodName := ⟨RX7, "feedAll", "()V"⟩
abbrev cX7_dugIn : ByteArray := prog_9_method_47_code
def yX7_dugIn : MethodName := ⟨RX7, "dugIn", "(IZ)I"⟩
abbrev cX7_dug : ByteArray := prog_9_method_48_code
def yX7_dug : MethodName := ⟨RX7, "dug", "(I)I"⟩
abbrev cX7_firstDug : ByteArray := prog_9_method_49_code
def yX7_firstDug : MethodName := ⟨RX7, "firstDug", "()I"⟩
abbrev cX7_giveSuppers : ByteArray := prog_9_method_50_code
def yX7_giveSuppers : MethodName := ⟨RX7, "giveSuppers", "(I)V"⟩
abbrev cX7_isKeptBy : ByteArray := prog_9_method_51_code
def yX7_isKeptBy : MethodName := ⟨RX7, "isKeptBy", "(II)Z"⟩
abbrev cX7_findWay : ByteArray := prog_9_method_52_code
def yX7_findWay : MethodName := ⟨RX7, "findWay", "(II)I"⟩
abbrev cX7_suppers : ByteArray := prog_9_method_53_code
def yX7_suppers : MethodName := ⟨RX7, "suppers", "(III)I"⟩
abbrev cX7_bound : ByteArray := prog_9_method_54_code
def yX7_bound : MethodName := ⟨RX7, "bound", "(I)I"⟩
abbrev cX7_forgets : ByteArray := prog_9_method_55_code
def yX7_forgets : MethodName := ⟨RX7, "forgets", "(II)I"⟩
abbrev cX7_most : ByteArray := prog_9_method_56_code
def yX7_most : MethodName := ⟨RX7, "most", "(II)I"⟩
abbrev cX7_pair : ByteArray := prog_9_method_57_code
def yX7_pair : MethodName := ⟨RX7, "pair", "(II)I"⟩
abbrev cX7_lacks : ByteArray := prog_9_method_58_code
def yX7_lacks : MethodName := ⟨RX7, "lacks", "(III)I"⟩
abbrev cX7_isSo : ByteArray := prog_9_method_59_code
def yX7_isSo : MethodName := ⟨RX7, "isSo", "(II)Z"⟩
abbrev cX7_who : ByteArray := prog_9_method_60_code
def yX7_who : MethodName := ⟨RX7, "who", "(IIII)I"⟩
abbrev cX7_whispered : ByteArray := prog_9_method_61_code
def yX7_whispered : MethodName := ⟨RX7, "whispered", "(IIII)I"⟩
abbrev cX7_needsSupper : ByteArray := prog_9_method_62_code
def yX7_needsSupper : MethodName := ⟨RX7, "needsSupper", "(I)Z"⟩
abbrev cX7_cheese : ByteArray := prog_9_method_63_code
def yX7_cheese : MethodName := ⟨RX7, "cheese", "(I)I"⟩
abbrev cX7_awake : ByteArray := prog_9_method_64_code
def yX7_awake : MethodName := ⟨RX7, "awake", "(III)J"⟩
abbrev cX7_drawn : ByteArray := prog_9_method_65_code
def yX7_drawn : MethodName := ⟨RX7, "drawn", "(III)I"⟩
abbrev cX7_image : ByteArray := prog_9_method_66_code
def yX7_image : MethodName := ⟨RX7, "image", "(I)I"⟩
abbrev cX7_restore : ByteArray := prog_9_method_67_code
def yX7_restore : MethodName := ⟨RX7, "restore", "(I)I"⟩
abbrev cX7_kind : ByteArray := prog_9_method_68_code
def yX7_kind : MethodName := ⟨RX7, "kind", "(I)I"⟩
abbrev cX7_isKind : ByteArray := prog_9_method_69_code
def yX7_isKind : MethodName := ⟨RX7, "isKind", "(II)Z"⟩
abbrev cX7_as : ByteArray := prog_9_method_70_code
def yX7_as : MethodName := ⟨RX7, "as", "(II)I"⟩
abbrev cX7_begin : ByteArray := prog_9_method_71_code
def yX7_begin : MethodName := ⟨RX7, "begin", "(I)V"⟩
abbrev cX7_lent : ByteArray := prog_9_method_72_code
def yX7_lent : MethodName := ⟨RX7, "lent", "(II)I"⟩
abbrev cX7_dreamerMark : ByteArray := prog_9_method_73_code
def yX7_dreamerMark : MethodName := ⟨RX7, "dreamerMark", "(I)I"⟩
abbrev cX7_wifeSize : ByteArray := prog_9_method_74_code
def yX7_wifeSize : MethodName := ⟨RX7, "wifeSize", "(I)I"⟩
abbrev cX7_sizeOfWife : ByteArray := prog_9_method_75_code
def yX7_sizeOfWife : MethodName := ⟨RX7, "sizeOfWife", "(I)I"⟩
abbrev cX7_markOf : ByteArray := prog_9_method_76_code
def yX7_markOf : MethodName := ⟨RX7, "markOf", "(I)I"⟩
abbrev cX7_dreamerSize : ByteArray := prog_9_method_77_code
def yX7_dreamerSize : MethodName := ⟨RX7, "dreamerSize", "(I)I"⟩
abbrev cX7_sizeOf : ByteArray := prog_9_method_78_code
def yX7_sizeOf : MethodName := ⟨RX7, "sizeOf", "(I)I"⟩
abbrev cX7_ask : ByteArray := prog_9_method_79_code
def yX7_ask : MethodName := ⟨RX7, "ask", "(II)I"⟩
abbrev cX7_trace : ByteArray := prog_9_method_80_code
def yX7_trace : MethodName := ⟨RX7, "trace", "(I)I"⟩
abbrev cX7_count : ByteArray := prog_9_method_81_code
def yX7_count : MethodName := ⟨RX7, "count", "(I)I"⟩
abbrev cX7_status : ByteArray := prog_9_method_82_code
def yX7_status : MethodName := ⟨RX7, "status", "()I"⟩
def RJ6 : String := "java/lang/Integer"
def TJ6 : u_T := fun k => match k with
  | _ => ("", "", "", false)
def tyJ6 : Nat → FieldType := fun k => match k with
  | _ => .int
abbrev wsJ60 : List Cond := u_ws RJ6 TJ6 0
theorem nmJ6 : ∀ a, a < 0 → ∀ b, b < 0 → a ≠ b → (TJ6 a).2.1 ≠ (TJ6 b).2.1 := by decide +kernel
theorem tyJ6_ok : ∀ k, k < 0 → parseFieldDescriptor (TJ6 k).2.2.1 = some (tyJ6 k) := by decide +kernel
abbrev cJ6_bitCount_0f7a4 : ByteArray := prog_10_method_49_code
def yJ6_bitCount_0f7a4 : MethodName := ⟨RJ6, "bitCount", "(I)I"⟩
def RJ10 : String := "java/lang/System"
def TJ10 : u_T := fun k => match k with
  | _ => ("", "", "", false)
def tyJ10 : Nat → FieldType := fun k => match k with
  | _ => .int
abbrev wsJ100 : List Cond := u_ws RJ10 TJ10 0
theorem nmJ10 : ∀ a, a < 0 → ∀ b, b < 0 → a ≠ b → (TJ10 a).2.1 ≠ (TJ10 b).2.1 := by decide +kernel
theorem tyJ10_ok : ∀ k, k < 0 → parseFieldDescriptor (TJ10 k).2.2.1 = some (tyJ10 k) := by decide +kernel
def RJ7 : String := "java/util/Arrays"
def TJ7 : u_T := fun k => match k with
  | _ => ("", "", "", false)
def tyJ7 : Nat → FieldType := fun k => match k with
  | _ => .int
abbrev wsJ70 : List Cond := u_ws RJ7 TJ7 0
theorem nmJ7 : ∀ a, a < 0 → ∀ b, b < 0 → a ≠ b → (TJ7 a).2.1 ≠ (TJ7 b).2.1 := by decide +kernel
theorem tyJ7_ok : ∀ k, k < 0 → parseFieldDescriptor (TJ7 k).2.2.1 = some (tyJ7 k) := by decide +kernel
abbrev cJ7_fill_53178 : ByteArray := prog_12_method_103_code
def yJ7_fill_53178 : MethodName := ⟨RJ7, "fill", "([II)V"⟩
def RL : String := "DreamGravesLaw"
abbrev cL_law : ByteArray := code
def yL_law : MethodName := ⟨RL, "law", "([I)Z"⟩
abbrev vwCl : List vw_C := [(RX0, TX0, 2), (RX1, TX1, 3), (RX2, TX2, 3), (RX3, TX3, 4), (RX4, TX4, 9), (RX5, TX5, 10), (RX6, TX6, 8), (RX7, TX7, 25)]
end
section
/-! THE FRAME: an abstract heap is a list of cells, the cell k at the address base + k; one predicate Y of a point of a method, a row an instruction; a contract Ctm of a method. -/
/-- the tables' words that stay -/
def lwg : List Cond := lw_tbl.filter goodWord
theorem lwg_good : GoodIn lwg lwg := fun w h => ⟨h, good_of_word (List.mem_filter.mp h).2⟩
theorem lwg_of {w : Cond} (h : w ∈ lw_tbl) (hg : goodWord w = true) : w ∈ lwg := List.mem_filter.mpr ⟨h, hg⟩
abbrev qX : Type := Program × Launch × Env × Room × State × MethodId × Array Value × List Frame × Method × Code × (State → Prop)
/-- class numbers; 0 int[], 1 boolean[], 2 Row[], 3 Yard[], 4 the base, 5 and 6 the two static tables -/
abbrev qG : Type := va_G × (Nat → Nat)
abbrev qr (G : qG) (a : Nat) : Value := .ref (G.2 4 + a)
abbrev qI (G : qG) (n : Nat) (f : Nat → Int32) : va_E := .inl (G.2 0, n, .inl f)
abbrev qZ (G : qG) (n : Nat) (f : Nat → Int32) : va_E := .inl (G.2 1, n, .inl f)
abbrev qR (G : qG) (n : Nat) (f : Nat → Option Nat) : va_E := .inl (G.2 2, n, .inr (.inr (.inr (.inr f))))
abbrev qY (G : qG) (n : Nat) (f : Nat → Option Nat) : va_E := .inl (G.2 3, n, .inr (.inr (.inr (.inr f))))
abbrev qT (G : qG) : List (ClassId × FieldType) := [(G.2 0, .int), (G.2 1, .boolean), (G.2 2, .object "DreamGraves$Row"), (G.2 3, .object "DreamGraves$Yard")]
abbrev qA (G : qG) : Nat → Prop := fun q => G.2 4 ≤ q
/-- the list as the kit's world -/
def qw (b : Nat) (h : List va_E) : va_W := h.mapIdx (fun k e => (b + k, e))
theorem qw_at {b : Nat} {h : List va_E} {k : Nat} {e : va_E} (hk : h[k]? = some e) : (qw b h)[k]? = some (b + k, e) := by
  simp [qw, hk]
theorem qw_of {b : Nat} {h : List va_E} {k : Nat} {q : Nat × va_E} (hk : (qw b h)[k]? = some q) : q.1 = b + k ∧ h[k]? = some q.2 := by
  simp only [qw, List.getElem?_mapIdx, Option.map_eq_some_iff] at hk
  obtain ⟨e, h1, rfl⟩ := hk
  exact ⟨rfl, h1⟩
theorem qw_set {b : Nat} {h : List va_E} {k : Nat} {e : va_E} : (qw b h).set k (b + k, e) = qw b (h.set k e) := by
  apply List.ext_getElem?
  intro j
  by_cases hj : j = k
  · subst hj
    by_cases hl : j < h.length
    · rw [List.getElem?_set_self (by simpa [qw] using hl)]
      exact (qw_at (List.getElem?_set_self hl)).symm
    · rw [List.getElem?_eq_none (by simp [qw]; omega), List.getElem?_eq_none (by simp [qw]; omega)]
  · rw [List.getElem?_set_ne (Ne.symm hj)]
    simp only [qw, List.getElem?_mapIdx]
    rw [List.getElem?_set_ne (Ne.symm hj)]
theorem qw_D {b : Nat} {h : List va_E} : va_D (fun q => b ≤ q) (qw b h) := by
  refine ⟨fun i j x y hx hy e => ?_, fun k q hk => ?_⟩
  · have h1 := (qw_of hx).1
    have h2 := (qw_of hy).1
    omega
  · have h1 := (qw_of hk).1
    show b ≤ q.1
    omega
/-- the heap holds the list -/
def qH (G : qG) (h : List va_E) (H : Heap) : Prop := va_P G.1 vwCl (qw (G.2 4) h) H
theorem qH_set {G : qG} {h : List va_E} {H1 : Heap} {k : Nat} {e : va_E} (hP : va_P G.1 vwCl ((qw (G.2 4) h).set k (G.2 4 + k, e)) H1) : qH G (h.set k e) H1 := by
  rw [qw_set] at hP
  exact hP
theorem qH_le {G : qG} {h : List va_E} {H : Heap} (hP : qH G h H) : h = [] ∨ G.2 4 + h.length ≤ H.size := by
  cases hh : h with
  | nil => exact Or.inl rfl
  | cons a t =>
    refine Or.inr ?_
    have hl : h.length - 1 < h.length := by rw [hh]; simp
    have := (hP _ _ (qw_at (List.getElem?_eq_getElem hl))).lt
    rw [← hh]
    simp only at this
    omega
/-- the nest's links, used by their numbers -/
def qNl : List Cond := tables_1.filter (fun w => match w with | .methodLinkNest _ _ _ _ => true | _ => false)
def qtS : Nat → Value := fun j => .int (nI ([10, 11, 12, 11, 13, 14].getD j 0))
def qtM : Nat → Value := fun j => .int (nI ([20, 21, 24, 22, 23, 23].getD j 0))
/-- what is fixed: tables, nests, statics -/
def qF (G : qG) (U : State) (H : Heap) : Prop :=
  va_K G.1 vwCl (qT G) U ∧ (∀ w ∈ qNl, va_Nw w U) ∧ va_AO "DreamGraves$Row" U ∧ va_AO "DreamGraves$Yard" U ∧
  va_Z "DreamGraves$Asker" "SIZE_BODIES" "[I" (.ref (G.2 5)) (qA G) U H ∧ va_T .int (G.2 5) 6 qtS (qA G) U H ∧
  va_Z "DreamGraves$Asker" "MARK_BODIES" "[I" (.ref (G.2 6)) (qA G) U H ∧ va_T .int (G.2 6) 6 qtM (qA G) U H
theorem qNl_form : ∀ w ∈ qNl, ∃ a i x h, w = .methodLinkNest a i x h := by
  intro w hw
  have h := (List.mem_filter.mp hw).2
  split at h
  · exact ⟨_, _, _, _, rfl⟩
  · cases h
theorem qF_moved {G : qG} {s U : State} {H H1 : Heap} (hW : s.WarmedH U.vm) (hq : ∀ a : Nat, a < H.size → ¬ qA G a → H1[a]? = H[a]?) (h : qF G s H) : qF G U H1 := by
  obtain ⟨h1, h2, h3, h4, h5, h6, h7, h8⟩ := h
  refine ⟨va_K.moved hW.alike h1, fun w hw => ?_, va_AO.moved hW.alike h3, va_AO.moved hW.alike h4, va_Z.kept (va_Z.moved hW.alike h5) hq, va_T.kept (va_T.moved hW.alike h6) hq, va_Z.kept (va_Z.moved hW.alike h7) hq, va_T.kept (va_T.moved hW.alike h8) hq⟩
  obtain ⟨a, i, x, hh, rfl⟩ := qNl_form w hw
  exact va_Nw.warmM hW (h2 _ hw)
theorem qF_blind {G : qG} {U : State} {H : Heap} {g : JFrame} {mk : MethodId} {a : Array Value} (h : qF G U H) : qF G (U.calling g mk a) H := by
  obtain ⟨h1, h2, h3, h4, h5, h6, h7, h8⟩ := h
  have hv : U.vm.Alike (U.calling g mk a).vm := Vm.Alike.refl U.vm
  refine ⟨va_K.moved hv h1, fun w hw => ?_, va_AO.moved hv h3, va_AO.moved hv h4, va_Z.moved hv h5, va_T.moved hv h6, va_Z.moved hv h7, va_T.moved hv h8⟩
  obtain ⟨a, i, x, hh, rfl⟩ := qNl_form w hw
  exact va_Nw.same rfl (rfl : U.vm = (U.calling g mk _).vm) (h2 _ hw)
def qW (G : qG) (h : List va_E) (U : State) : Prop := qH G h U.heap ∧ qF G U U.heap
abbrev qm (d mc ms : Nat) : Room := { frames := d, cells := mc, slots := ms, locals := 40 * d }
abbrev qP (G : qG) (mc : Nat) (av : List Value) (h : List va_E) : Array Value → State → Prop := va_Pc av (fun U => qW G h U ∧ G.2 4 ≤ U.heap.size ∧ (mc ≠ 0 → U.heap.size = G.2 4 + h.length))
abbrev qQ (G : qG) (r : Option Value) (h' : List va_E) : Array Value → State → Outcome → State → Prop := fun _ st o t => o = .returned r ∧ qW G h' t ∧ va_F (qA G) st t
/-- the contract: on these arguments and this heap the method answers r and leaves h' -/
def Ctm (l : Launch) (G : qG) (y : MethodName) (d mc ms : Nat) (av : List Value) (h : List va_E) (r : Option Value) (h' : List va_E) : Prop :=
  ∃ (bytes : ByteArray) (maxL : Nat) (ret : Option FieldType), Cond.code y bytes maxL ret ∈ lwg ∧ maxL ≤ 20 ∧ Met l y (Cond.code y bytes maxL ret :: lwg) (qm d mc ms) (qP G mc av h) (qQ G r h') mc ms (qA G)
abbrev Ct (l : Launch) (G : qG) (y : MethodName) (d : Nat) (av : List Value) (h : List va_E) (r : Option Value) (h' : List va_E) : Prop := Ctm l G y d 0 0 av h r h'
/-- the locals by their places -/
def qlv : Nat → List (Option Value) → List (Nat × Value)
  | _, [] => []
  | i, none :: t => qlv (i + 1) t
  | i, some v :: t => (i, v) :: qlv (i + 1) t
theorem qlv_mem : ∀ (lv : List (Option Value)) (i k : Nat) (v : Value), lv[k]? = some (some v) → (i + k, v) ∈ qlv i lv
  | [], i, k, v, h => by simp at h
  | none :: t, i, 0, v, h => by simp at h
  | none :: t, i, k + 1, v, h => by
    have := qlv_mem t (i + 1) k v (by simpa using h)
    rw [show i + (k + 1) = i + 1 + k by omega]
    exact this
  | some w :: t, i, 0, v, h => by
    simp at h
    subst h
    exact List.mem_cons_self
  | some w :: t, i, k + 1, v, h => by
    have := qlv_mem t (i + 1) k v (by simpa using h)
    rw [show i + (k + 1) = i + 1 + k by omega]
    exact List.mem_cons_of_mem _ this
theorem qlv_of : ∀ (lv : List (Option Value)) (i : Nat) (q : Nat × Value), q ∈ qlv i lv → ∃ k, q.1 = i + k ∧ lv[k]? = some (some q.2)
  | [], i, q, h => by simp [qlv] at h
  | none :: t, i, q, h => by
    obtain ⟨k, h1, h2⟩ := qlv_of t (i + 1) q h
    exact ⟨k + 1, by omega, by simpa using h2⟩
  | some w :: t, i, q, h => by
    rcases List.mem_cons.mp h with rfl | h
    · exact ⟨0, rfl, rfl⟩
    · obtain ⟨k, h1, h2⟩ := qlv_of t (i + 1) q h
      exact ⟨k + 1, by omega, by simpa using h2⟩
def qh (ls : Array Slot) (nL : Nat) (lv : List (Option Value)) : Prop := lv_has ls nL (qlv 0 lv)
theorem qh_at {ls : Array Slot} {nL k : Nat} {lv : List (Option Value)} {v : Value} (h : qh ls nL lv) (hk : lv[k]? = some (some v)) : ls[k]? = some (.val v) := by
  have := h.2.2 (0 + k, v) (qlv_mem lv 0 k v hk)
  simpa using this
/-- no long stands just ahead of place i -/
def qok (lv : List (Option Value)) (i : Nat) : Prop := ∀ (j : Nat) (w : Value), j + 1 = i → lv[j]? = some (some w) → w.category = 1
theorem qok_0 {lv : List (Option Value)} : qok lv 0 := fun j w h => by omega
theorem qok_n {lv : List (Option Value)} {j : Nat} (h : lv[j]? = some none) : qok lv (j + 1) := fun k w e hk => by
  obtain rfl : k = j := by omega
  rw [h] at hk
  cases hk
theorem qok_s {lv : List (Option Value)} {j : Nat} {v : Value} (h : lv[j]? = some (some v)) (hc : v.category = 1) : qok lv (j + 1) := fun k w e hk => by
  obtain rfl : k = j := by omega
  rw [h] at hk
  cases hk
  exact hc
theorem qh_s1 {ls ls' : Array Slot} {nL i : Nat} {lv : List (Option Value)} {v : Value} (ho : qok lv i) (h : lv_has ls' nL ((i, v) :: (qlv 0 lv).filter (fun q => !(q.1 == i) && !(q.1 + 1 == i && q.2.category == 2)))) : qh ls' nL (lv.set i (some v)) := by
  refine ⟨h.1, h.2.1, fun q hq => ?_⟩
  obtain ⟨k, h1, h2⟩ := qlv_of _ 0 q hq
  by_cases hk : k = i
  · subst hk
    by_cases hl : k < lv.length
    · rw [List.getElem?_set_self hl] at h2
      have e2 := Option.some.inj (Option.some.inj h2)
      have := h.2.2 (k, v) List.mem_cons_self
      rw [h1, Nat.zero_add, ← e2]
      exact this
    · rw [List.getElem?_eq_none (by simp; omega)] at h2
      cases h2
  · rw [List.getElem?_set_ne (Ne.symm hk)] at h2
    refine h.2.2 q (List.mem_cons_of_mem _ (List.mem_filter.mpr ⟨?_, ?_⟩))
    · have := qlv_mem lv 0 k q.2 h2
      rw [← h1] at this
      exact this
    · have e : q.1 = k := by omega
      by_cases hc : k + 1 = i
      · have := ho k q.2 hc h2
        simp [e, hk, this]
      · simp [e, hk, hc]
theorem qh_s2 {ls ls' : Array Slot} {nL i : Nat} {lv : List (Option Value)} {v : Value} (ho : qok lv i) (h : lv_has ls' nL ((i, v) :: (qlv 0 lv).filter (fun q => !(q.1 == i) && (!(q.1 == i + 1) && !(q.1 + 1 == i && q.2.category == 2))))) : qh ls' nL ((lv.set i (some v)).set (i + 1) none) := by
  refine ⟨h.1, h.2.1, fun q hq => ?_⟩
  obtain ⟨k, h1, h2⟩ := qlv_of _ 0 q hq
  by_cases hk1 : k = i + 1
  · subst hk1
    rw [List.getElem?_set] at h2
    simp at h2
  · rw [List.getElem?_set_ne (Ne.symm hk1)] at h2
    by_cases hk : k = i
    · subst hk
      by_cases hl : k < lv.length
      · rw [List.getElem?_set_self hl] at h2
        have e2 := Option.some.inj (Option.some.inj h2)
        have := h.2.2 (k, v) List.mem_cons_self
        rw [h1, Nat.zero_add, ← e2]
        exact this
      · rw [List.getElem?_eq_none (by simp; omega)] at h2
        cases h2
    · rw [List.getElem?_set_ne (Ne.symm hk)] at h2
      refine h.2.2 q (List.mem_cons_of_mem _ (List.mem_filter.mpr ⟨?_, ?_⟩))
      · have := qlv_mem lv 0 k q.2 h2
        rw [← h1] at this
        exact this
      · have e : q.1 = k := by omega
        by_cases hc : k + 1 = i
        · have := ho k q.2 hc h2
          simp [e, hk, hk1, this]
        · simp [e, hk, hk1, hc]
/-- a point of a method -/
def Y (X : qX) (G : qG) (nL kc ks pc : Nat) (lv : List (Option Value)) (st : List Value) (h : List va_E) : Prop :=
  ∀ (H : Heap) (locs : List Loc) (ls : Array Slot), qH G h H → va_S (qA G) X.2.2.2.2.1.heap H locs → qh ls nL lv →
    W X.1 X.2.1 X.2.2.1 X.2.2.2.1 X.2.2.2.2.1 X.2.2.2.2.2.1 X.2.2.2.2.2.2.1 X.2.2.2.2.2.2.2.1 X.2.2.2.2.2.2.2.2.1 X.2.2.2.2.2.2.2.2.2.1 H locs kc ks X.2.2.2.2.2.2.2.2.2.2 (F0 X.2.2.2.2.2.1 pc ls st)
/-- what holds all through a method's body -/
def qC (X : qX) (G : qG) (cc : ByteArray) (nL : Nat) (own : String) (d : Nat) : Prop :=
  X.1.tables.exec = Jvm.exec ∧ X.2.2.2.2.2.2.2.2.2.1.code = cc ∧ X.2.2.2.2.2.2.2.2.2.1.maxLocals = nL ∧ X.2.2.2.2.1.vm.findClass own = some X.2.2.2.2.2.1.cls ∧ (∀ w ∈ lwg, w.before X.2.2.2.2.2.2.1 X.2.2.2.2.1 = true) ∧
  d ≤ X.2.2.2.1.frames ∧ 40 * d ≤ X.2.2.2.1.locals ∧ qF G X.2.2.2.2.1 X.2.2.2.2.1.heap ∧ G.2 4 ≤ X.2.2.2.2.1.heap.size ∧ X.2.2.2.2.2.2.2.2.1.locks = false
/-- its end: the answer and the heap that are due -/
def qE (X : qX) (G : qG) (rt : Option FieldType) (kc ks : Nat) (r : Option Value) (h' : List va_E) : Prop :=
  X.2.2.2.2.2.2.2.2.2.2 = MQ X.2.2.2.2.2.2.2.1 (qQ G r h') X.2.2.2.2.2.2.1 X.2.2.2.2.1 kc ks (qA G) ∧ X.2.2.2.2.2.2.2.2.1.sig.returnType = rt
def qd (cc : ByteArray) (pc : Nat) (i : Instr) (n pc' : Nat) : Prop := decode cc pc = .ok (i, n) ∧ pc + n = pc'
end
section
section
variable {X : qX} {G : qG} {cc : ByteArray} {nL kc ks pc pc' d : Nat} {own : String} {lv : List (Option Value)} {st : List Value} {h : List va_E}
theorem y_eq {lv' : List (Option Value)} {st' : List Value} {h' : List va_E} (h1 : lv = lv') (h2 : st = st') (h3 : h = h') (k : Y X G nL kc ks pc lv' st' h') : Y X G nL kc ks pc lv st h := by
  subst h1; subst h2; subst h3; exact k
theorem y_hp {h' : List va_E} (h3 : h = h') (k : Y X G nL kc ks pc lv st h') : Y X G nL kc ks pc lv st h := h3 ▸ k
theorem y_st {st' : List Value} (h3 : st = st') (k : Y X G nL kc ks pc lv st' h) : Y X G nL kc ks pc lv st h := h3 ▸ k
theorem y_lv {lv' : List (Option Value)} (h3 : lv = lv') (k : Y X G nL kc ks pc lv' st h) : Y X G nL kc ks pc lv st h := h3 ▸ k
theorem y_top {x y : Int32} (e : x = y) (k : Y X G nL kc ks pc lv (.int y :: st) h) : Y X G nL kc ks pc lv (.int x :: st) h := e ▸ k
theorem y_topl {x y : Int64} (e : x = y) (k : Y X G nL kc ks pc lv (.long y :: st) h) : Y X G nL kc ks pc lv (.long x :: st) h := e ▸ k
theorem y_iconst {i : Int} {v : Int32} (C : qC X G cc nL own d) (hd : qd cc pc (.iconst i) 1 pc') (hv : Int32.ofInt i = v) (k : Y X G nL kc ks pc' lv (.int v :: st) h) : Y X G nL kc ks pc lv (st) h := by
  obtain ⟨hd, rfl⟩ := hd
  exact fun H locs ls a b c => lv_iconst C.1 C.2.1 hd hv (k H locs ls a b c)
theorem y_bipush {i : Int} {v : Int32} (C : qC X G cc nL own d) (hd : qd cc pc (.bipush i) 2 pc') (hv : (Int8.ofInt i).toInt32 = v) (k : Y X G nL kc ks pc' lv (.int v :: st) h) : Y X G nL kc ks pc lv (st) h := by
  obtain ⟨hd, rfl⟩ := hd
  exact fun H locs ls a b c => lv_bipush C.1 C.2.1 hd hv (k H locs ls a b c)
theorem y_sipush {i : Int} {v : Int32} (C : qC X G cc nL own d) (hd : qd cc pc (.sipush i) 3 pc') (hv : (Int16.ofInt i).toInt32 = v) (k : Y X G nL kc ks pc' lv (.int v :: st) h) : Y X G nL kc ks pc lv (st) h := by
  obtain ⟨hd, rfl⟩ := hd
  exact fun H locs ls a b c => lv_sipush C.1 C.2.1 hd hv (k H locs ls a b c)
theorem y_lconst {i : Fin 2} {v : Int64} (C : qC X G cc nL own d) (hd : qd cc pc (.lconst i) 1 pc') (hv : Int64.ofNat (i : Nat) = v) (k : Y X G nL kc ks pc' lv (.long v :: st) h) : Y X G nL kc ks pc lv (st) h := by
  obtain ⟨hd, rfl⟩ := hd
  exact fun H locs ls a b c => lv_lconst C.1 C.2.1 hd hv (k H locs ls a b c)
theorem y_iload_n {i : Fin 4} {x : Int32} (C : qC X G cc nL own d) (hd : qd cc pc (.iload_n i) 1 pc') (hl : lv[(i : Nat)]? = some (some (.int x))) (k : Y X G nL kc ks pc' lv (.int x :: st) h) : Y X G nL kc ks pc lv (st) h := by
  obtain ⟨hd, rfl⟩ := hd
  exact fun H locs ls a b c => lv_iload_n C.1 C.2.1 hd rfl (qh_at c hl) (k H locs ls a b c)
theorem y_iload {i : Nat} {x : Int32} (C : qC X G cc nL own d) (hd : qd cc pc (.iload i) 2 pc') (hl : lv[i]? = some (some (.int x))) (k : Y X G nL kc ks pc' lv (.int x :: st) h) : Y X G nL kc ks pc lv (st) h := by
  obtain ⟨hd, rfl⟩ := hd
  exact fun H locs ls a b c => lv_iload C.1 C.2.1 hd (qh_at c hl) (k H locs ls a b c)
theorem y_lload_n {i : Fin 4} {x : Int64} (C : qC X G cc nL own d) (hd : qd cc pc (.lload_n i) 1 pc') (hl : lv[(i : Nat)]? = some (some (.long x))) (k : Y X G nL kc ks pc' lv (.long x :: st) h) : Y X G nL kc ks pc lv (st) h := by
  obtain ⟨hd, rfl⟩ := hd
  exact fun H locs ls a b c => lv_lload_n C.1 C.2.1 hd rfl (qh_at c hl) (k H locs ls a b c)
theorem y_lload {i : Nat} {x : Int64} (C : qC X G cc nL own d) (hd : qd cc pc (.lload i) 2 pc') (hl : lv[i]? = some (some (.long x))) (k : Y X G nL kc ks pc' lv (.long x :: st) h) : Y X G nL kc ks pc lv (st) h := by
  obtain ⟨hd, rfl⟩ := hd
  exact fun H locs ls a b c => lv_lload C.1 C.2.1 hd (qh_at c hl) (k H locs ls a b c)
theorem y_aload_n {i : Fin 4} {x : Nat} (C : qC X G cc nL own d) (hd : qd cc pc (.aload_n i) 1 pc') (hl : lv[(i : Nat)]? = some (some (.ref x))) (k : Y X G nL kc ks pc' lv (.ref x :: st) h) : Y X G nL kc ks pc lv (st) h := by
  obtain ⟨hd, rfl⟩ := hd
  exact fun H locs ls a b c => lv_aload_n C.1 C.2.1 hd rfl (qh_at c hl) (k H locs ls a b c)
theorem y_aload {i : Nat} {x : Nat} (C : qC X G cc nL own d) (hd : qd cc pc (.aload i) 2 pc') (hl : lv[i]? = some (some (.ref x))) (k : Y X G nL kc ks pc' lv (.ref x :: st) h) : Y X G nL kc ks pc lv (st) h := by
  obtain ⟨hd, rfl⟩ := hd
  exact fun H locs ls a b c => lv_aload C.1 C.2.1 hd (qh_at c hl) (k H locs ls a b c)
theorem y_istore {i : Nat} {x : Int32} (C : qC X G cc nL own d) (hd : qd cc pc (.istore i) 2 pc') (hn : i < nL) (ho : qok lv i) (k : Y X G nL kc ks pc' (lv.set i (some (.int x))) st h) : Y X G nL kc ks pc lv (.int x :: st) h := by
  obtain ⟨hd, rfl⟩ := hd
  exact fun H locs ls a b c => lv_istore C.1 C.2.1 hd c hn rfl (fun ls' c' => k H locs ls' a b (qh_s1 (ls := ls) ho c'))
theorem y_istore_n {i : Fin 4} {x : Int32} (C : qC X G cc nL own d) (hd : qd cc pc (.istore_n i) 1 pc') (hn : (i : Nat) < nL) (ho : qok lv (i : Nat)) (k : Y X G nL kc ks pc' (lv.set (i : Nat) (some (.int x))) st h) : Y X G nL kc ks pc lv (.int x :: st) h := by
  obtain ⟨hd, rfl⟩ := hd
  exact fun H locs ls a b c => lv_istore_n C.1 C.2.1 hd rfl c hn rfl (fun ls' c' => k H locs ls' a b (qh_s1 (ls := ls) ho c'))
theorem y_astore {i : Nat} {x : Nat} (C : qC X G cc nL own d) (hd : qd cc pc (.astore i) 2 pc') (hn : i < nL) (ho : qok lv i) (k : Y X G nL kc ks pc' (lv.set i (some (.ref x))) st h) : Y X G nL kc ks pc lv (.ref x :: st) h := by
  obtain ⟨hd, rfl⟩ := hd
  exact fun H locs ls a b c => lv_astore C.1 C.2.1 hd c hn rfl (fun ls' c' => k H locs ls' a b (qh_s1 (ls := ls) ho c'))
theorem y_astore_n {i : Fin 4} {x : Nat} (C : qC X G cc nL own d) (hd : qd cc pc (.astore_n i) 1 pc') (hn : (i : Nat) < nL) (ho : qok lv (i : Nat)) (k : Y X G nL kc ks pc' (lv.set (i : Nat) (some (.ref x))) st h) : Y X G nL kc ks pc lv (.ref x :: st) h := by
  obtain ⟨hd, rfl⟩ := hd
  exact fun H locs ls a b c => lv_astore_n C.1 C.2.1 hd rfl c hn rfl (fun ls' c' => k H locs ls' a b (qh_s1 (ls := ls) ho c'))
theorem y_lstore {i : Nat} {x : Int64} (C : qC X G cc nL own d) (hd : qd cc pc (.lstore i) 2 pc') (hn : i + 1 < nL) (ho : qok lv i) (k : Y X G nL kc ks pc' ((lv.set i (some (.long x))).set (i + 1) none) st h) : Y X G nL kc ks pc lv (.long x :: st) h := by
  obtain ⟨hd, rfl⟩ := hd
  exact fun H locs ls a b c => lv_lstore C.1 C.2.1 hd c hn rfl (fun ls' c' => k H locs ls' a b (qh_s2 (ls := ls) ho c'))
theorem y_lstore_n {i : Fin 4} {x : Int64} (C : qC X G cc nL own d) (hd : qd cc pc (.lstore_n i) 1 pc') (hn : (i : Nat) + 1 < nL) (ho : qok lv (i : Nat)) (k : Y X G nL kc ks pc' ((lv.set (i : Nat) (some (.long x))).set ((i : Nat) + 1) none) st h) : Y X G nL kc ks pc lv (.long x :: st) h := by
  obtain ⟨hd, rfl⟩ := hd
  exact fun H locs ls a b c => lv_lstore_n C.1 C.2.1 hd rfl c hn rfl (fun ls' c' => k H locs ls' a b (qh_s2 (ls := ls) ho c'))
theorem qlv_idx {lv : List (Option Value)} {i : Nat} {v : Value} (h : lv[i]? = some (some v)) : ∃ k : Nat, (qlv 0 lv)[k]? = some (i, v) := by
  have := qlv_mem lv 0 i v h
  rw [Nat.zero_add] at this
  exact List.getElem?_of_mem this
theorem y_iinc {i : Nat} {n : Int} {x v : Int32} (C : qC X G cc nL own d) (hd : qd cc pc (.iinc i n) 3 pc') (hl : lv[i]? = some (some (.int x))) (hv : x + Int32.ofInt n = v) (hn : i < nL) (ho : qok lv i) (k : Y X G nL kc ks pc' (lv.set i (some (.int v))) st h) : Y X G nL kc ks pc lv st h := by
  obtain ⟨hd, rfl⟩ := hd
  obtain ⟨kk, hk⟩ := qlv_idx hl
  exact fun H locs ls a b c => lv_iinc C.1 C.2.1 hd c hk hv hn rfl (fun ls' c' => k H locs ls' a b (qh_s1 (ls := ls) ho c'))
theorem y_iadd {x y : Int32} (C : qC X G cc nL own d) (hd : qd cc pc (.iadd) 1 pc') (k : Y X G nL kc ks pc' lv (.int (x + y) :: st) h) : Y X G nL kc ks pc lv (.int y :: .int x :: st) h := by
  obtain ⟨hd, rfl⟩ := hd
  exact fun H locs ls a b c => lv_iadd C.1 C.2.1 hd (k H locs ls a b c)
theorem y_isub {x y : Int32} (C : qC X G cc nL own d) (hd : qd cc pc (.isub) 1 pc') (k : Y X G nL kc ks pc' lv (.int (x - y) :: st) h) : Y X G nL kc ks pc lv (.int y :: .int x :: st) h := by
  obtain ⟨hd, rfl⟩ := hd
  exact fun H locs ls a b c => lv_isub C.1 C.2.1 hd (k H locs ls a b c)
theorem y_imul {x y : Int32} (C : qC X G cc nL own d) (hd : qd cc pc (.imul) 1 pc') (k : Y X G nL kc ks pc' lv (.int (x * y) :: st) h) : Y X G nL kc ks pc lv (.int y :: .int x :: st) h := by
  obtain ⟨hd, rfl⟩ := hd
  exact fun H locs ls a b c => lv_imul C.1 C.2.1 hd (k H locs ls a b c)
theorem y_iand {x y : Int32} (C : qC X G cc nL own d) (hd : qd cc pc (.iand) 1 pc') (k : Y X G nL kc ks pc' lv (.int (x &&& y) :: st) h) : Y X G nL kc ks pc lv (.int y :: .int x :: st) h := by
  obtain ⟨hd, rfl⟩ := hd
  exact fun H locs ls a b c => lv_iand C.1 C.2.1 hd (k H locs ls a b c)
theorem y_ior {x y : Int32} (C : qC X G cc nL own d) (hd : qd cc pc (.ior) 1 pc') (k : Y X G nL kc ks pc' lv (.int (x ||| y) :: st) h) : Y X G nL kc ks pc lv (.int y :: .int x :: st) h := by
  obtain ⟨hd, rfl⟩ := hd
  exact fun H locs ls a b c => lv_ior C.1 C.2.1 hd (k H locs ls a b c)
theorem y_ixor {x y : Int32} (C : qC X G cc nL own d) (hd : qd cc pc (.ixor) 1 pc') (k : Y X G nL kc ks pc' lv (.int (x ^^^ y) :: st) h) : Y X G nL kc ks pc lv (.int y :: .int x :: st) h := by
  obtain ⟨hd, rfl⟩ := hd
  exact fun H locs ls a b c => lv_ixor C.1 C.2.1 hd (k H locs ls a b c)
theorem y_ishl {x y : Int32} (C : qC X G cc nL own d) (hd : qd cc pc (.ishl) 1 pc') (k : Y X G nL kc ks pc' lv (.int (x <<< (y &&& 31)) :: st) h) : Y X G nL kc ks pc lv (.int y :: .int x :: st) h := by
  obtain ⟨hd, rfl⟩ := hd
  exact fun H locs ls a b c => lv_ishl C.1 C.2.1 hd (k H locs ls a b c)
theorem y_ishr {x y : Int32} (C : qC X G cc nL own d) (hd : qd cc pc (.ishr) 1 pc') (k : Y X G nL kc ks pc' lv (.int (x >>> (y &&& 31)) :: st) h) : Y X G nL kc ks pc lv (.int y :: .int x :: st) h := by
  obtain ⟨hd, rfl⟩ := hd
  exact fun H locs ls a b c => lv_ishr C.1 C.2.1 hd (k H locs ls a b c)
theorem y_iushr {x y : Int32} (C : qC X G cc nL own d) (hd : qd cc pc (.iushr) 1 pc') (k : Y X G nL kc ks pc' lv (.int ((x.toUInt32 >>> (y.toUInt32 &&& Int32.toUInt32 31)).toInt32) :: st) h) : Y X G nL kc ks pc lv (.int y :: .int x :: st) h := by
  obtain ⟨hd, rfl⟩ := hd
  exact fun H locs ls a b c => lv_iushr C.1 C.2.1 hd rfl (k H locs ls a b c)
theorem y_idiv {x y : Int32} (C : qC X G cc nL own d) (hd : qd cc pc (.idiv) 1 pc') (hne : ¬ y = 0) (k : Y X G nL kc ks pc' lv (.int (x / y) :: st) h) : Y X G nL kc ks pc lv (.int y :: .int x :: st) h := by
  obtain ⟨hd, rfl⟩ := hd
  exact fun H locs ls a b c => lv_idiv C.1 C.2.1 hd hne (k H locs ls a b c)
theorem y_irem {x y : Int32} (C : qC X G cc nL own d) (hd : qd cc pc (.irem) 1 pc') (hne : ¬ y = 0) (k : Y X G nL kc ks pc' lv (.int (x - x / y * y) :: st) h) : Y X G nL kc ks pc lv (.int y :: .int x :: st) h := by
  obtain ⟨hd, rfl⟩ := hd
  exact fun H locs ls a b c => lv_irem C.1 C.2.1 hd hne (k H locs ls a b c)
theorem y_ineg {x : Int32} (C : qC X G cc nL own d) (hd : qd cc pc (.ineg) 1 pc') (k : Y X G nL kc ks pc' lv (.int (-x) :: st) h) : Y X G nL kc ks pc lv (.int x :: st) h := by
  obtain ⟨hd, rfl⟩ := hd
  exact fun H locs ls a b c => lv_ineg C.1 C.2.1 hd (k H locs ls a b c)
theorem y_ladd {x y : Int64} (C : qC X G cc nL own d) (hd : qd cc pc (.ladd) 1 pc') (k : Y X G nL kc ks pc' lv (.long (x + y) :: st) h) : Y X G nL kc ks pc lv (.long y :: .long x :: st) h := by
  obtain ⟨hd, rfl⟩ := hd
  exact fun H locs ls a b c => lv_ladd C.1 C.2.1 hd (k H locs ls a b c)
theorem y_lsub {x y : Int64} (C : qC X G cc nL own d) (hd : qd cc pc (.lsub) 1 pc') (k : Y X G nL kc ks pc' lv (.long (x - y) :: st) h) : Y X G nL kc ks pc lv (.long y :: .long x :: st) h := by
  obtain ⟨hd, rfl⟩ := hd
  exact fun H locs ls a b c => lv_lsub C.1 C.2.1 hd (k H locs ls a b c)
theorem y_lmul {x y : Int64} (C : qC X G cc nL own d) (hd : qd cc pc (.lmul) 1 pc') (k : Y X G nL kc ks pc' lv (.long (x * y) :: st) h) : Y X G nL kc ks pc lv (.long y :: .long x :: st) h := by
  obtain ⟨hd, rfl⟩ := hd
  exact fun H locs ls a b c => lv_lmul C.1 C.2.1 hd (k H locs ls a b c)
theorem y_ldiv {x y : Int64} (C : qC X G cc nL own d) (hd : qd cc pc (.ldiv) 1 pc') (hne : ¬ y = 0) (k : Y X G nL kc ks pc' lv (.long (x / y) :: st) h) : Y X G nL kc ks pc lv (.long y :: .long x :: st) h := by
  obtain ⟨hd, rfl⟩ := hd
  exact fun H locs ls a b c => lv_ldiv C.1 C.2.1 hd hne (k H locs ls a b c)
theorem y_lrem {x y : Int64} (C : qC X G cc nL own d) (hd : qd cc pc (.lrem) 1 pc') (hne : ¬ y = 0) (k : Y X G nL kc ks pc' lv (.long (x - x / y * y) :: st) h) : Y X G nL kc ks pc lv (.long y :: .long x :: st) h := by
  obtain ⟨hd, rfl⟩ := hd
  exact fun H locs ls a b c => lv_lrem C.1 C.2.1 hd hne (k H locs ls a b c)
theorem y_i2l {x : Int32} (C : qC X G cc nL own d) (hd : qd cc pc (.i2l) 1 pc') (k : Y X G nL kc ks pc' lv (.long x.toInt64 :: st) h) : Y X G nL kc ks pc lv (.int x :: st) h := by
  obtain ⟨hd, rfl⟩ := hd
  exact fun H locs ls a b c => lv_i2l C.1 C.2.1 hd rfl (k H locs ls a b c)
theorem y_l2i {x : Int64} (C : qC X G cc nL own d) (hd : qd cc pc (.l2i) 1 pc') (k : Y X G nL kc ks pc' lv (.int x.toInt32 :: st) h) : Y X G nL kc ks pc lv (.long x :: st) h := by
  obtain ⟨hd, rfl⟩ := hd
  exact fun H locs ls a b c => lv_l2i C.1 C.2.1 hd rfl (k H locs ls a b c)
theorem y_i2b {x : Int32} (C : qC X G cc nL own d) (hd : qd cc pc (.i2b) 1 pc') (k : Y X G nL kc ks pc' lv (.int x.toInt8.toInt32 :: st) h) : Y X G nL kc ks pc lv (.int x :: st) h := by
  obtain ⟨hd, rfl⟩ := hd
  exact fun H locs ls a b c => lv_i2b C.1 C.2.1 hd rfl (k H locs ls a b c)
theorem y_i2s {x : Int32} (C : qC X G cc nL own d) (hd : qd cc pc (.i2s) 1 pc') (k : Y X G nL kc ks pc' lv (.int x.toInt16.toInt32 :: st) h) : Y X G nL kc ks pc lv (.int x :: st) h := by
  obtain ⟨hd, rfl⟩ := hd
  exact fun H locs ls a b c => lv_i2s C.1 C.2.1 hd rfl (k H locs ls a b c)
theorem y_dup {va : Value} (C : qC X G cc nL own d) (hd : qd cc pc (.dup) 1 pc') (hva : va.category = 1) (k : Y X G nL kc ks pc' lv (va :: va :: st) h) : Y X G nL kc ks pc lv (va :: st) h := by
  obtain ⟨hd, rfl⟩ := hd
  exact fun H locs ls a b c => lv_dup C.1 C.2.1 hd hva (k H locs ls a b c)
theorem y_pop {va : Value} (C : qC X G cc nL own d) (hd : qd cc pc (.pop) 1 pc') (hva : va.category = 1) (k : Y X G nL kc ks pc' lv (st) h) : Y X G nL kc ks pc lv (va :: st) h := by
  obtain ⟨hd, rfl⟩ := hd
  exact fun H locs ls a b c => lv_pop C.1 C.2.1 hd hva (k H locs ls a b c)
theorem y_dup2 {va vb : Value} (C : qC X G cc nL own d) (hd : qd cc pc (.dup2) 1 pc') (hva : va.category = 1) (hvb : vb.category = 1) (k : Y X G nL kc ks pc' lv (va :: vb :: va :: vb :: st) h) : Y X G nL kc ks pc lv (va :: vb :: st) h := by
  obtain ⟨hd, rfl⟩ := hd
  exact fun H locs ls a b c => lv_dup2_11 C.1 C.2.1 hd hva hvb (k H locs ls a b c)
def qj (cc : ByteArray) (pc : Nat) (i : Instr) (off : Int) (pc' tgt : Nat) : Prop := decode cc pc = .ok (i, 3) ∧ pc + 3 = pc' ∧ (pc : Int) + off = (tgt : Int)
theorem y_if_eq {x : Int32} {off : Int} {tgt : Nat} {P : Prop} (C : qC X G cc nL own d) (hd : qj cc pc (.ifCond .eq off) off pc' tgt) (hP : x = 0 ↔ P) (kt : P → Y X G nL kc ks tgt lv st h) (kf : ¬ P → Y X G nL kc ks pc' lv st h) : Y X G nL kc ks pc lv (.int x :: st) h := by
  obtain ⟨hd, rfl, ht⟩ := hd
  exact fun H locs ls a b c => lv_if_eq C.1 C.2.1 hd ht (fun q => kt (hP.mp q) H locs ls a b c) (fun q => kf (fun z => q (hP.mpr z)) H locs ls a b c)
theorem y_icmp_eq {x y : Int32} {off : Int} {tgt : Nat} {P : Prop} (C : qC X G cc nL own d) (hd : qj cc pc (.if_icmp .eq off) off pc' tgt) (hP : x = y ↔ P) (kt : P → Y X G nL kc ks tgt lv st h) (kf : ¬ P → Y X G nL kc ks pc' lv st h) : Y X G nL kc ks pc lv (.int y :: .int x :: st) h := by
  obtain ⟨hd, rfl, ht⟩ := hd
  exact fun H locs ls a b c => lv_icmp_eq C.1 C.2.1 hd ht (fun q => kt (hP.mp q) H locs ls a b c) (fun q => kf (fun z => q (hP.mpr z)) H locs ls a b c)
theorem y_if_ne {x : Int32} {off : Int} {tgt : Nat} {P : Prop} (C : qC X G cc nL own d) (hd : qj cc pc (.ifCond .ne off) off pc' tgt) (hP : x = 0 ↔ P) (kt : ¬ P → Y X G nL kc ks tgt lv st h) (kf : P → Y X G nL kc ks pc' lv st h) : Y X G nL kc ks pc lv (.int x :: st) h := by
  obtain ⟨hd, rfl, ht⟩ := hd
  exact fun H locs ls a b c => lv_if_ne C.1 C.2.1 hd ht (fun q => kt (fun z => q (hP.mpr z)) H locs ls a b c) (fun q => kf (hP.mp q) H locs ls a b c)
theorem y_icmp_ne {x y : Int32} {off : Int} {tgt : Nat} {P : Prop} (C : qC X G cc nL own d) (hd : qj cc pc (.if_icmp .ne off) off pc' tgt) (hP : x = y ↔ P) (kt : ¬ P → Y X G nL kc ks tgt lv st h) (kf : P → Y X G nL kc ks pc' lv st h) : Y X G nL kc ks pc lv (.int y :: .int x :: st) h := by
  obtain ⟨hd, rfl, ht⟩ := hd
  exact fun H locs ls a b c => lv_icmp_ne C.1 C.2.1 hd ht (fun q => kt (fun z => q (hP.mpr z)) H locs ls a b c) (fun q => kf (hP.mp q) H locs ls a b c)
theorem y_if_lt {x : Int32} {off : Int} {tgt : Nat} {P : Prop} (C : qC X G cc nL own d) (hd : qj cc pc (.ifCond .lt off) off pc' tgt) (hP : x < 0 ↔ P) (kt : P → Y X G nL kc ks tgt lv st h) (kf : ¬ P → Y X G nL kc ks pc' lv st h) : Y X G nL kc ks pc lv (.int x :: st) h := by
  obtain ⟨hd, rfl, ht⟩ := hd
  exact fun H locs ls a b c => lv_if_lt C.1 C.2.1 hd ht (fun q => kt (hP.mp q) H locs ls a b c) (fun q => kf (fun z => q (hP.mpr z)) H locs ls a b c)
theorem y_icmp_lt {x y : Int32} {off : Int} {tgt : Nat} {P : Prop} (C : qC X G cc nL own d) (hd : qj cc pc (.if_icmp .lt off) off pc' tgt) (hP : x < y ↔ P) (kt : P → Y X G nL kc ks tgt lv st h) (kf : ¬ P → Y X G nL kc ks pc' lv st h) : Y X G nL kc ks pc lv (.int y :: .int x :: st) h := by
  obtain ⟨hd, rfl, ht⟩ := hd
  exact fun H locs ls a b c => lv_icmp_lt C.1 C.2.1 hd ht (fun q => kt (hP.mp q) H locs ls a b c) (fun q => kf (fun z => q (hP.mpr z)) H locs ls a b c)
theorem y_if_ge {x : Int32} {off : Int} {tgt : Nat} {P : Prop} (C : qC X G cc nL own d) (hd : qj cc pc (.ifCond .ge off) off pc' tgt) (hP : 0 ≤ x ↔ P) (kt : P → Y X G nL kc ks tgt lv st h) (kf : ¬ P → Y X G nL kc ks pc' lv st h) : Y X G nL kc ks pc lv (.int x :: st) h := by
  obtain ⟨hd, rfl, ht⟩ := hd
  exact fun H locs ls a b c => lv_if_ge C.1 C.2.1 hd ht (fun q => kt (hP.mp q) H locs ls a b c) (fun q => kf (fun z => q (hP.mpr z)) H locs ls a b c)
theorem y_icmp_ge {x y : Int32} {off : Int} {tgt : Nat} {P : Prop} (C : qC X G cc nL own d) (hd : qj cc pc (.if_icmp .ge off) off pc' tgt) (hP : y ≤ x ↔ P) (kt : P → Y X G nL kc ks tgt lv st h) (kf : ¬ P → Y X G nL kc ks pc' lv st h) : Y X G nL kc ks pc lv (.int y :: .int x :: st) h := by
  obtain ⟨hd, rfl, ht⟩ := hd
  exact fun H locs ls a b c => lv_icmp_ge C.1 C.2.1 hd ht (fun q => kt (hP.mp q) H locs ls a b c) (fun q => kf (fun z => q (hP.mpr z)) H locs ls a b c)
theorem y_if_gt {x : Int32} {off : Int} {tgt : Nat} {P : Prop} (C : qC X G cc nL own d) (hd : qj cc pc (.ifCond .gt off) off pc' tgt) (hP : 0 < x ↔ P) (kt : P → Y X G nL kc ks tgt lv st h) (kf : ¬ P → Y X G nL kc ks pc' lv st h) : Y X G nL kc ks pc lv (.int x :: st) h := by
  obtain ⟨hd, rfl, ht⟩ := hd
  exact fun H locs ls a b c => lv_if_gt C.1 C.2.1 hd ht (fun q => kt (hP.mp q) H locs ls a b c) (fun q => kf (fun z => q (hP.mpr z)) H locs ls a b c)
theorem y_icmp_gt {x y : Int32} {off : Int} {tgt : Nat} {P : Prop} (C : qC X G cc nL own d) (hd : qj cc pc (.if_icmp .gt off) off pc' tgt) (hP : y < x ↔ P) (kt : P → Y X G nL kc ks tgt lv st h) (kf : ¬ P → Y X G nL kc ks pc' lv st h) : Y X G nL kc ks pc lv (.int y :: .int x :: st) h := by
  obtain ⟨hd, rfl, ht⟩ := hd
  exact fun H locs ls a b c => lv_icmp_gt C.1 C.2.1 hd ht (fun q => kt (hP.mp q) H locs ls a b c) (fun q => kf (fun z => q (hP.mpr z)) H locs ls a b c)
theorem y_if_le {x : Int32} {off : Int} {tgt : Nat} {P : Prop} (C : qC X G cc nL own d) (hd : qj cc pc (.ifCond .le off) off pc' tgt) (hP : x ≤ 0 ↔ P) (kt : P → Y X G nL kc ks tgt lv st h) (kf : ¬ P → Y X G nL kc ks pc' lv st h) : Y X G nL kc ks pc lv (.int x :: st) h := by
  obtain ⟨hd, rfl, ht⟩ := hd
  exact fun H locs ls a b c => lv_if_le C.1 C.2.1 hd ht (fun q => kt (hP.mp q) H locs ls a b c) (fun q => kf (fun z => q (hP.mpr z)) H locs ls a b c)
theorem y_icmp_le {x y : Int32} {off : Int} {tgt : Nat} {P : Prop} (C : qC X G cc nL own d) (hd : qj cc pc (.if_icmp .le off) off pc' tgt) (hP : x ≤ y ↔ P) (kt : P → Y X G nL kc ks tgt lv st h) (kf : ¬ P → Y X G nL kc ks pc' lv st h) : Y X G nL kc ks pc lv (.int y :: .int x :: st) h := by
  obtain ⟨hd, rfl, ht⟩ := hd
  exact fun H locs ls a b c => lv_icmp_le C.1 C.2.1 hd ht (fun q => kt (hP.mp q) H locs ls a b c) (fun q => kf (fun z => q (hP.mpr z)) H locs ls a b c)
theorem y_goto {off : Int} {tgt : Nat} (C : qC X G cc nL own d) (hd : qj cc pc (.goto off) off pc' tgt) (k : Y X G nL kc ks tgt lv st h) : Y X G nL kc ks pc lv st h := by
  obtain ⟨hd, rfl, ht⟩ := hd
  exact fun H locs ls a b c => lv_goto C.1 C.2.1 hd ht (k H locs ls a b c)
theorem y_lookup {dflt off : Int} {ps : Array (Int × Int)} {len tgt : Nat} {x : Int32} (C : qC X G cc nL own d) (hd : qd cc pc (.lookupswitch dflt ps) len pc') (hp : (ps.toList.zip (ps.toList.drop 1)).all (fun (a, next) => a.1 < next.1) = true) (ho : Op.lookupswitch.offset ps.toList dflt x.toInt = off) (ht : (pc : Int) + off = (tgt : Int)) (k : Y X G nL kc ks tgt lv st h) : Y X G nL kc ks pc lv (.int x :: st) h :=
  fun H locs ls a b c => lv_lookup C.1 C.2.1 hd.1 hp ho ht (k H locs ls a b c)
theorem y_tabOut {dflt lo hi : Int} {offs : Array Int} {len tgt : Nat} {x : Int32} (C : qC X G cc nL own d) (hd : qd cc pc (.tableswitch dflt lo hi offs) len pc') (hx : x.toInt < lo ∨ hi < x.toInt) (ht : (pc : Int) + dflt = (tgt : Int)) (k : Y X G nL kc ks tgt lv st h) : Y X G nL kc ks pc lv (.int x :: st) h :=
  fun H locs ls a b c => lv_tableOut C.1 C.2.1 hd.1 hx ht (k H locs ls a b c)
theorem y_tabIn {dflt lo hi off : Int} {offs : Array Int} {len tgt : Nat} {x : Int32} (C : qC X G cc nL own d) (hd : qd cc pc (.tableswitch dflt lo hi offs) len pc') (h1 : ¬ x.toInt < lo) (h2 : ¬ hi < x.toInt) (ho : offs[(x.toInt - lo).toNat]? = some off) (ht : (pc : Int) + off = (tgt : Int)) (k : Y X G nL kc ks tgt lv st h) : Y X G nL kc ks pc lv (.int x :: st) h :=
  fun H locs ls a b c => lv_tableIn C.1 C.2.1 hd.1 h1 h2 ho ht (k H locs ls a b c)
theorem y_lcmp {x y : Int64} (C : qC X G cc nL own d) (hd : qd cc pc (.lcmp) 1 pc') (k : Y X G nL kc ks pc' lv (.int (lg_cmp x y) :: st) h) : Y X G nL kc ks pc lv (.long y :: .long x :: st) h := by
  obtain ⟨hd, rfl⟩ := hd
  exact fun H locs ls a b c => W.lcmp C.1 C.2.1 hd (k H locs ls a b c)
theorem y_ldc {idx : Nat} {v : Int32} (C : qC X G cc nL own d) (hd : qd cc pc (.ldc idx) 2 pc') (hw : Cond.constant own idx v ∈ lwg) (k : Y X G nL kc ks pc' lv (.int v :: st) h) : Y X G nL kc ks pc lv st h := by
  obtain ⟨hd, rfl⟩ := hd
  exact fun H locs ls a b c => lv_ldc C.1 C.2.1 C.2.2.2.1 (C.2.2.2.2.1 _ hw) hd (k H locs ls a b c)
theorem y_ldcw {idx : Nat} {v : Int32} (C : qC X G cc nL own d) (hd : qd cc pc (.ldc_w idx) 3 pc') (hw : Cond.constant own idx v ∈ lwg) (k : Y X G nL kc ks pc' lv (.int v :: st) h) : Y X G nL kc ks pc lv st h := by
  obtain ⟨hd, rfl⟩ := hd
  exact fun H locs ls a b c => lv_ldcw C.1 C.2.1 C.2.2.2.1 (C.2.2.2.2.1 _ hw) hd (k H locs ls a b c)
theorem y_ldc2 {idx : Nat} {v : Int64} (C : qC X G cc nL own d) (hd : qd cc pc (.ldc2_w idx) 3 pc') (hw : Cond.constantLong own idx v ∈ lwg) (k : Y X G nL kc ks pc' lv (.long v :: st) h) : Y X G nL kc ks pc lv st h := by
  obtain ⟨hd, rfl⟩ := hd
  exact fun H locs ls a b c => lv_ldc2 C.1 C.2.1 C.2.2.2.1 (C.2.2.2.2.1 _ hw) hd (k H locs ls a b c)
/-- a field's link: entry idx of own's pool is field k of the class ci -/
def qfl (own : String) (idx ci k : Nat) (ty : FieldType) (fin : Bool) : Prop := ∃ (D : String) (T : u_T) (N : Nat) (ty0 : Nat → FieldType), vwCl[ci]? = some (D, T, N) ∧ k < N ∧ (∀ w ∈ u_ws D T N, w ∈ lwg) ∧ (∀ k, k < N → parseFieldDescriptor (T k).2.2.1 = some (ty0 k)) ∧ (∀ a, a < N → ∀ b, b < N → a ≠ b → (T a).2.1 ≠ (T b).2.1) ∧ Cond.fieldLink own idx (T k).1 (T k).2.1 (T k).2.2.1 ∈ lwg ∧ parseFieldDescriptor (T k).2.2.1 = some ty ∧ (T k).2.2.2 = fin ∧ (T k).1 = D
theorem y_get {idx a ci k : Nat} {fs : List Value} {v : Value} {ty : FieldType} {fin : Bool} (C : qC X G cc nL own d) (hd : qd cc pc (.getfield idx) 3 pc') (hf : qfl own idx ci k ty fin) (hl : h[a]? = some (.inr (ci, fs))) (hv : fs[k]? = some v) (kk : Y X G nL kc ks pc' lv (v :: st) h) : Y X G nL kc ks pc lv (qr G a :: st) h := by
  obtain ⟨hd, rfl⟩ := hd
  obtain ⟨D, T, N, ty0, f1, f2, f3, f4, f5, f6, f7, f8, f9⟩ := hf
  exact fun H locs ls a b c => va_get C.1 C.2.1 C.2.2.2.2.1 f3 C.2.2.2.1 C.2.2.2.2.2.2.2.1.1 a _ (qw_at hl) f1 k f2 (C.2.2.2.2.1 _ f6) (fun _ h => h) hv hd (kk H locs ls a b c)
theorem y_put {idx a ci k : Nat} {fs : List Value} {v : Value} {ty : FieldType} {h' : List va_E} (C : qC X G cc nL own d) (hd : qd cc pc (.putfield idx) 3 pc') (hf : qfl own idx ci k ty false) (hl : h[a]? = some (.inr (ci, fs))) (hk : k < fs.length) (hn : narrow ty v = v) (hfit : fits ty v = true) (hh : h.set a (.inr (ci, fs.set k v)) = h') (kk : Y X G nL kc ks pc' lv st h') : Y X G nL kc ks pc lv (v :: qr G a :: st) h := by
  obtain ⟨hd, rfl⟩ := hd
  subst hh
  obtain ⟨D, T, N, ty0, f1, f2, f3, f4, f5, f6, f7, f8, f9⟩ := hf
  intro H locs ls e b c
  exact va_put C.1 C.2.1 C.2.2.2.2.1 f3 ty0 f4 f5 C.2.2.2.1 C.2.2.2.2.2.2.2.1.1 e qw_D b _ (qw_at hl) f1 k f2 (C.2.2.2.2.1 _ f6) (fun _ h => h) f8 f7 hn hfit hk hd (fun H1 locs1 p1 p2 p3 => kk H1 locs1 ls (qH_set p1) p3 c)
theorem y_putF {idx a ci k : Nat} {fs : List Value} {v : Value} {ty : FieldType} {h' : List va_E} (C : qC X G cc nL own d) (hd : qd cc pc (.putfield idx) 3 pc') (hf : qfl own idx ci k ty true) (hnm : X.2.2.2.2.2.2.2.2.1.name = "<init>") (hcl : (vwCl[ci]?).map (·.1) = some own) (hl : h[a]? = some (.inr (ci, fs))) (hk : k < fs.length) (hn : narrow ty v = v) (hfit : fits ty v = true) (hh : h.set a (.inr (ci, fs.set k v)) = h') (kk : Y X G nL kc ks pc' lv st h') : Y X G nL kc ks pc lv (v :: qr G a :: st) h := by
  obtain ⟨hd, rfl⟩ := hd
  subst hh
  obtain ⟨D, T, N, ty0, f1, f2, f3, f4, f5, f6, f7, f8, f9⟩ := hf
  rw [f1] at hcl
  have hD : D = own := Option.some.inj hcl
  intro H locs ls e b c
  exact va_putF C.1 C.2.1 C.2.2.2.2.1 f3 ty0 f4 f5 C.2.2.2.1 C.2.2.2.2.2.2.2.1.1 e qw_D b _ (qw_at hl) f1 k f2 (C.2.2.2.2.1 _ f6) (fun _ h => h) f8 hnm (f9.trans hD) f7 hn hfit hk hd (fun H1 locs1 p1 p2 p3 => kk H1 locs1 ls (qH_set p1) p3 c)
theorem y_ild {a n : Nat} {f : Nat → Int32} {i : Int32} (C : qC X G cc nL own d) (hd : qd cc pc (.iaload) 1 pc') (hl : h[a]? = some (qI G n f)) (hin : vp_in i n) (kk : Y X G nL kc ks pc' lv (.int (f i.toNatClampNeg) :: st) h) : Y X G nL kc ks pc lv (.int i :: qr G a :: st) h := by
  obtain ⟨hd, rfl⟩ := hd
  exact fun H locs ls e b c => va_iald C.1 C.2.1 C.2.2.2.2.2.2.2.1.1 e _ 0 (qw_at hl) rfl hin hd (kk H locs ls e b c)
theorem y_zld {a n : Nat} {f : Nat → Int32} {i : Int32} (C : qC X G cc nL own d) (hd : qd cc pc (.baload) 1 pc') (hl : h[a]? = some (qZ G n f)) (hin : vp_in i n) (kk : Y X G nL kc ks pc' lv (.int (f i.toNatClampNeg) :: st) h) : Y X G nL kc ks pc lv (.int i :: qr G a :: st) h := by
  obtain ⟨hd, rfl⟩ := hd
  exact fun H locs ls e b c => va_zald C.1 C.2.1 C.2.2.2.2.2.2.2.1.1 e _ 1 (qw_at hl) rfl hin hd (kk H locs ls e b c)
theorem y_ist {a n : Nat} {f : Nat → Int32} {i x : Int32} {h' : List va_E} (C : qC X G cc nL own d) (hd : qd cc pc (.iastore) 1 pc') (hl : h[a]? = some (qI G n f)) (hin : vp_in i n) (hh : h.set a (qI G n (upd f i.toNatClampNeg x)) = h') (kk : Y X G nL kc ks pc' lv st h') : Y X G nL kc ks pc lv (.int x :: .int i :: qr G a :: st) h := by
  obtain ⟨hd, rfl⟩ := hd
  subst hh
  exact fun H locs ls e b c => va_iast C.1 C.2.1 C.2.2.2.2.2.2.2.1.1 e qw_D b _ 0 (qw_at hl) rfl hin hd (fun H1 locs1 p1 p2 p3 => kk H1 locs1 ls (qH_set p1) p3 c)
theorem y_zst {a n : Nat} {f : Nat → Int32} {i x : Int32} {h' : List va_E} (C : qC X G cc nL own d) (hd : qd cc pc (.bastore) 1 pc') (hl : h[a]? = some (qZ G n f)) (hin : vp_in i n) (hh : h.set a (qZ G n (upd f i.toNatClampNeg (vp_nar .boolean x))) = h') (kk : Y X G nL kc ks pc' lv st h') : Y X G nL kc ks pc lv (.int x :: .int i :: qr G a :: st) h := by
  obtain ⟨hd, rfl⟩ := hd
  subst hh
  exact fun H locs ls e b c => va_zast C.1 C.2.1 C.2.2.2.2.2.2.2.1.1 e qw_D b _ 1 (qw_at hl) rfl hin hd (fun H1 locs1 p1 p2 p3 => kk H1 locs1 ls (qH_set p1) p3 c)
theorem y_ald {a n t0 : Nat} {E : String} {cA : ClassId} {f : Nat → Option Nat} {i : Int32} {v : Value} (C : qC X G cc nL own d) (hd : qd cc pc (.aaload) 1 pc') (hl : h[a]? = some (.inl (cA, n, .inr (.inr (.inr (.inr f)))))) (ht : (qT G)[t0]? = some (cA, .object E)) (hin : vp_in i n) (hv : va_rf (f i.toNatClampNeg) = v) (kk : Y X G nL kc ks pc' lv (v :: st) h) : Y X G nL kc ks pc lv (.int i :: qr G a :: st) h := by
  obtain ⟨hd, rfl⟩ := hd
  subst hv
  exact fun H locs ls e b c => va_aldq C.1 C.2.1 C.2.2.2.2.2.2.2.1.1 e _ t0 (qw_at hl) ht hin hd (kk H locs ls e b c)
theorem y_ast {a n t0 v ci : Nat} {E : String} {T : u_T} {N : Nat} {cA : ClassId} {f : Nat → Option Nat} {i : Int32} {fs : List Value} {h' : List va_E} (C : qC X G cc nL own d) (hd : qd cc pc (.aastore) 1 pc') (hl : h[a]? = some (.inl (cA, n, .inr (.inr (.inr (.inr f)))))) (ht : (qT G)[t0]? = some (cA, .object E)) (hv : h[v]? = some (.inr (ci, fs))) (hc : vwCl[ci]? = some (E, T, N)) (hin : vp_in i n) (hh : h.set a (.inl (cA, n, .inr (.inr (.inr (.inr (va_up f i.toNatClampNeg (some (G.2 4 + v)))))))) = h') (kk : Y X G nL kc ks pc' lv st h') : Y X G nL kc ks pc lv (qr G v :: .int i :: qr G a :: st) h := by
  obtain ⟨hd, rfl⟩ := hd
  subst hh
  exact fun H locs ls e b c => va_astq C.1 C.2.1 C.2.2.2.2.2.2.2.1.1 e qw_D b _ t0 _ ci (qw_at hl) ht (qw_at hv) hc hin hd (fun H1 locs1 p1 p2 p3 => kk H1 locs1 ls (qH_set p1) p3 c)
theorem y_alen {a t0 : Nat} {cA : ClassId} {x : vp_A} {ty : FieldType} {v : Int32} (C : qC X G cc nL own d) (hd : qd cc pc (.arraylength) 1 pc') (hl : h[a]? = some (.inl (cA, x))) (ht : (qT G)[t0]? = some (cA, ty)) (hv : Int32.ofNat x.1 = v) (kk : Y X G nL kc ks pc' lv (.int v :: st) h) : Y X G nL kc ks pc lv (qr G a :: st) h := by
  obtain ⟨hd, rfl⟩ := hd
  exact fun H locs ls e b c => va_alen C.1 C.2.1 C.2.2.2.2.2.2.2.1.1 e _ t0 (qw_at hl) ht hv hd (kk H locs ls e b c)
theorem y_copy {idx a b n0 n1 : Nat} {f g : Nat → Int32} {sp dp n : Int32} {h' : List va_E} (C : qC X G cc nL own d) (hd : qd cc pc (.invokestatic idx) 3 pc') (hw : Cond.methodLink own idx arraycopyName ∈ lwg) (hl0 : h[a]? = some (qI G n0 f)) (hl1 : h[b]? = some (qI G n1 g)) (h1 : ¬ sp < 0) (h2 : ¬ dp < 0) (h3 : ¬ n < 0) (h4 : sp.toNatClampNeg + n.toNatClampNeg ≤ n0) (h5 : dp.toNatClampNeg + n.toNatClampNeg ≤ n1) (hdep : 1 ≤ d) (hst : (st.map fun v => v.category).sum ≤ 8) (hh : h.set b (qI G n1 (va_cpy f g sp.toNatClampNeg dp.toNatClampNeg n.toNatClampNeg)) = h') (kk : Y X G nL kc ks pc' lv st h') : Y X G nL kc ks pc lv (.int n :: .int dp :: qr G b :: .int sp :: qr G a :: st) h := by
  obtain ⟨hd, rfl⟩ := hd
  subst hh
  have hn : nativeFrameWords "java/lang/System" "arraycopy" 5 + 11 ≤ 32 := by decide +kernel
  exact fun H locs ls e b c => va_copyi C.1 C.2.1 (C.2.2.1.trans c.1.symm) C.2.2.2.1 (C.2.2.2.2.1 _ hw) (C.2.2.2.2.1 _ (by decide +kernel)) (C.2.2.2.2.1 _ (by decide +kernel)) (C.2.2.2.2.1 _ (by decide +kernel)) C.2.2.2.2.2.2.2.1.1 e qw_D b _ _ 0 0 (qw_at hl0) (qw_at hl1) rfl rfl rfl h1 h2 h3 h4 h5 (fun i _ => rfl) (Nat.le_trans hdep C.2.2.2.2.2.1) (Nat.le_trans (Nat.le_trans (Nat.add_le_add hst hn) (by omega)) C.2.2.2.2.2.2.1) hd (fun H1 locs1 p1 p2 p3 => kk H1 locs1 ls (qH_set p1) p3 c)
theorem y_tabS {idx : Nat} (C : qC X G cc nL own d) (hd : qd cc pc (.getstatic idx) 3 pc') (hw : Cond.fieldLink own idx "DreamGraves$Asker" "SIZE_BODIES" "[I" ∈ lwg) (kk : Y X G nL kc ks pc' lv (.ref (G.2 5) :: st) h) : Y X G nL kc ks pc lv st h := by
  obtain ⟨hd, rfl⟩ := hd
  exact fun H locs ls e b c => va_gets C.1 C.2.1 C.2.2.2.2.2.2.2.1.2.2.2.2.1 b C.2.2.2.1 (C.2.2.2.2.1 _ hw) (fun _ h => h) hd (kk H locs ls e b c)
theorem y_tabM {idx : Nat} (C : qC X G cc nL own d) (hd : qd cc pc (.getstatic idx) 3 pc') (hw : Cond.fieldLink own idx "DreamGraves$Asker" "MARK_BODIES" "[I" ∈ lwg) (kk : Y X G nL kc ks pc' lv (.ref (G.2 6) :: st) h) : Y X G nL kc ks pc lv st h := by
  obtain ⟨hd, rfl⟩ := hd
  exact fun H locs ls e b c => va_gets C.1 C.2.1 C.2.2.2.2.2.2.2.1.2.2.2.2.2.2.1 b C.2.2.2.1 (C.2.2.2.2.1 _ hw) (fun _ h => h) hd (kk H locs ls e b c)
theorem y_tldS {i : Int32} {v : Value} (C : qC X G cc nL own d) (hd : qd cc pc (.iaload) 1 pc') (hin : vp_in i 6) (hv : qtS i.toNatClampNeg = v) (kk : Y X G nL kc ks pc' lv (v :: st) h) : Y X G nL kc ks pc lv (.int i :: .ref (G.2 5) :: st) h := by
  obtain ⟨hd, rfl⟩ := hd
  exact fun H locs ls e b c => va_ti C.1 C.2.1 C.2.2.2.2.2.2.2.1.2.2.2.2.2.1 b hin hv hd (kk H locs ls e b c)
theorem y_tldM {i : Int32} {v : Value} (C : qC X G cc nL own d) (hd : qd cc pc (.iaload) 1 pc') (hin : vp_in i 6) (hv : qtM i.toNatClampNeg = v) (kk : Y X G nL kc ks pc' lv (v :: st) h) : Y X G nL kc ks pc lv (.int i :: .ref (G.2 6) :: st) h := by
  obtain ⟨hd, rfl⟩ := hd
  exact fun H locs ls e b c => va_ti C.1 C.2.1 C.2.2.2.2.2.2.2.1.2.2.2.2.2.2.2 b hin hv hd (kk H locs ls e b c)
theorem q_end {H : Heap} {locs : List Loc} {r : Option Value} {h' : List va_E} (C : qC X G cc nL own d) (e : qH G h H) (b : va_S (qA G) X.2.2.2.2.1.heap H locs) (hh : h = h') : ∀ t : State, t.heap = H → X.2.2.2.2.1.WarmedH t.vm → qQ G r h' X.2.2.2.2.2.2.1 X.2.2.2.2.1 (.returned r) t := by
  intro t ht hW
  subst hh
  refine ⟨rfl, ⟨by rw [ht]; exact e, ?_⟩, b.F ht⟩
  rw [ht]
  exact qF_moved hW (fun a h1 h2 => b.2.1 a h1 h2) C.2.2.2.2.2.2.2.1
theorem y_iret {r : Option Value} {h' : List va_E} {v : Int32} (C : qC X G cc nL own d) (E : qE X G (some .int) kc ks r h') (hd : qd cc pc (.ireturn) 1 pc') (hr : some (.int v) = r) (hh : h = h') : Y X G nL kc ks pc lv [.int v] h := by
  obtain ⟨E1, E2⟩ := E
  subst hr
  intro H locs ls e b c
  rw [E1]
  exact W.iret C.1 C.2.1 E2 (q_end C e b hh) b.2.2 hd.1 C.2.2.2.2.2.2.2.2.2
theorem y_zret {r : Option Value} {h' : List va_E} {v : Int32} (C : qC X G cc nL own d) (E : qE X G (some .boolean) kc ks r h') (hd : qd cc pc (.ireturn) 1 pc') (hn : narrow .boolean (.int v) = .int v) (hr : some (.int v) = r) (hh : h = h') : Y X G nL kc ks pc lv [.int v] h := by
  obtain ⟨E1, E2⟩ := E
  subst hr
  intro H locs ls e b c
  rw [E1]
  exact W.zret C.1 C.2.1 E2 hn (q_end C e b hh) b.2.2 hd.1 C.2.2.2.2.2.2.2.2.2
theorem y_lret {r : Option Value} {h' : List va_E} {v : Int64} (C : qC X G cc nL own d) (E : qE X G (some .long) kc ks r h') (hd : qd cc pc (.lreturn) 1 pc') (hr : some (.long v) = r) (hh : h = h') : Y X G nL kc ks pc lv [.long v] h := by
  obtain ⟨E1, E2⟩ := E
  subst hr
  intro H locs ls e b c
  rw [E1]
  exact W.lret C.1 C.2.1 E2 (q_end C e b hh) b.2.2 hd.1 C.2.2.2.2.2.2.2.2.2
theorem y_vret {h' : List va_E} (C : qC X G cc nL own d) (E : qE X G none kc ks none h') (hd : qd cc pc (.return_) 1 pc') (hh : h = h') : Y X G nL kc ks pc lv [] h := by
  obtain ⟨E1, E2⟩ := E
  intro H locs ls e b c
  rw [E1]
  exact W.vret C.1 C.2.1 E2 (q_end C e b hh) b.2.2 hd.1 C.2.2.2.2.2.2.2.2.2
theorem y_aret {r : Option Value} {h' : List va_E} {v : Nat} {cn : String} (C : qC X G cc nL own d) (E : qE X G (some (.object cn)) kc ks r h') (hd : qd cc pc (.areturn) 1 pc') (hr : some (.ref v) = r) (hh : h = h') : Y X G nL kc ks pc lv [.ref v] h := by
  obtain ⟨E1, E2⟩ := E
  subst hr
  intro H locs ls e b c
  rw [E1]
  exact W.aret C.1 C.2.1 E2 (Or.inl ⟨cn, rfl⟩) (Or.inr ⟨v, rfl⟩) (q_end C e b hh) b.2.2 hd.1 C.2.2.2.2.2.2.2.2.2

end
end
section
section
variable {l : Launch} {G : qG} {y : MethodName} {d mc ms : Nat} {av : List Value} {h : List va_E} {r : Option Value} {h' : List va_E}
theorem ctm_intro {bytes : ByteArray} {maxL : Nat} {ret : Option FieldType} (hcode : Cond.code y bytes maxL ret ∈ lwg) (hm : maxL ≤ 20) (hy : plainName y.cls = true) (lv0 : List (Option Value)) (hlv : qlv 0 lv0 = lv_args 0 av) (hlen : (lg_sl av).length ≤ maxL)
    (body : ∀ X : qX, X.2.1 = l → X.2.2.2.1.cells = mc → X.2.2.2.1.slots = ms → X.2.2.2.2.2.2.2.2.1.name = y.name → (mc ≠ 0 → X.2.2.2.2.1.heap.size = G.2 4 + h.length) → qC X G bytes maxL y.cls d → qE X G ret mc ms r h' → Y X G maxL 0 0 0 lv0 [] h) : Ctm l G y d mc ms av h r h' := by
  refine ⟨bytes, maxL, ret, hcode, hm, ?_⟩
  refine Met.ofW (cc := bytes) (maxL := maxL) (ret := ret) hy rfl ?_
  intro p e s m args below meth c s₁ B hml hv
  obtain ⟨rfl, ⟨hP, hF⟩, hb4, hsz⟩ := hv
  have hts := atoms_spec (ws := Cond.code y bytes maxL ret :: lwg) B.pre
  have hl := lv_entry av (n := maxL) hlen
  rw [lg_entry_eq]
  refine body (p, l, e, _, s, m, av.toArray, below, meth, c, _) rfl rfl rfl (name_of_methodNamed B.named B.method).1 hsz ?_ ⟨rfl, B.returns⟩ s.heap [] _ hP va_S.rf ?_
  · exact ⟨B.exec, B.bytes, hml, findClass_of_methodNamed B.named, fun w hw => hts w (List.mem_cons_of_mem _ hw), Nat.le_refl _, Nat.le_refl _, hF, hb4, B.notSynchronized⟩
  · show lv_has _ _ (qlv 0 lv0)
    rw [hlv]
    exact hl
/-- behind a call -/
theorem y_run {X : qX} {nL kc ks pc : Nat} {lv : List (Option Value)} {sk rest : List Value} {arr : Array Value} {H : Heap} {locs : List Loc} {ls : Array Slot} (b : va_S (qA G) X.2.2.2.2.1.heap H locs) (c : qh ls nL lv)
    (hr : va_Run X.1 X.2.1 X.2.2.1 X.2.2.2.1 X.2.2.2.2.1 X.2.2.2.2.2.1 X.2.2.2.2.2.2.1 X.2.2.2.2.2.2.2.1 X.2.2.2.2.2.2.2.2.1 X.2.2.2.2.2.2.2.2.2.1 H locs kc ks mc ms (F0 X.2.2.2.2.2.1 pc ls sk) rest (qQ G r h' arr) (qA G))
    (k : Y X G nL (kc + mc) (ks + ms) (pc + 3) lv (r.toList ++ rest) h') :
    W X.1 X.2.1 X.2.2.1 X.2.2.2.1 X.2.2.2.2.1 X.2.2.2.2.2.1 X.2.2.2.2.2.2.1 X.2.2.2.2.2.2.2.1 X.2.2.2.2.2.2.2.2.1 X.2.2.2.2.2.2.2.2.2.1 H locs kc ks X.2.2.2.2.2.2.2.2.2.2 (F0 X.2.2.2.2.2.1 pc ls sk) := by
  intro T hT Z
  obtain ⟨v, st₀, t, T', L, h0, X', hL, e1, e2, ⟨hv, hw, hz, hk⟩, st⟩ := hr T hT Z
  have hv : v = r := by
    have := hv
    simp only [Outcome.returned.injEq] at this
    exact this
  subst hv
  rw [h0] at hz hk
  obtain ⟨t2, a1, b1⟩ := k T'.heap (locs ++ L) ls (by rw [e1]; exact hw.1)
    ⟨Nat.le_trans b.1 (by rw [e1]; exact hz), fun q h1 h2 => by rw [e1, hk q (Nat.lt_of_lt_of_le h1 b.1) h2]; exact b.2.1 q h1 h2, fun q hq => by
      rcases List.mem_append.mp hq with h | h
      · exact b.2.2 q h
      · exact hL q h⟩ c T' rfl X'
  exact ⟨t2, st t2 a1, b1⟩
theorem qP_blind : FrameBlind (qP G mc av h) := by
  intro a U g mk q
  obtain ⟨q0, ⟨q1, q2⟩, q3, q4⟩ := q
  exact ⟨q0, ⟨q1, qF_blind q2⟩, q3, q4⟩
theorem qP_pre {X : qX} {cc : ByteArray} {nL : Nat} {own : String} {d : Nat} {H : Heap} {locs : List Loc} (C : qC X G cc nL own d) (e : qH G h H) (b : va_S (qA G) X.2.2.2.2.1.heap H locs) (hs : mc ≠ 0 → H.size = G.2 4 + h.length) : ∀ U : State, U.heap = H → X.2.2.2.2.1.WarmedH U.vm → qP G mc av h av.toArray U := by
  intro U hU hW
  refine ⟨rfl, ⟨by rw [hU]; exact e, ?_⟩, ?_, ?_⟩
  · rw [hU]
    exact qF_moved hW (fun a h1 h2 => b.2.1 a h1 h2) C.2.2.2.2.2.2.2.1
  · rw [hU]
    exact Nat.le_trans C.2.2.2.2.2.2.2.2.1 b.1
  · rw [hU]
    exact hs
theorem q_goodc {bytes : ByteArray} {maxL : Nat} {ret : Option FieldType} (hc : Cond.code y bytes maxL ret ∈ lwg) : GoodIn lwg (Cond.code y bytes maxL ret :: lwg) := fun w hw => (List.mem_cons.mp hw).elim (fun e => by rw [e]; exact lwg_good _ hc) (fun h => lwg_good _ h)
end
section
variable {X : qX} {G : qG} {cc : ByteArray} {nL kc ks pc pc' d d' : Nat} {own : String} {lv : List (Option Value)} {st sk : List Value} {h h' : List va_E} {y : MethodName} {r : Option Value} {As : List Value}
abbrev qyn (y : MethodName) (n : Nat) : Prop := y.cls ≠ "java/lang/invoke/MethodHandle" ∧ y.cls ≠ "java/lang/invoke/VarHandle" ∧ (parseMethodDescriptor y.desc).map (fun d => d.parameters.length) = some n
/-- a virtual call: entry idx of own's pool is y, of the class ci, with n arguments -/
def qcV (own : String) (idx : Nat) (y : MethodName) (ci n : Nat) : Prop := Cond.methodLink own idx y ∈ lwg ∧ Cond.instanceMethod y ∈ lwg ∧ Cond.selects y.cls y y ∈ lwg ∧ Cond.initialized y.cls ∈ lwg ∧ (∃ (T : u_T) (N : Nat), vwCl[ci]? = some (y.cls, T, N)) ∧ qyn y n
def qcS (own : String) (idx : Nat) (y : MethodName) (n : Nat) : Prop := Cond.methodLink own idx y ∈ lwg ∧ Cond.static y ∈ lwg ∧ Cond.initialized y.cls ∈ lwg ∧ qyn y n
def qcSN (own : String) (idx : Nat) (y : MethodName) (n : Nat) : Prop := (∃ host, Cond.methodLinkNest own idx y host ∈ qNl) ∧ Cond.static y ∈ lwg ∧ Cond.initialized y.cls ∈ lwg ∧ qyn y n
def qcI (own : String) (idx : Nat) (y : MethodName) (n : Nat) : Prop := Cond.methodLink own idx y ∈ lwg ∧ Cond.instanceMethod y ∈ lwg ∧ Cond.initialized y.cls ∈ lwg ∧ y.name = "<init>" ∧ qyn y n
def qcIN (own : String) (idx : Nat) (y : MethodName) (n : Nat) : Prop := (∃ host, Cond.methodLinkNest own idx y host ∈ qNl) ∧ Cond.instanceMethod y ∈ lwg ∧ Cond.initialized y.cls ∈ lwg ∧ y.name = "<init>" ∧ qyn y n
theorem q_rm {d d' maxL : Nat} {R : Room} (h1 : d ≤ R.frames) (h2 : 40 * d ≤ R.locals) (hm : maxL ≤ 20) (hd : d' + 1 ≤ d) (mc ms : Nat) : (qm d' mc ms).frames + 1 ≤ R.frames ∧ 8 + (maxL + 11) + (qm d' mc ms).locals ≤ R.locals := by
  constructor
  · show d' + 1 ≤ _
    omega
  · show 8 + (maxL + 11) + 40 * d' ≤ _
    omega
theorem y_callV {idx ci n a : Nat} {fs : List Value} (C : qC X G cc nL own d) (hd : qd cc pc (.invokevirtual idx) 3 pc') (hk : qcV own idx y ci n) (hM : Ct X.2.1 G y d' (qr G a :: As) h r h') (hl : h[a]? = some (.inr (ci, fs))) (hs : sk = As.reverse ++ qr G a :: st) (hn : As.length = n) (hdd : d' + 1 ≤ d) (hst : (st.map fun v => v.category).sum ≤ 8) (hkc : kc ≤ X.2.2.2.1.cells ∧ ks ≤ X.2.2.2.1.slots) (k : Y X G nL kc ks pc' lv (r.toList ++ st) h') : Y X G nL kc ks pc lv sk h := by
  obtain ⟨hd, rfl⟩ := hd
  subst hs
  obtain ⟨k1, k2, k3, k4, ⟨T, N, k5⟩, k6⟩ := hk
  obtain ⟨bytes, maxL, ret, m1, m2, hM⟩ := hM
  have hts := C.2.2.2.2.1
  intro H locs ls e b c
  refine y_run (mc := 0) (ms := 0) (arr := (qr G a :: As).toArray) b c ?_ k
  exact va_runV (Ts := lwg) ⟨C.1, C.2.1, C.2.2.1, C.2.2.2.1, hts⟩ hM ⟨callB_of n hts (q_goodc m1) rfl rfl rfl (hts _ k4) (hts _ k1) k6 (q_rm C.2.2.2.2.2.1 C.2.2.2.2.2.2.1 m2 hdd 0 0), hts _ k2, hts _ k3⟩ ⟨qP_blind, va_recv C.2.2.2.2.2.2.2.1.1 e k5 (qw_at hl), qP_pre C e b (fun h => absurd rfl h)⟩ rfl hn c.1 rfl (lv_room hst) hd hkc
theorem y_callS {idx n : Nat} (C : qC X G cc nL own d) (hd : qd cc pc (.invokestatic idx) 3 pc') (hk : qcS own idx y n) (hM : Ct X.2.1 G y d' As h r h') (hs : sk = As.reverse ++ st) (hn : As.length = n) (hdd : d' + 1 ≤ d) (hst : (st.map fun v => v.category).sum ≤ 8) (hkc : kc ≤ X.2.2.2.1.cells ∧ ks ≤ X.2.2.2.1.slots) (k : Y X G nL kc ks pc' lv (r.toList ++ st) h') : Y X G nL kc ks pc lv sk h := by
  obtain ⟨hd, rfl⟩ := hd
  subst hs
  obtain ⟨k1, k2, k4, k6⟩ := hk
  obtain ⟨bytes, maxL, ret, m1, m2, hM⟩ := hM
  have hts := C.2.2.2.2.1
  intro H locs ls e b c
  refine y_run (mc := 0) (ms := 0) (arr := As.toArray) b c ?_ k
  exact va_runS (Ts := lwg) ⟨C.1, C.2.1, C.2.2.1, C.2.2.2.1, hts⟩ hM ⟨callB_of n hts (q_goodc m1) rfl rfl rfl (hts _ k4) (hts _ k1) k6 (q_rm C.2.2.2.2.2.1 C.2.2.2.2.2.2.1 m2 hdd 0 0), hts _ k2⟩ ⟨qP_blind, qP_pre C e b (fun h => absurd rfl h)⟩ rfl hn c.1 rfl (lv_room hst) hd hkc
theorem y_callSN {idx n : Nat} (C : qC X G cc nL own d) (hd : qd cc pc (.invokestatic idx) 3 pc') (hk : qcSN own idx y n) (hM : Ct X.2.1 G y d' As h r h') (hs : sk = As.reverse ++ st) (hn : As.length = n) (hdd : d' + 1 ≤ d) (hst : (st.map fun v => v.category).sum ≤ 8) (hkc : kc ≤ X.2.2.2.1.cells ∧ ks ≤ X.2.2.2.1.slots) (k : Y X G nL kc ks pc' lv (r.toList ++ st) h') : Y X G nL kc ks pc lv sk h := by
  obtain ⟨hd, rfl⟩ := hd
  subst hs
  obtain ⟨⟨host, k1⟩, k2, k4, k6⟩ := hk
  obtain ⟨bytes, maxL, ret, m1, m2, hM⟩ := hM
  have hts := C.2.2.2.2.1
  intro H locs ls e b c
  refine y_run (mc := 0) (ms := 0) (arr := As.toArray) b c ?_ k
  exact va_runSN (Ts := lwg) ⟨C.1, C.2.1, C.2.2.1, C.2.2.2.1, hts⟩ hM ⟨va_cnB n hts (q_goodc m1) rfl rfl rfl (C.2.2.2.2.2.2.2.1.2.1 _ k1) (hts _ k4) k6 (q_rm C.2.2.2.2.2.1 C.2.2.2.2.2.2.1 m2 hdd 0 0), hts _ k2, trivial⟩ ⟨qP_blind, qP_pre C e b (fun h => absurd rfl h)⟩ rfl hn c.1 rfl (lv_room hst) hd hkc
/-- the heap's size, by the count of the cells -/
theorem y_size {H : Heap} {locs : List Loc} {g : JFrame} (hz : X.2.2.2.2.1.heap.size + kc = G.2 4 + h.length) (hne : h ≠ []) (k : qH G h H → H.size = G.2 4 + h.length → W X.1 X.2.1 X.2.2.1 X.2.2.2.1 X.2.2.2.2.1 X.2.2.2.2.2.1 X.2.2.2.2.2.2.1 X.2.2.2.2.2.2.2.1 X.2.2.2.2.2.2.2.2.1 X.2.2.2.2.2.2.2.2.2.1 H locs kc ks X.2.2.2.2.2.2.2.2.2.2 g) (e : qH G h H) : W X.1 X.2.1 X.2.2.1 X.2.2.2.1 X.2.2.2.2.1 X.2.2.2.2.2.1 X.2.2.2.2.2.2.1 X.2.2.2.2.2.2.2.1 X.2.2.2.2.2.2.2.2.1 X.2.2.2.2.2.2.2.2.2.1 H locs kc ks X.2.2.2.2.2.2.2.2.2.2 g := by
  intro T hT Z
  have h1 := Z.heapSize
  rw [hT] at h1
  have h2 := (qH_le e).resolve_left hne
  exact k e (by omega) T hT Z
end
end
section
theorem tb0 {w : Cond} (h : w ∈ k2_sels lw_privs) : w ∈ lw_tbl := List.mem_append_left _ h
theorem tb9 {w : Cond} (h : w ∈ tables_1) : w ∈ lw_tbl := List.mem_append_right _ h
theorem tc1 {w : Cond} (h : w ∈ tables_1_1) : w ∈ tables_1 := List.mem_append_left _ h
theorem tc2 {w : Cond} (h : w ∈ tables_1_2) : w ∈ tables_1 := List.mem_append_right _ (List.mem_append_left _ h)
theorem tc3 {w : Cond} (h : w ∈ tables_1_3) : w ∈ tables_1 := List.mem_append_right _ (List.mem_append_right _ (List.mem_append_left _ h))
theorem tc4 {w : Cond} (h : w ∈ tables_1_4) : w ∈ tables_1 := List.mem_append_right _ (List.mem_append_right _ (List.mem_append_right _ (List.mem_append_left _ h)))
theorem tc5 {w : Cond} (h : w ∈ tables_1_5) : w ∈ tables_1 := List.mem_append_right _ (List.mem_append_right _ (List.mem_append_right _ (List.mem_append_right _ h)))
theorem tb1 {w : Cond} (h : w ∈ tables_1_1) : w ∈ lw_tbl := tb9 (tc1 h)
theorem tb2 {w : Cond} (h : w ∈ tables_1_2) : w ∈ lw_tbl := tb9 (tc2 h)
theorem tb3 {w : Cond} (h : w ∈ tables_1_3) : w ∈ lw_tbl := tb9 (tc3 h)
theorem tb4 {w : Cond} (h : w ∈ tables_1_4) : w ∈ lw_tbl := tb9 (tc4 h)
theorem tb5 {w : Cond} (h : w ∈ tables_1_5) : w ∈ lw_tbl := tb9 (tc5 h)
theorem iw_X0 : ∀ w ∈ u_ws RX0 TX0 2, w ∈ lwg := by
  show ∀ w ∈ ([u_lay RX0 TX0 0, u_lay RX0 TX0 1] : List Cond), w ∈ lwg
  exact (List.forall_mem_cons.mpr ⟨(lwg_of (tb1 (List.mem_of_getElem? (i := 172) rfl)) rfl), (List.forall_mem_cons.mpr ⟨(lwg_of (tb1 (List.mem_of_getElem? (i := 174) rfl)) rfl), (fun _ h => absurd h List.not_mem_nil) ⟩)⟩)
theorem iw_X1 : ∀ w ∈ u_ws RX1 TX1 3, w ∈ lwg := by
  show ∀ w ∈ ([u_lay RX1 TX1 0, u_lay RX1 TX1 1, u_lay RX1 TX1 2] : List Cond), w ∈ lwg
  exact (List.forall_mem_cons.mpr ⟨(lwg_of (tb1 (List.mem_of_getElem? (i := 132) rfl)) rfl), (List.forall_mem_cons.mpr ⟨(lwg_of (tb1 (List.mem_of_getElem? (i := 134) rfl)) rfl), (List.forall_mem_cons.mpr ⟨(lwg_of (tb1 (List.mem_of_getElem? (i := 136) rfl)) rfl), (fun _ h => absurd h List.not_mem_nil) ⟩)⟩) ⟩)
theorem iw_X2 : ∀ w ∈ u_ws RX2 TX2 3, w ∈ lwg := by
  show ∀ w ∈ ([u_lay RX2 TX2 0, u_lay RX2 TX2 1, u_lay RX2 TX2 2] : List Cond), w ∈ lwg
  exact (List.forall_mem_cons.mpr ⟨(lwg_of (tb1 (List.mem_of_getElem? (i := 189) rfl)) rfl), (List.forall_mem_cons.mpr ⟨(lwg_of (tb1 (List.mem_of_getElem? (i := 191) rfl)) rfl), (List.forall_mem_cons.mpr ⟨(lwg_of (tb1 (List.mem_of_getElem? (i := 193) rfl)) rfl), (fun _ h => absurd h List.not_mem_nil) ⟩)⟩) ⟩)
theorem iw_X3 : ∀ w ∈ u_ws RX3 TX3 4, w ∈ lwg := by
  show ∀ w ∈ ([u_lay RX3 TX3 0, u_lay RX3 TX3 1, u_lay RX3 TX3 2, u_lay RX3 TX3 3] : List Cond), w ∈ lwg
  exact (List.forall_mem_cons.mpr ⟨(lwg_of (tb1 (List.mem_of_getElem? (i := 153) rfl)) rfl), (List.forall_mem_cons.mpr ⟨(lwg_of (tb1 (List.mem_of_getElem? (i := 155) rfl)) rfl), (List.forall_mem_cons.mpr ⟨(lwg_of (tb1 (List.mem_of_getElem? (i := 157) rfl)) rfl), (List.forall_mem_cons.mpr ⟨(lwg_of (tb1 (List.mem_of_getElem? (i := 159) rfl)) rfl), (fun _ h => absurd h List.not_mem_nil) ⟩)⟩) ⟩)⟩)
theorem iw_X4 : ∀ w ∈ u_ws RX4 TX4 9, w ∈ lwg := by
  show ∀ w ∈ ([u_lay RX4 TX4 0, u_lay RX4 TX4 1, u_lay RX4 TX4 2, u_lay RX4 TX4 3, u_lay RX4 TX4 4, u_lay RX4 TX4 5, u_lay RX4 TX4 6, u_lay RX4 TX4 7, u_lay RX4 TX4 8] : List Cond), w ∈ lwg
  exact (List.forall_mem_cons.mpr ⟨(lwg_of (tb1 (List.mem_of_getElem? (i := 98) rfl)) rfl), (List.forall_mem_cons.mpr ⟨(lwg_of (tb1 (List.mem_of_getElem? (i := 100) rfl)) rfl), (List.forall_mem_cons.mpr ⟨(lwg_of (tb1 (List.mem_of_getElem? (i := 102) rfl)) rfl), (List.forall_mem_cons.mpr ⟨(lwg_of (tb1 (List.mem_of_getElem? (i := 104) rfl)) rfl), (List.forall_mem_cons.mpr ⟨(lwg_of (tb1 (List.mem_of_getElem? (i := 106) rfl)) rfl), (List.forall_mem_cons.mpr ⟨(lwg_of (tb1 (List.mem_of_getElem? (i := 108) rfl)) rfl), (List.forall_mem_cons.mpr ⟨(lwg_of (tb1 (List.mem_of_getElem? (i := 110) rfl)) rfl), (List.forall_mem_cons.mpr ⟨(lwg_of (tb1 (List.mem_of_getElem? (i := 112) rfl)) rfl), (List.forall_mem_cons.mpr ⟨(lwg_of (tb1 (List.mem_of_getElem? (i := 114) rfl)) rfl), (fun _ h => absurd h List.not_mem_nil) ⟩)⟩) ⟩)⟩) ⟩)⟩) ⟩)⟩) ⟩)
theorem iw_X5 : ∀ w ∈ u_ws RX5 TX5 10, w ∈ lwg := by
  show ∀ w ∈ ([u_lay RX5 TX5 0, u_lay RX5 TX5 1, u_lay RX5 TX5 2, u_lay RX5 TX5 3, u_lay RX5 TX5 4, u_lay RX5 TX5 5, u_lay RX5 TX5 6, u_lay RX5 TX5 7, u_lay RX5 TX5 8, u_lay RX5 TX5 9] : List Cond), w ∈ lwg
  exact (List.forall_mem_cons.mpr ⟨(lwg_of (tb1 (List.mem_of_getElem? (i := 64) rfl)) rfl), (List.forall_mem_cons.mpr ⟨(lwg_of (tb1 (List.mem_of_getElem? (i := 66) rfl)) rfl), (List.forall_mem_cons.mpr ⟨(lwg_of (tb1 (List.mem_of_getElem? (i := 68) rfl)) rfl), (List.forall_mem_cons.mpr ⟨(lwg_of (tb1 (List.mem_of_getElem? (i := 70) rfl)) rfl), (List.forall_mem_cons.mpr ⟨(lwg_of (tb1 (List.mem_of_getElem? (i := 72) rfl)) rfl), (List.forall_mem_cons.mpr ⟨(lwg_of (tb1 (List.mem_of_getElem? (i := 74) rfl)) rfl), (List.forall_mem_cons.mpr ⟨(lwg_of (tb1 (List.mem_of_getElem? (i := 76) rfl)) rfl), (List.forall_mem_cons.mpr ⟨(lwg_of (tb1 (List.mem_of_getElem? (i := 78) rfl)) rfl), (List.forall_mem_cons.mpr ⟨(lwg_of (tb1 (List.mem_of_getElem? (i := 80) rfl)) rfl), (List.forall_mem_cons.mpr ⟨(lwg_of (tb1 (List.mem_of_getElem? (i := 82) rfl)) rfl), (fun _ h => absurd h List.not_mem_nil) ⟩)⟩) ⟩)⟩) ⟩)⟩) ⟩)⟩) ⟩)⟩)
theorem iw_X6 : ∀ w ∈ u_ws RX6 TX6 8, w ∈ lwg := by
  show ∀ w ∈ ([u_lay RX6 TX6 0, u_lay RX6 TX6 1, u_lay RX6 TX6 2, u_lay RX6 TX6 3, u_lay RX6 TX6 4, u_lay RX6 TX6 5, u_lay RX6 TX6 6, u_lay RX6 TX6 7] : List Cond), w ∈ lwg
  exact (List.forall_mem_cons.mpr ⟨(lwg_of (tb1 (List.mem_of_getElem? (i := 204) rfl)) rfl), (List.forall_mem_cons.mpr ⟨(lwg_of (tb1 (List.mem_of_getElem? (i := 206) rfl)) rfl), (List.forall_mem_cons.mpr ⟨(lwg_of (tb1 (List.mem_of_getElem? (i := 208) rfl)) rfl), (List.forall_mem_cons.mpr ⟨(lwg_of (tb1 (List.mem_of_getElem? (i := 210) rfl)) rfl), (List.forall_mem_cons.mpr ⟨(lwg_of (tb1 (List.mem_of_getElem? (i := 212) rfl)) rfl), (List.forall_mem_cons.mpr ⟨(lwg_of (tb1 (List.mem_of_getElem? (i := 214) rfl)) rfl), (List.forall_mem_cons.mpr ⟨(lwg_of (tb1 (List.mem_of_getElem? (i := 216) rfl)) rfl), (List.forall_mem_cons.mpr ⟨(lwg_of (tb1 (List.mem_of_getElem? (i := 218) rfl)) rfl), (fun _ h => absurd h List.not_mem_nil) ⟩)⟩) ⟩)⟩) ⟩)⟩) ⟩)⟩)
theorem iw_X7 : ∀ w ∈ u_ws RX7 TX7 25, w ∈ lwg := by
  show ∀ w ∈ ([u_lay RX7 TX7 0, u_lay RX7 TX7 1, u_lay RX7 TX7 2, u_lay RX7 TX7 3, u_lay RX7 TX7 4, u_lay RX7 TX7 5, u_lay RX7 TX7 6, u_lay RX7 TX7 7, u_lay RX7 TX7 8, u_lay RX7 TX7 9, u_lay RX7 TX7 10, u_lay RX7 TX7 11, u_lay RX7 TX7 12, u_lay RX7 TX7 13, u_lay RX7 TX7 14, u_lay RX7 TX7 15, u_lay RX7 TX7 16, u_lay RX7 TX7 17, u_lay RX7 TX7 18, u_lay RX7 TX7 19, u_lay RX7 TX7 20, u_lay RX7 TX7 21, u_lay RX7 TX7 22, u_lay RX7 TX7 23, u_lay RX7 TX7 24] : List Cond), w ∈ lwg
  exact (List.forall_mem_cons.mpr ⟨(lwg_of (tb4 (List.mem_of_getElem? (i := 18) rfl)) rfl), (List.forall_mem_cons.mpr ⟨(lwg_of (tb4 (List.mem_of_getElem? (i := 20) rfl)) rfl), (List.forall_mem_cons.mpr ⟨(lwg_of (tb4 (List.mem_of_getElem? (i := 22) rfl)) rfl), (List.forall_mem_cons.mpr ⟨(lwg_of (tb4 (List.mem_of_getElem? (i := 24) rfl)) rfl), (List.forall_mem_cons.mpr ⟨(lwg_of (tb4 (List.mem_of_getElem? (i := 26) rfl)) rfl), (List.forall_mem_cons.mpr ⟨(lwg_of (tb4 (List.mem_of_getElem? (i := 28) rfl)) rfl), (List.forall_mem_cons.mpr ⟨(lwg_of (tb4 (List.mem_of_getElem? (i := 30) rfl)) rfl), (List.forall_mem_cons.mpr ⟨(lwg_of (tb4 (List.mem_of_getElem? (i := 32) rfl)) rfl), (List.forall_mem_cons.mpr ⟨(lwg_of (tb4 (List.mem_of_getElem? (i := 34) rfl)) rfl), (List.forall_mem_cons.mpr ⟨(lwg_of (tb4 (List.mem_of_getElem? (i := 36) rfl)) rfl), (List.forall_mem_cons.mpr ⟨(lwg_of (tb4 (List.mem_of_getElem? (i := 38) rfl)) rfl), (List.forall_mem_cons.mpr ⟨(lwg_of (tb4 (List.mem_of_getElem? (i := 40) rfl)) rfl), (List.forall_mem_cons.mpr ⟨(lwg_of (tb4 (List.mem_of_getElem? (i := 42) rfl)) rfl), (List.forall_mem_cons.mpr ⟨(lwg_of (tb4 (List.mem_of_getElem? (i := 44) rfl)) rfl), (List.forall_mem_cons.mpr ⟨(lwg_of (tb4 (List.mem_of_getElem? (i := 46) rfl)) rfl), (List.forall_mem_cons.mpr ⟨(lwg_of (tb4 (List.mem_of_getElem? (i := 48) rfl)) rfl), (List.forall_mem_cons.mpr ⟨(lwg_of (tb4 (List.mem_of_getElem? (i := 50) rfl)) rfl), (List.forall_mem_cons.mpr ⟨(lwg_of (tb4 (List.mem_of_getElem? (i := 52) rfl)) rfl), (List.forall_mem_cons.mpr ⟨(lwg_of (tb4 (List.mem_of_getElem? (i := 54) rfl)) rfl), (List.forall_mem_cons.mpr ⟨(lwg_of (tb4 (List.mem_of_getElem? (i := 56) rfl)) rfl), (List.forall_mem_cons.mpr ⟨(lwg_of (tb4 (List.mem_of_getElem? (i := 58) rfl)) rfl), (List.forall_mem_cons.mpr ⟨(lwg_of (tb4 (List.mem_of_getElem? (i := 60) rfl)) rfl), (List.forall_mem_cons.mpr ⟨(lwg_of (tb4 (List.mem_of_getElem? (i := 62) rfl)) rfl), (List.forall_mem_cons.mpr ⟨(lwg_of (tb4 (List.mem_of_getElem? (i := 64) rfl)) rfl), (List.forall_mem_cons.mpr ⟨(lwg_of (tb4 (List.mem_of_getElem? (i := 66) rfl)) rfl), (fun _ h => absurd h List.not_mem_nil) ⟩)⟩) ⟩)⟩) ⟩)⟩) ⟩)⟩) ⟩)⟩) ⟩)⟩) ⟩)⟩) ⟩)⟩) ⟩)⟩) ⟩)⟩) ⟩)⟩) ⟩)⟩) ⟩)
theorem lk_L_9 : qcI RL 9 yX6_init 0 := ⟨(lwg_of (tb1 (List.mem_of_getElem? (i := 14) rfl)) rfl), (lwg_of (tb1 (List.mem_of_getElem? (i := 15) rfl)) rfl), (lwg_of (tb1 (List.mem_of_getElem? (i := 1) rfl)) rfl), rfl, ⟨by decide, by decide, rfl⟩⟩
theorem lk_L_12 : qcI RL 12 yX7_init 0 := ⟨(lwg_of (tb3 (List.mem_of_getElem? (i := 229) rfl)) rfl), (lwg_of (tb3 (List.mem_of_getElem? (i := 230) rfl)) rfl), (lwg_of (tb1 (List.mem_of_getElem? (i := 8) rfl)) rfl), rfl, ⟨by decide, by decide, rfl⟩⟩
theorem lk_L_13 : qcV RL 13 yX6_row 6 3 := ⟨(lwg_of (tb1 (List.mem_of_getElem? (i := 221) rfl)) rfl), (lwg_of (tb1 (List.mem_of_getElem? (i := 222) rfl)) rfl), (lwg_of (tb1 (List.mem_of_getElem? (i := 223) rfl)) rfl), (lwg_of (tb1 (List.mem_of_getElem? (i := 1) rfl)) rfl), ⟨_, _, rfl⟩, ⟨by decide, by decide, rfl⟩⟩
theorem lk_L_17 : qcV RL 17 yX7_row 7 3 := ⟨(lwg_of (tb4 (List.mem_of_getElem? (i := 70) rfl)) rfl), (lwg_of (tb4 (List.mem_of_getElem? (i := 71) rfl)) rfl), (lwg_of (tb4 (List.mem_of_getElem? (i := 72) rfl)) rfl), (lwg_of (tb1 (List.mem_of_getElem? (i := 8) rfl)) rfl), ⟨_, _, rfl⟩, ⟨by decide, by decide, rfl⟩⟩
theorem lk_L_18 : qcV RL 18 yX6_set 6 3 := ⟨(lwg_of (tb2 (List.mem_of_getElem? (i := 5) rfl)) rfl), (lwg_of (tb2 (List.mem_of_getElem? (i := 6) rfl)) rfl), (lwg_of (tb2 (List.mem_of_getElem? (i := 7) rfl)) rfl), (lwg_of (tb1 (List.mem_of_getElem? (i := 1) rfl)) rfl), ⟨_, _, rfl⟩, ⟨by decide, by decide, rfl⟩⟩
theorem lk_L_21 : qcV RL 21 yX7_set 7 3 := ⟨(lwg_of (tb4 (List.mem_of_getElem? (i := 92) rfl)) rfl), (lwg_of (tb4 (List.mem_of_getElem? (i := 93) rfl)) rfl), (lwg_of (tb4 (List.mem_of_getElem? (i := 94) rfl)) rfl), (lwg_of (tb1 (List.mem_of_getElem? (i := 8) rfl)) rfl), ⟨_, _, rfl⟩, ⟨by decide, by decide, rfl⟩⟩
theorem lk_L_22 : qcV RL 22 yX6_copy 6 5 := ⟨(lwg_of (tb2 (List.mem_of_getElem? (i := 25) rfl)) rfl), (lwg_of (tb2 (List.mem_of_getElem? (i := 26) rfl)) rfl), (lwg_of (tb2 (List.mem_of_getElem? (i := 27) rfl)) rfl), (lwg_of (tb1 (List.mem_of_getElem? (i := 1) rfl)) rfl), ⟨_, _, rfl⟩, ⟨by decide, by decide, rfl⟩⟩
theorem lk_L_26 : qcV RL 26 yX7_copy 7 5 := ⟨(lwg_of (tb4 (List.mem_of_getElem? (i := 99) rfl)) rfl), (lwg_of (tb4 (List.mem_of_getElem? (i := 100) rfl)) rfl), (lwg_of (tb4 (List.mem_of_getElem? (i := 101) rfl)) rfl), (lwg_of (tb1 (List.mem_of_getElem? (i := 8) rfl)) rfl), ⟨_, _, rfl⟩, ⟨by decide, by decide, rfl⟩⟩
theorem lk_L_27 : qcV RL 27 yX6_drop 6 1 := ⟨(lwg_of (tb2 (List.mem_of_getElem? (i := 34) rfl)) rfl), (lwg_of (tb2 (List.mem_of_getElem? (i := 35) rfl)) rfl), (lwg_of (tb2 (List.mem_of_getElem? (i := 36) rfl)) rfl), (lwg_of (tb1 (List.mem_of_getElem? (i := 1) rfl)) rfl), ⟨_, _, rfl⟩, ⟨by decide, by decide, rfl⟩⟩
theorem lk_L_31 : qcV RL 31 yX7_drop 7 1 := ⟨(lwg_of (tb4 (List.mem_of_getElem? (i := 103) rfl)) rfl), (lwg_of (tb4 (List.mem_of_getElem? (i := 104) rfl)) rfl), (lwg_of (tb4 (List.mem_of_getElem? (i := 105) rfl)) rfl), (lwg_of (tb1 (List.mem_of_getElem? (i := 8) rfl)) rfl), ⟨_, _, rfl⟩, ⟨by decide, by decide, rfl⟩⟩
theorem lk_L_32 : qcV RL 32 yX6_feed 6 1 := ⟨(lwg_of (tb2 (List.mem_of_getElem? (i := 38) rfl)) rfl), (lwg_of (tb2 (List.mem_of_getElem? (i := 39) rfl)) rfl), (lwg_of (tb2 (List.mem_of_getElem? (i := 40) rfl)) rfl), (lwg_of (tb1 (List.mem_of_getElem? (i := 1) rfl)) rfl), ⟨_, _, rfl⟩, ⟨by decide, by decide, rfl⟩⟩
theorem lk_L_35 : qcV RL 35 yX7_feed 7 1 := ⟨(lwg_of (tb4 (List.mem_of_getElem? (i := 107) rfl)) rfl), (lwg_of (tb4 (List.mem_of_getElem? (i := 108) rfl)) rfl), (lwg_of (tb4 (List.mem_of_getElem? (i := 109) rfl)) rfl), (lwg_of (tb1 (List.mem_of_getElem? (i := 8) rfl)) rfl), ⟨_, _, rfl⟩, ⟨by decide, by decide, rfl⟩⟩
theorem lk_L_36 : qcV RL 36 yX6_yard 6 0 := ⟨(lwg_of (tb2 (List.mem_of_getElem? (i := 47) rfl)) rfl), (lwg_of (tb2 (List.mem_of_getElem? (i := 48) rfl)) rfl), (lwg_of (tb2 (List.mem_of_getElem? (i := 49) rfl)) rfl), (lwg_of (tb1 (List.mem_of_getElem? (i := 1) rfl)) rfl), ⟨_, _, rfl⟩, ⟨by decide, by decide, rfl⟩⟩
theorem lk_L_40 : qcV RL 40 yX7_yard 7 0 := ⟨(lwg_of (tb4 (List.mem_of_getElem? (i := 113) rfl)) rfl), (lwg_of (tb4 (List.mem_of_getElem? (i := 114) rfl)) rfl), (lwg_of (tb4 (List.mem_of_getElem? (i := 115) rfl)) rfl), (lwg_of (tb1 (List.mem_of_getElem? (i := 8) rfl)) rfl), ⟨_, _, rfl⟩, ⟨by decide, by decide, rfl⟩⟩
theorem lk_L_41 : qcV RL 41 yX6_fault 6 0 := ⟨(lwg_of (tb2 (List.mem_of_getElem? (i := 118) rfl)) rfl), (lwg_of (tb2 (List.mem_of_getElem? (i := 119) rfl)) rfl), (lwg_of (tb2 (List.mem_of_getElem? (i := 120) rfl)) rfl), (lwg_of (tb1 (List.mem_of_getElem? (i := 1) rfl)) rfl), ⟨_, _, rfl⟩, ⟨by decide, by decide, rfl⟩⟩
theorem lk_L_44 : qcV RL 44 yX7_fault 7 0 := ⟨(lwg_of (tb4 (List.mem_of_getElem? (i := 150) rfl)) rfl), (lwg_of (tb4 (List.mem_of_getElem? (i := 151) rfl)) rfl), (lwg_of (tb4 (List.mem_of_getElem? (i := 152) rfl)) rfl), (lwg_of (tb1 (List.mem_of_getElem? (i := 8) rfl)) rfl), ⟨_, _, rfl⟩, ⟨by decide, by decide, rfl⟩⟩
theorem lk_L_45 : qcV RL 45 yX6_undo 6 0 := ⟨(lwg_of (tb2 (List.mem_of_getElem? (i := 122) rfl)) rfl), (lwg_of (tb2 (List.mem_of_getElem? (i := 123) rfl)) rfl), (lwg_of (tb2 (List.mem_of_getElem? (i := 124) rfl)) rfl), (lwg_of (tb1 (List.mem_of_getElem? (i := 1) rfl)) rfl), ⟨_, _, rfl⟩, ⟨by decide, by decide, rfl⟩⟩
theorem lk_L_48 : qcV RL 48 yX7_undo 7 0 := ⟨(lwg_of (tb4 (List.mem_of_getElem? (i := 154) rfl)) rfl), (lwg_of (tb4 (List.mem_of_getElem? (i := 155) rfl)) rfl), (lwg_of (tb4 (List.mem_of_getElem? (i := 156) rfl)) rfl), (lwg_of (tb1 (List.mem_of_getElem? (i := 8) rfl)) rfl), ⟨_, _, rfl⟩, ⟨by decide, by decide, rfl⟩⟩
theorem lk_L_49 : qcV RL 49 yX6_years 6 1 := ⟨(lwg_of (tb2 (List.mem_of_getElem? (i := 132) rfl)) rfl), (lwg_of (tb2 (List.mem_of_getElem? (i := 133) rfl)) rfl), (lwg_of (tb2 (List.mem_of_getElem? (i := 134) rfl)) rfl), (lwg_of (tb1 (List.mem_of_getElem? (i := 1) rfl)) rfl), ⟨_, _, rfl⟩, ⟨by decide, by decide, rfl⟩⟩
theorem lk_L_52 : qcV RL 52 yX7_years 7 1 := ⟨(lwg_of (tb4 (List.mem_of_getElem? (i := 159) rfl)) rfl), (lwg_of (tb4 (List.mem_of_getElem? (i := 160) rfl)) rfl), (lwg_of (tb4 (List.mem_of_getElem? (i := 161) rfl)) rfl), (lwg_of (tb1 (List.mem_of_getElem? (i := 8) rfl)) rfl), ⟨_, _, rfl⟩, ⟨by decide, by decide, rfl⟩⟩
theorem lk_L_53 : qcV RL 53 yX6_supper 6 1 := ⟨(lwg_of (tb2 (List.mem_of_getElem? (i := 198) rfl)) rfl), (lwg_of (tb2 (List.mem_of_getElem? (i := 199) rfl)) rfl), (lwg_of (tb2 (List.mem_of_getElem? (i := 200) rfl)) rfl), (lwg_of (tb1 (List.mem_of_getElem? (i := 1) rfl)) rfl), ⟨_, _, rfl⟩, ⟨by decide, by decide, rfl⟩⟩
theorem lk_L_56 : qcV RL 56 yX7_supper 7 1 := ⟨(lwg_of (tb4 (List.mem_of_getElem? (i := 195) rfl)) rfl), (lwg_of (tb4 (List.mem_of_getElem? (i := 196) rfl)) rfl), (lwg_of (tb4 (List.mem_of_getElem? (i := 197) rfl)) rfl), (lwg_of (tb1 (List.mem_of_getElem? (i := 8) rfl)) rfl), ⟨_, _, rfl⟩, ⟨by decide, by decide, rfl⟩⟩
theorem lk_L_57 : qcV RL 57 yX6_fever 6 1 := ⟨(lwg_of (tb2 (List.mem_of_getElem? (i := 214) rfl)) rfl), (lwg_of (tb2 (List.mem_of_getElem? (i := 215) rfl)) rfl), (lwg_of (tb2 (List.mem_of_getElem? (i := 216) rfl)) rfl), (lwg_of (tb1 (List.mem_of_getElem? (i := 1) rfl)) rfl), ⟨_, _, rfl⟩, ⟨by decide, by decide, rfl⟩⟩
theorem lk_L_60 : qcV RL 60 yX7_fever 7 1 := ⟨(lwg_of (tb4 (List.mem_of_getElem? (i := 210) rfl)) rfl), (lwg_of (tb4 (List.mem_of_getElem? (i := 211) rfl)) rfl), (lwg_of (tb4 (List.mem_of_getElem? (i := 212) rfl)) rfl), (lwg_of (tb1 (List.mem_of_getElem? (i := 8) rfl)) rfl), ⟨_, _, rfl⟩, ⟨by decide, by decide, rfl⟩⟩
theorem lk_L_61 : qcV RL 61 yX6_tell 6 2 := ⟨(lwg_of (tb2 (List.mem_of_getElem? (i := 219) rfl)) rfl), (lwg_of (tb2 (List.mem_of_getElem? (i := 220) rfl)) rfl), (lwg_of (tb2 (List.mem_of_getElem? (i := 221) rfl)) rfl), (lwg_of (tb1 (List.mem_of_getElem? (i := 1) rfl)) rfl), ⟨_, _, rfl⟩, ⟨by decide, by decide, rfl⟩⟩
theorem lk_L_65 : qcV RL 65 yX7_tell 7 2 := ⟨(lwg_of (tb4 (List.mem_of_getElem? (i := 214) rfl)) rfl), (lwg_of (tb4 (List.mem_of_getElem? (i := 215) rfl)) rfl), (lwg_of (tb4 (List.mem_of_getElem? (i := 216) rfl)) rfl), (lwg_of (tb1 (List.mem_of_getElem? (i := 8) rfl)) rfl), ⟨_, _, rfl⟩, ⟨by decide, by decide, rfl⟩⟩
theorem lk_L_66 : qcV RL 66 yX6_bury 6 2 := ⟨(lwg_of (tb2 (List.mem_of_getElem? (i := 232) rfl)) rfl), (lwg_of (tb2 (List.mem_of_getElem? (i := 233) rfl)) rfl), (lwg_of (tb2 (List.mem_of_getElem? (i := 234) rfl)) rfl), (lwg_of (tb1 (List.mem_of_getElem? (i := 1) rfl)) rfl), ⟨_, _, rfl⟩, ⟨by decide, by decide, rfl⟩⟩
theorem lk_L_69 : qcV RL 69 yX7_bury 7 2 := ⟨(lwg_of (tb4 (List.mem_of_getElem? (i := 222) rfl)) rfl), (lwg_of (tb4 (List.mem_of_getElem? (i := 223) rfl)) rfl), (lwg_of (tb4 (List.mem_of_getElem? (i := 224) rfl)) rfl), (lwg_of (tb1 (List.mem_of_getElem? (i := 8) rfl)) rfl), ⟨_, _, rfl⟩, ⟨by decide, by decide, rfl⟩⟩
theorem lk_L_70 : qcV RL 70 yX6_sleeper 6 2 := ⟨(lwg_of (tb2 (List.mem_of_getElem? (i := 236) rfl)) rfl), (lwg_of (tb2 (List.mem_of_getElem? (i := 237) rfl)) rfl), (lwg_of (tb2 (List.mem_of_getElem? (i := 238) rfl)) rfl), (lwg_of (tb1 (List.mem_of_getElem? (i := 1) rfl)) rfl), ⟨_, _, rfl⟩, ⟨by decide, by decide, rfl⟩⟩
theorem lk_L_73 : qcV RL 73 yX7_sleeper 7 2 := ⟨(lwg_of (tb4 (List.mem_of_getElem? (i := 226) rfl)) rfl), (lwg_of (tb4 (List.mem_of_getElem? (i := 227) rfl)) rfl), (lwg_of (tb4 (List.mem_of_getElem? (i := 228) rfl)) rfl), (lwg_of (tb1 (List.mem_of_getElem? (i := 8) rfl)) rfl), ⟨_, _, rfl⟩, ⟨by decide, by decide, rfl⟩⟩
theorem lk_L_74 : qcV RL 74 yX6_memory 6 2 := ⟨(lwg_of (tb3 (List.mem_of_getElem? (i := 5) rfl)) rfl), (lwg_of (tb3 (List.mem_of_getElem? (i := 6) rfl)) rfl), (lwg_of (tb3 (List.mem_of_getElem? (i := 7) rfl)) rfl), (lwg_of (tb1 (List.mem_of_getElem? (i := 1) rfl)) rfl), ⟨_, _, rfl⟩, ⟨by decide, by decide, rfl⟩⟩
theorem lk_L_77 : qcV RL 77 yX7_memory 7 2 := ⟨(lwg_of (tb4 (List.mem_of_getElem? (i := 234) rfl)) rfl), (lwg_of (tb4 (List.mem_of_getElem? (i := 235) rfl)) rfl), (lwg_of (tb4 (List.mem_of_getElem? (i := 236) rfl)) rfl), (lwg_of (tb1 (List.mem_of_getElem? (i := 8) rfl)) rfl), ⟨_, _, rfl⟩, ⟨by decide, by decide, rfl⟩⟩
theorem lk_L_78 : qcV RL 78 yX6_grave 6 2 := ⟨(lwg_of (tb3 (List.mem_of_getElem? (i := 9) rfl)) rfl), (lwg_of (tb3 (List.mem_of_getElem? (i := 10) rfl)) rfl), (lwg_of (tb3 (List.mem_of_getElem? (i := 11) rfl)) rfl), (lwg_of (tb1 (List.mem_of_getElem? (i := 1) rfl)) rfl), ⟨_, _, rfl⟩, ⟨by decide, by decide, rfl⟩⟩
theorem lk_L_81 : qcV RL 81 yX7_grave 7 2 := ⟨(lwg_of (tb4 (List.mem_of_getElem? (i := 238) rfl)) rfl), (lwg_of (tb4 (List.mem_of_getElem? (i := 239) rfl)) rfl), (lwg_of (tb5 (List.mem_of_getElem? (i := 0) rfl)) rfl), (lwg_of (tb1 (List.mem_of_getElem? (i := 8) rfl)) rfl), ⟨_, _, rfl⟩, ⟨by decide, by decide, rfl⟩⟩
theorem lk_L_82 : qcV RL 82 yX6_ahead 6 1 := ⟨(lwg_of (tb3 (List.mem_of_getElem? (i := 17) rfl)) rfl), (lwg_of (tb3 (List.mem_of_getElem? (i := 18) rfl)) rfl), (lwg_of (tb3 (List.mem_of_getElem? (i := 19) rfl)) rfl), (lwg_of (tb1 (List.mem_of_getElem? (i := 1) rfl)) rfl), ⟨_, _, rfl⟩, ⟨by decide, by decide, rfl⟩⟩
theorem lk_L_85 : qcV RL 85 yX7_ahead 7 1 := ⟨(lwg_of (tb5 (List.mem_of_getElem? (i := 2) rfl)) rfl), (lwg_of (tb5 (List.mem_of_getElem? (i := 3) rfl)) rfl), (lwg_of (tb5 (List.mem_of_getElem? (i := 4) rfl)) rfl), (lwg_of (tb1 (List.mem_of_getElem? (i := 8) rfl)) rfl), ⟨_, _, rfl⟩, ⟨by decide, by decide, rfl⟩⟩
theorem lk_L_86 : qcV RL 86 yX6_dug 6 1 := ⟨(lwg_of (tb3 (List.mem_of_getElem? (i := 31) rfl)) rfl), (lwg_of (tb3 (List.mem_of_getElem? (i := 32) rfl)) rfl), (lwg_of (tb3 (List.mem_of_getElem? (i := 33) rfl)) rfl), (lwg_of (tb1 (List.mem_of_getElem? (i := 1) rfl)) rfl), ⟨_, _, rfl⟩, ⟨by decide, by decide, rfl⟩⟩
theorem lk_L_89 : qcV RL 89 yX7_dug 7 1 := ⟨(lwg_of (tb5 (List.mem_of_getElem? (i := 15) rfl)) rfl), (lwg_of (tb5 (List.mem_of_getElem? (i := 16) rfl)) rfl), (lwg_of (tb5 (List.mem_of_getElem? (i := 17) rfl)) rfl), (lwg_of (tb1 (List.mem_of_getElem? (i := 8) rfl)) rfl), ⟨_, _, rfl⟩, ⟨by decide, by decide, rfl⟩⟩
theorem lk_L_90 : qcV RL 90 yX6_firstDug 6 0 := ⟨(lwg_of (tb3 (List.mem_of_getElem? (i := 42) rfl)) rfl), (lwg_of (tb3 (List.mem_of_getElem? (i := 43) rfl)) rfl), (lwg_of (tb3 (List.mem_of_getElem? (i := 44) rfl)) rfl), (lwg_of (tb1 (List.mem_of_getElem? (i := 1) rfl)) rfl), ⟨_, _, rfl⟩, ⟨by decide, by decide, rfl⟩⟩
theorem lk_L_93 : qcV RL 93 yX7_firstDug 7 0 := ⟨(lwg_of (tb5 (List.mem_of_getElem? (i := 28) rfl)) rfl), (lwg_of (tb5 (List.mem_of_getElem? (i := 29) rfl)) rfl), (lwg_of (tb5 (List.mem_of_getElem? (i := 30) rfl)) rfl), (lwg_of (tb1 (List.mem_of_getElem? (i := 8) rfl)) rfl), ⟨_, _, rfl⟩, ⟨by decide, by decide, rfl⟩⟩
theorem lk_L_94 : qcV RL 94 yX6_suppers 6 3 := ⟨(lwg_of (tb3 (List.mem_of_getElem? (i := 53) rfl)) rfl), (lwg_of (tb3 (List.mem_of_getElem? (i := 54) rfl)) rfl), (lwg_of (tb3 (List.mem_of_getElem? (i := 55) rfl)) rfl), (lwg_of (tb1 (List.mem_of_getElem? (i := 1) rfl)) rfl), ⟨_, _, rfl⟩, ⟨by decide, by decide, rfl⟩⟩
theorem lk_L_97 : qcV RL 97 yX7_suppers 7 3 := ⟨(lwg_of (tb5 (List.mem_of_getElem? (i := 32) rfl)) rfl), (lwg_of (tb5 (List.mem_of_getElem? (i := 33) rfl)) rfl), (lwg_of (tb5 (List.mem_of_getElem? (i := 34) rfl)) rfl), (lwg_of (tb1 (List.mem_of_getElem? (i := 8) rfl)) rfl), ⟨_, _, rfl⟩, ⟨by decide, by decide, rfl⟩⟩
theorem lk_L_98 : qcV RL 98 yX6_bound 6 1 := ⟨(lwg_of (tb3 (List.mem_of_getElem? (i := 70) rfl)) rfl), (lwg_of (tb3 (List.mem_of_getElem? (i := 71) rfl)) rfl), (lwg_of (tb3 (List.mem_of_getElem? (i := 72) rfl)) rfl), (lwg_of (tb1 (List.mem_of_getElem? (i := 1) rfl)) rfl), ⟨_, _, rfl⟩, ⟨by decide, by decide, rfl⟩⟩
theorem lk_L_101 : qcV RL 101 yX7_bound 7 1 := ⟨(lwg_of (tb5 (List.mem_of_getElem? (i := 49) rfl)) rfl), (lwg_of (tb5 (List.mem_of_getElem? (i := 50) rfl)) rfl), (lwg_of (tb5 (List.mem_of_getElem? (i := 51) rfl)) rfl), (lwg_of (tb1 (List.mem_of_getElem? (i := 8) rfl)) rfl), ⟨_, _, rfl⟩, ⟨by decide, by decide, rfl⟩⟩
theorem lk_L_102 : qcV RL 102 yX6_forgets 6 2 := ⟨(lwg_of (tb3 (List.mem_of_getElem? (i := 74) rfl)) rfl), (lwg_of (tb3 (List.mem_of_getElem? (i := 75) rfl)) rfl), (lwg_of (tb3 (List.mem_of_getElem? (i := 76) rfl)) rfl), (lwg_of (tb1 (List.mem_of_getElem? (i := 1) rfl)) rfl), ⟨_, _, rfl⟩, ⟨by decide, by decide, rfl⟩⟩
theorem lk_L_105 : qcV RL 105 yX7_forgets 7 2 := ⟨(lwg_of (tb5 (List.mem_of_getElem? (i := 53) rfl)) rfl), (lwg_of (tb5 (List.mem_of_getElem? (i := 54) rfl)) rfl), (lwg_of (tb5 (List.mem_of_getElem? (i := 55) rfl)) rfl), (lwg_of (tb1 (List.mem_of_getElem? (i := 8) rfl)) rfl), ⟨_, _, rfl⟩, ⟨by decide, by decide, rfl⟩⟩
theorem lk_L_106 : qcV RL 106 yX6_most 6 2 := ⟨(lwg_of (tb3 (List.mem_of_getElem? (i := 84) rfl)) rfl), (lwg_of (tb3 (List.mem_of_getElem? (i := 85) rfl)) rfl), (lwg_of (tb3 (List.mem_of_getElem? (i := 86) rfl)) rfl), (lwg_of (tb1 (List.mem_of_getElem? (i := 1) rfl)) rfl), ⟨_, _, rfl⟩, ⟨by decide, by decide, rfl⟩⟩
theorem lk_L_109 : qcV RL 109 yX7_most 7 2 := ⟨(lwg_of (tb5 (List.mem_of_getElem? (i := 57) rfl)) rfl), (lwg_of (tb5 (List.mem_of_getElem? (i := 58) rfl)) rfl), (lwg_of (tb5 (List.mem_of_getElem? (i := 59) rfl)) rfl), (lwg_of (tb1 (List.mem_of_getElem? (i := 8) rfl)) rfl), ⟨_, _, rfl⟩, ⟨by decide, by decide, rfl⟩⟩
theorem lk_L_110 : qcV RL 110 yX6_pair 6 2 := ⟨(lwg_of (tb3 (List.mem_of_getElem? (i := 89) rfl)) rfl), (lwg_of (tb3 (List.mem_of_getElem? (i := 90) rfl)) rfl), (lwg_of (tb3 (List.mem_of_getElem? (i := 91) rfl)) rfl), (lwg_of (tb1 (List.mem_of_getElem? (i := 1) rfl)) rfl), ⟨_, _, rfl⟩, ⟨by decide, by decide, rfl⟩⟩
theorem lk_L_113 : qcV RL 113 yX7_pair 7 2 := ⟨(lwg_of (tb5 (List.mem_of_getElem? (i := 61) rfl)) rfl), (lwg_of (tb5 (List.mem_of_getElem? (i := 62) rfl)) rfl), (lwg_of (tb5 (List.mem_of_getElem? (i := 63) rfl)) rfl), (lwg_of (tb1 (List.mem_of_getElem? (i := 8) rfl)) rfl), ⟨_, _, rfl⟩, ⟨by decide, by decide, rfl⟩⟩
theorem lk_L_114 : qcV RL 114 yX6_who 6 4 := ⟨(lwg_of (tb3 (List.mem_of_getElem? (i := 93) rfl)) rfl), (lwg_of (tb3 (List.mem_of_getElem? (i := 94) rfl)) rfl), (lwg_of (tb3 (List.mem_of_getElem? (i := 95) rfl)) rfl), (lwg_of (tb1 (List.mem_of_getElem? (i := 1) rfl)) rfl), ⟨_, _, rfl⟩, ⟨by decide, by decide, rfl⟩⟩
theorem lk_L_118 : qcV RL 118 yX7_who 7 4 := ⟨(lwg_of (tb5 (List.mem_of_getElem? (i := 65) rfl)) rfl), (lwg_of (tb5 (List.mem_of_getElem? (i := 66) rfl)) rfl), (lwg_of (tb5 (List.mem_of_getElem? (i := 67) rfl)) rfl), (lwg_of (tb1 (List.mem_of_getElem? (i := 8) rfl)) rfl), ⟨_, _, rfl⟩, ⟨by decide, by decide, rfl⟩⟩
theorem lk_L_119 : qcV RL 119 yX6_whispered 6 4 := ⟨(lwg_of (tb3 (List.mem_of_getElem? (i := 105) rfl)) rfl), (lwg_of (tb3 (List.mem_of_getElem? (i := 106) rfl)) rfl), (lwg_of (tb3 (List.mem_of_getElem? (i := 107) rfl)) rfl), (lwg_of (tb1 (List.mem_of_getElem? (i := 1) rfl)) rfl), ⟨_, _, rfl⟩, ⟨by decide, by decide, rfl⟩⟩
theorem lk_L_122 : qcV RL 122 yX7_whispered 7 4 := ⟨(lwg_of (tb5 (List.mem_of_getElem? (i := 78) rfl)) rfl), (lwg_of (tb5 (List.mem_of_getElem? (i := 79) rfl)) rfl), (lwg_of (tb5 (List.mem_of_getElem? (i := 80) rfl)) rfl), (lwg_of (tb1 (List.mem_of_getElem? (i := 8) rfl)) rfl), ⟨_, _, rfl⟩, ⟨by decide, by decide, rfl⟩⟩
theorem lk_L_123 : qcV RL 123 yX6_cheese 6 1 := ⟨(lwg_of (tb3 (List.mem_of_getElem? (i := 114) rfl)) rfl), (lwg_of (tb3 (List.mem_of_getElem? (i := 115) rfl)) rfl), (lwg_of (tb3 (List.mem_of_getElem? (i := 116) rfl)) rfl), (lwg_of (tb1 (List.mem_of_getElem? (i := 1) rfl)) rfl), ⟨_, _, rfl⟩, ⟨by decide, by decide, rfl⟩⟩
theorem lk_L_126 : qcV RL 126 yX7_cheese 7 1 := ⟨(lwg_of (tb5 (List.mem_of_getElem? (i := 83) rfl)) rfl), (lwg_of (tb5 (List.mem_of_getElem? (i := 84) rfl)) rfl), (lwg_of (tb5 (List.mem_of_getElem? (i := 85) rfl)) rfl), (lwg_of (tb1 (List.mem_of_getElem? (i := 8) rfl)) rfl), ⟨_, _, rfl⟩, ⟨by decide, by decide, rfl⟩⟩
theorem lk_L_127 : qcV RL 127 yX6_awake 6 3 := ⟨(lwg_of (tb3 (List.mem_of_getElem? (i := 126) rfl)) rfl), (lwg_of (tb3 (List.mem_of_getElem? (i := 127) rfl)) rfl), (lwg_of (tb3 (List.mem_of_getElem? (i := 128) rfl)) rfl), (lwg_of (tb1 (List.mem_of_getElem? (i := 1) rfl)) rfl), ⟨_, _, rfl⟩, ⟨by decide, by decide, rfl⟩⟩
theorem lk_L_131 : qcV RL 131 yX7_awake 7 3 := ⟨(lwg_of (tb5 (List.mem_of_getElem? (i := 91) rfl)) rfl), (lwg_of (tb5 (List.mem_of_getElem? (i := 92) rfl)) rfl), (lwg_of (tb5 (List.mem_of_getElem? (i := 93) rfl)) rfl), (lwg_of (tb1 (List.mem_of_getElem? (i := 8) rfl)) rfl), ⟨_, _, rfl⟩, ⟨by decide, by decide, rfl⟩⟩
theorem lk_L_132 : qcV RL 132 yX6_drawn 6 3 := ⟨(lwg_of (tb3 (List.mem_of_getElem? (i := 141) rfl)) rfl), (lwg_of (tb3 (List.mem_of_getElem? (i := 142) rfl)) rfl), (lwg_of (tb3 (List.mem_of_getElem? (i := 143) rfl)) rfl), (lwg_of (tb1 (List.mem_of_getElem? (i := 1) rfl)) rfl), ⟨_, _, rfl⟩, ⟨by decide, by decide, rfl⟩⟩
theorem lk_L_135 : qcV RL 135 yX7_drawn 7 3 := ⟨(lwg_of (tb5 (List.mem_of_getElem? (i := 98) rfl)) rfl), (lwg_of (tb5 (List.mem_of_getElem? (i := 99) rfl)) rfl), (lwg_of (tb5 (List.mem_of_getElem? (i := 100) rfl)) rfl), (lwg_of (tb1 (List.mem_of_getElem? (i := 8) rfl)) rfl), ⟨_, _, rfl⟩, ⟨by decide, by decide, rfl⟩⟩
theorem lk_L_136 : qcV RL 136 yX6_image 6 1 := ⟨(lwg_of (tb3 (List.mem_of_getElem? (i := 159) rfl)) rfl), (lwg_of (tb3 (List.mem_of_getElem? (i := 160) rfl)) rfl), (lwg_of (tb3 (List.mem_of_getElem? (i := 161) rfl)) rfl), (lwg_of (tb1 (List.mem_of_getElem? (i := 1) rfl)) rfl), ⟨_, _, rfl⟩, ⟨by decide, by decide, rfl⟩⟩
theorem lk_L_139 : qcV RL 139 yX7_image 7 1 := ⟨(lwg_of (tb5 (List.mem_of_getElem? (i := 106) rfl)) rfl), (lwg_of (tb5 (List.mem_of_getElem? (i := 107) rfl)) rfl), (lwg_of (tb5 (List.mem_of_getElem? (i := 108) rfl)) rfl), (lwg_of (tb1 (List.mem_of_getElem? (i := 8) rfl)) rfl), ⟨_, _, rfl⟩, ⟨by decide, by decide, rfl⟩⟩
theorem lk_L_140 : qcV RL 140 yX6_restore 6 1 := ⟨(lwg_of (tb3 (List.mem_of_getElem? (i := 163) rfl)) rfl), (lwg_of (tb3 (List.mem_of_getElem? (i := 164) rfl)) rfl), (lwg_of (tb3 (List.mem_of_getElem? (i := 165) rfl)) rfl), (lwg_of (tb1 (List.mem_of_getElem? (i := 1) rfl)) rfl), ⟨_, _, rfl⟩, ⟨by decide, by decide, rfl⟩⟩
theorem lk_L_143 : qcV RL 143 yX7_restore 7 1 := ⟨(lwg_of (tb5 (List.mem_of_getElem? (i := 110) rfl)) rfl), (lwg_of (tb5 (List.mem_of_getElem? (i := 111) rfl)) rfl), (lwg_of (tb5 (List.mem_of_getElem? (i := 112) rfl)) rfl), (lwg_of (tb1 (List.mem_of_getElem? (i := 8) rfl)) rfl), ⟨_, _, rfl⟩, ⟨by decide, by decide, rfl⟩⟩
theorem lk_L_144 : qcV RL 144 yX6_kind 6 1 := ⟨(lwg_of (tb3 (List.mem_of_getElem? (i := 167) rfl)) rfl), (lwg_of (tb3 (List.mem_of_getElem? (i := 168) rfl)) rfl), (lwg_of (tb3 (List.mem_of_getElem? (i := 169) rfl)) rfl), (lwg_of (tb1 (List.mem_of_getElem? (i := 1) rfl)) rfl), ⟨_, _, rfl⟩, ⟨by decide, by decide, rfl⟩⟩
theorem lk_L_147 : qcV RL 147 yX7_kind 7 1 := ⟨(lwg_of (tb5 (List.mem_of_getElem? (i := 114) rfl)) rfl), (lwg_of (tb5 (List.mem_of_getElem? (i := 115) rfl)) rfl), (lwg_of (tb5 (List.mem_of_getElem? (i := 116) rfl)) rfl), (lwg_of (tb1 (List.mem_of_getElem? (i := 8) rfl)) rfl), ⟨_, _, rfl⟩, ⟨by decide, by decide, rfl⟩⟩
theorem lk_L_148 : qcV RL 148 yX6_as 6 2 := ⟨(lwg_of (tb3 (List.mem_of_getElem? (i := 171) rfl)) rfl), (lwg_of (tb3 (List.mem_of_getElem? (i := 172) rfl)) rfl), (lwg_of (tb3 (List.mem_of_getElem? (i := 173) rfl)) rfl), (lwg_of (tb1 (List.mem_of_getElem? (i := 1) rfl)) rfl), ⟨_, _, rfl⟩, ⟨by decide, by decide, rfl⟩⟩
theorem lk_L_151 : qcV RL 151 yX7_as 7 2 := ⟨(lwg_of (tb5 (List.mem_of_getElem? (i := 118) rfl)) rfl), (lwg_of (tb5 (List.mem_of_getElem? (i := 119) rfl)) rfl), (lwg_of (tb5 (List.mem_of_getElem? (i := 120) rfl)) rfl), (lwg_of (tb1 (List.mem_of_getElem? (i := 8) rfl)) rfl), ⟨_, _, rfl⟩, ⟨by decide, by decide, rfl⟩⟩
theorem lk_L_152 : qcV RL 152 yX6_ask 6 2 := ⟨(lwg_of (tb3 (List.mem_of_getElem? (i := 178) rfl)) rfl), (lwg_of (tb3 (List.mem_of_getElem? (i := 179) rfl)) rfl), (lwg_of (tb3 (List.mem_of_getElem? (i := 180) rfl)) rfl), (lwg_of (tb1 (List.mem_of_getElem? (i := 1) rfl)) rfl), ⟨_, _, rfl⟩, ⟨by decide, by decide, rfl⟩⟩
theorem lk_L_155 : qcV RL 155 yX7_ask 7 2 := ⟨(lwg_of (tb5 (List.mem_of_getElem? (i := 125) rfl)) rfl), (lwg_of (tb5 (List.mem_of_getElem? (i := 126) rfl)) rfl), (lwg_of (tb5 (List.mem_of_getElem? (i := 127) rfl)) rfl), (lwg_of (tb1 (List.mem_of_getElem? (i := 8) rfl)) rfl), ⟨_, _, rfl⟩, ⟨by decide, by decide, rfl⟩⟩
theorem lk_L_156 : qcV RL 156 yX6_trace 6 1 := ⟨(lwg_of (tb3 (List.mem_of_getElem? (i := 211) rfl)) rfl), (lwg_of (tb3 (List.mem_of_getElem? (i := 212) rfl)) rfl), (lwg_of (tb3 (List.mem_of_getElem? (i := 213) rfl)) rfl), (lwg_of (tb1 (List.mem_of_getElem? (i := 1) rfl)) rfl), ⟨_, _, rfl⟩, ⟨by decide, by decide, rfl⟩⟩
theorem lk_L_159 : qcV RL 159 yX7_trace 7 1 := ⟨(lwg_of (tb5 (List.mem_of_getElem? (i := 161) rfl)) rfl), (lwg_of (tb5 (List.mem_of_getElem? (i := 162) rfl)) rfl), (lwg_of (tb5 (List.mem_of_getElem? (i := 163) rfl)) rfl), (lwg_of (tb1 (List.mem_of_getElem? (i := 8) rfl)) rfl), ⟨_, _, rfl⟩, ⟨by decide, by decide, rfl⟩⟩
theorem lk_L_160 : qcV RL 160 yX6_count 6 1 := ⟨(lwg_of (tb3 (List.mem_of_getElem? (i := 215) rfl)) rfl), (lwg_of (tb3 (List.mem_of_getElem? (i := 216) rfl)) rfl), (lwg_of (tb3 (List.mem_of_getElem? (i := 217) rfl)) rfl), (lwg_of (tb1 (List.mem_of_getElem? (i := 1) rfl)) rfl), ⟨_, _, rfl⟩, ⟨by decide, by decide, rfl⟩⟩
theorem lk_L_163 : qcV RL 163 yX7_count 7 1 := ⟨(lwg_of (tb5 (List.mem_of_getElem? (i := 165) rfl)) rfl), (lwg_of (tb5 (List.mem_of_getElem? (i := 166) rfl)) rfl), (lwg_of (tb5 (List.mem_of_getElem? (i := 167) rfl)) rfl), (lwg_of (tb1 (List.mem_of_getElem? (i := 8) rfl)) rfl), ⟨_, _, rfl⟩, ⟨by decide, by decide, rfl⟩⟩
theorem lk_L_164 : qcV RL 164 yX6_status 6 0 := ⟨(lwg_of (tb3 (List.mem_of_getElem? (i := 223) rfl)) rfl), (lwg_of (tb3 (List.mem_of_getElem? (i := 224) rfl)) rfl), (lwg_of (tb3 (List.mem_of_getElem? (i := 225) rfl)) rfl), (lwg_of (tb1 (List.mem_of_getElem? (i := 1) rfl)) rfl), ⟨_, _, rfl⟩, ⟨by decide, by decide, rfl⟩⟩
theorem lk_L_167 : qcV RL 167 yX7_status 7 0 := ⟨(lwg_of (tb5 (List.mem_of_getElem? (i := 169) rfl)) rfl), (lwg_of (tb5 (List.mem_of_getElem? (i := 170) rfl)) rfl), (lwg_of (tb5 (List.mem_of_getElem? (i := 171) rfl)) rfl), (lwg_of (tb1 (List.mem_of_getElem? (i := 8) rfl)) rfl), ⟨_, _, rfl⟩, ⟨by decide, by decide, rfl⟩⟩
theorem fl_X0_9 : qfl RX0 9 0 1 (.array .int) true := ⟨RX0, TX0, 2, tyX0, rfl, by decide, iw_X0, tyX0_ok, nmX0, (lwg_of (tb1 (List.mem_of_getElem? (i := 170) rfl)) rfl), rfl, rfl, rfl⟩
theorem fl_X0_15 : qfl RX0 15 0 0 .int false := ⟨RX0, TX0, 2, tyX0, rfl, by decide, iw_X0, tyX0_ok, nmX0, (lwg_of (tb1 (List.mem_of_getElem? (i := 168) rfl)) rfl), rfl, rfl, rfl⟩
theorem lk_X0_19 : qcV RX0 19 yX0_sizeOf 0 3 := ⟨(lwg_of (tb3 (List.mem_of_getElem? (i := 186) rfl)) rfl), (lwg_of (tb3 (List.mem_of_getElem? (i := 188) rfl)) rfl), (lwg_of (tb0 (List.mem_of_getElem? (i := 20) rfl)) rfl), (lwg_of (tb1 (List.mem_of_getElem? (i := 6) rfl)) rfl), ⟨_, _, rfl⟩, ⟨by decide, by decide, rfl⟩⟩
theorem lk_X0_23 : qcV RX0 23 yX0_markOf 0 3 := ⟨(lwg_of (tb3 (List.mem_of_getElem? (i := 204) rfl)) rfl), (lwg_of (tb3 (List.mem_of_getElem? (i := 206) rfl)) rfl), (lwg_of (tb0 (List.mem_of_getElem? (i := 23) rfl)) rfl), (lwg_of (tb1 (List.mem_of_getElem? (i := 6) rfl)) rfl), ⟨_, _, rfl⟩, ⟨by decide, by decide, rfl⟩⟩
theorem fs_X0_26 : Cond.fieldLink RX0 26 "DreamGraves$Asker" "SIZE_BODIES" "[I" ∈ lwg := (lwg_of (tb3 (List.mem_of_getElem? (i := 190) rfl)) rfl)
theorem lk_X0_29 : qcS RX0 29 yX0_kindOf 2 := ⟨(lwg_of (tb3 (List.mem_of_getElem? (i := 192) rfl)) rfl), (lwg_of (tb3 (List.mem_of_getElem? (i := 193) rfl)) rfl), (lwg_of (tb1 (List.mem_of_getElem? (i := 6) rfl)) rfl), ⟨by decide, by decide, rfl⟩⟩
theorem lk_X0_33 : qcV RX0 33 yX0_give 0 4 := ⟨(lwg_of (tb3 (List.mem_of_getElem? (i := 195) rfl)) rfl), (lwg_of (tb3 (List.mem_of_getElem? (i := 197) rfl)) rfl), (lwg_of (tb0 (List.mem_of_getElem? (i := 21) rfl)) rfl), (lwg_of (tb1 (List.mem_of_getElem? (i := 6) rfl)) rfl), ⟨_, _, rfl⟩, ⟨by decide, by decide, rfl⟩⟩
theorem fs_X0_37 : Cond.fieldLink RX0 37 "DreamGraves$Asker" "MARK_BODIES" "[I" ∈ lwg := (lwg_of (tb3 (List.mem_of_getElem? (i := 208) rfl)) rfl)
theorem fl_X0_40 : qfl RX0 40 5 8 (.array .int) true := ⟨RX5, TX5, 10, tyX5, rfl, by decide, iw_X5, tyX5_ok, nmX5, (lwg_of (tb1 (List.mem_of_getElem? (i := 59) rfl)) rfl), rfl, rfl, rfl⟩
theorem lk_X0_45 : qcV RX0 45 yX0_leave 0 1 := ⟨(lwg_of (tb3 (List.mem_of_getElem? (i := 199) rfl)) rfl), (lwg_of (tb3 (List.mem_of_getElem? (i := 201) rfl)) rfl), (lwg_of (tb0 (List.mem_of_getElem? (i := 22) rfl)) rfl), (lwg_of (tb1 (List.mem_of_getElem? (i := 6) rfl)) rfl), ⟨_, _, rfl⟩, ⟨by decide, by decide, rfl⟩⟩
theorem lk_X0_49 : qcV RX0 49 yX5_allMemoryOf 5 1 := ⟨(lwg_of (tb3 (List.mem_of_getElem? (i := 203) rfl)) rfl), (lwg_of (tb3 (List.mem_of_getElem? (i := 1) rfl)) rfl), (lwg_of (tb3 (List.mem_of_getElem? (i := 2) rfl)) rfl), (lwg_of (tb1 (List.mem_of_getElem? (i := 3) rfl)) rfl), ⟨_, _, rfl⟩, ⟨by decide, by decide, rfl⟩⟩
theorem lk_X0_53 : qcV RX0 53 yX5_memoryOf 5 2 := ⟨(lwg_of (tb3 (List.mem_of_getElem? (i := 210) rfl)) rfl), (lwg_of (tb2 (List.mem_of_getElem? (i := 228) rfl)) rfl), (lwg_of (tb2 (List.mem_of_getElem? (i := 229) rfl)) rfl), (lwg_of (tb1 (List.mem_of_getElem? (i := 3) rfl)) rfl), ⟨_, _, rfl⟩, ⟨by decide, by decide, rfl⟩⟩
theorem fl_X1_11 : qfl RX1 11 1 2 (.array (.object "DreamGraves$Yard")) true := ⟨RX1, TX1, 3, tyX1, rfl, by decide, iw_X1, tyX1_ok, nmX1, (lwg_of (tb1 (List.mem_of_getElem? (i := 131) rfl)) rfl), rfl, rfl, rfl⟩
theorem lk_X1_17 : qcIN RX1 17 yX5_init 0 := ⟨⟨"DreamGraves", List.mem_filter.mpr ⟨tc1 (List.mem_of_getElem? (i := 127) rfl), rfl⟩⟩, (lwg_of (tb1 (List.mem_of_getElem? (i := 31) rfl)) rfl), (lwg_of (tb1 (List.mem_of_getElem? (i := 3) rfl)) rfl), rfl, ⟨by decide, by decide, rfl⟩⟩
theorem fl_X1_18 : qfl RX1 18 1 0 .int false := ⟨RX1, TX1, 3, tyX1, rfl, by decide, iw_X1, tyX1_ok, nmX1, (lwg_of (tb1 (List.mem_of_getElem? (i := 128) rfl)) rfl), rfl, rfl, rfl⟩
theorem fl_X1_22 : qfl RX1 22 1 1 .int false := ⟨RX1, TX1, 3, tyX1, rfl, by decide, iw_X1, tyX1_ok, nmX1, (lwg_of (tb1 (List.mem_of_getElem? (i := 130) rfl)) rfl), rfl, rfl, rfl⟩
theorem lk_X1_25 : qcV RX1 25 yX5_become 5 1 := ⟨(lwg_of (tb2 (List.mem_of_getElem? (i := 130) rfl)) rfl), (lwg_of (tb2 (List.mem_of_getElem? (i := 110) rfl)) rfl), (lwg_of (tb2 (List.mem_of_getElem? (i := 111) rfl)) rfl), (lwg_of (tb1 (List.mem_of_getElem? (i := 3) rfl)) rfl), ⟨_, _, rfl⟩, ⟨by decide, by decide, rfl⟩⟩
theorem fl_X2_9 : qfl RX2 9 2 0 .int false := ⟨RX2, TX2, 3, tyX2, rfl, by decide, iw_X2, tyX2_ok, nmX2, (lwg_of (tb1 (List.mem_of_getElem? (i := 182) rfl)) rfl), rfl, rfl, rfl⟩
theorem fl_X2_15 : qfl RX2 15 2 2 (.array .int) true := ⟨RX2, TX2, 3, tyX2, rfl, by decide, iw_X2, tyX2_ok, nmX2, (lwg_of (tb1 (List.mem_of_getElem? (i := 186) rfl)) rfl), rfl, rfl, rfl⟩
theorem fl_X2_19 : qfl RX2 19 2 1 .int false := ⟨RX2, TX2, 3, tyX2, rfl, by decide, iw_X2, tyX2_ok, nmX2, (lwg_of (tb1 (List.mem_of_getElem? (i := 184) rfl)) rfl), rfl, rfl, rfl⟩
theorem lk_X2_22 : qcS RX2 22 yJ7_fill_53178 2 := ⟨(lwg_of (tb1 (List.mem_of_getElem? (i := 238) rfl)) rfl), (lwg_of (tb1 (List.mem_of_getElem? (i := 239) rfl)) rfl), (lwg_of (tb1 (List.mem_of_getElem? (i := 9) rfl)) rfl), ⟨by decide, by decide, rfl⟩⟩
theorem lk_X2_28 : qcV RX2 28 yX2_isMissing 2 0 := ⟨(lwg_of (tb2 (List.mem_of_getElem? (i := 13) rfl)) rfl), (lwg_of (tb2 (List.mem_of_getElem? (i := 14) rfl)) rfl), (lwg_of (tb2 (List.mem_of_getElem? (i := 15) rfl)) rfl), (lwg_of (tb1 (List.mem_of_getElem? (i := 7) rfl)) rfl), ⟨_, _, rfl⟩, ⟨by decide, by decide, rfl⟩⟩
theorem lk_X2_32 : qcV RX2 32 yX2_holds 2 2 := ⟨(lwg_of (tb2 (List.mem_of_getElem? (i := 17) rfl)) rfl), (lwg_of (tb2 (List.mem_of_getElem? (i := 18) rfl)) rfl), (lwg_of (tb2 (List.mem_of_getElem? (i := 19) rfl)) rfl), (lwg_of (tb1 (List.mem_of_getElem? (i := 7) rfl)) rfl), ⟨_, _, rfl⟩, ⟨by decide, by decide, rfl⟩⟩
theorem fl_X3_9 : qfl RX3 9 3 1 (.array .int) true := ⟨RX3, TX3, 4, tyX3, rfl, by decide, iw_X3, tyX3_ok, nmX3, (lwg_of (tb1 (List.mem_of_getElem? (i := 149) rfl)) rfl), rfl, rfl, rfl⟩
theorem fl_X3_15 : qfl RX3 15 3 2 (.array .int) true := ⟨RX3, TX3, 4, tyX3, rfl, by decide, iw_X3, tyX3_ok, nmX3, (lwg_of (tb1 (List.mem_of_getElem? (i := 151) rfl)) rfl), rfl, rfl, rfl⟩
theorem fl_X3_20 : qfl RX3 20 3 3 (.array (.object "DreamGraves$Yard")) true := ⟨RX3, TX3, 4, tyX3, rfl, by decide, iw_X3, tyX3_ok, nmX3, (lwg_of (tb1 (List.mem_of_getElem? (i := 152) rfl)) rfl), rfl, rfl, rfl⟩
theorem lk_X3_24 : qcIN RX3 24 yX5_init 0 := ⟨⟨"DreamGraves", List.mem_filter.mpr ⟨tc1 (List.mem_of_getElem? (i := 146) rfl), rfl⟩⟩, (lwg_of (tb1 (List.mem_of_getElem? (i := 31) rfl)) rfl), (lwg_of (tb1 (List.mem_of_getElem? (i := 3) rfl)) rfl), rfl, ⟨by decide, by decide, rfl⟩⟩
theorem lk_X3_25 : qcV RX3 25 yX5_become 5 1 := ⟨(lwg_of (tb3 (List.mem_of_getElem? (i := 29) rfl)) rfl), (lwg_of (tb2 (List.mem_of_getElem? (i := 110) rfl)) rfl), (lwg_of (tb2 (List.mem_of_getElem? (i := 111) rfl)) rfl), (lwg_of (tb1 (List.mem_of_getElem? (i := 3) rfl)) rfl), ⟨_, _, rfl⟩, ⟨by decide, by decide, rfl⟩⟩
theorem lk_X3_29 : qcV RX3 29 yX3_copyOf 3 1 := ⟨(lwg_of (tb3 (List.mem_of_getElem? (i := 25) rfl)) rfl), (lwg_of (tb3 (List.mem_of_getElem? (i := 27) rfl)) rfl), (lwg_of (tb0 (List.mem_of_getElem? (i := 18) rfl)) rfl), (lwg_of (tb1 (List.mem_of_getElem? (i := 5) rfl)) rfl), ⟨_, _, rfl⟩, ⟨by decide, by decide, rfl⟩⟩
theorem lk_X3_33 : qcV RX3 33 yX5_pass 5 0 := ⟨(lwg_of (tb3 (List.mem_of_getElem? (i := 30) rfl)) rfl), (lwg_of (tb2 (List.mem_of_getElem? (i := 149) rfl)) rfl), (lwg_of (tb2 (List.mem_of_getElem? (i := 150) rfl)) rfl), (lwg_of (tb1 (List.mem_of_getElem? (i := 3) rfl)) rfl), ⟨_, _, rfl⟩, ⟨by decide, by decide, rfl⟩⟩
theorem fl_X3_36 : qfl RX3 36 5 5 .int false := ⟨RX5, TX5, 10, tyX5, rfl, by decide, iw_X5, tyX5_ok, nmX5, (lwg_of (tb1 (List.mem_of_getElem? (i := 48) rfl)) rfl), rfl, rfl, rfl⟩
theorem lk_X3_40 : qcSN RX3 40 yX6_hasBit 2 := ⟨⟨"DreamGraves", List.mem_filter.mpr ⟨tc3 (List.mem_of_getElem? (i := 39) rfl), rfl⟩⟩, (lwg_of (tb2 (List.mem_of_getElem? (i := 161) rfl)) rfl), (lwg_of (tb1 (List.mem_of_getElem? (i := 1) rfl)) rfl), ⟨by decide, by decide, rfl⟩⟩
theorem fl_X3_44 : qfl RX3 44 5 3 .int false := ⟨RX5, TX5, 10, tyX5, rfl, by decide, iw_X5, tyX5_ok, nmX5, (lwg_of (tb1 (List.mem_of_getElem? (i := 43) rfl)) rfl), rfl, rfl, rfl⟩
theorem lk_X3_47 : qcSN RX3 47 yX6_bit 1 := ⟨⟨"DreamGraves", List.mem_filter.mpr ⟨tc3 (List.mem_of_getElem? (i := 40) rfl), rfl⟩⟩, (lwg_of (tb2 (List.mem_of_getElem? (i := 88) rfl)) rfl), (lwg_of (tb1 (List.mem_of_getElem? (i := 1) rfl)) rfl), ⟨by decide, by decide, rfl⟩⟩
theorem fl_X3_51 : qfl RX3 51 5 6 .int false := ⟨RX5, TX5, 10, tyX5, rfl, by decide, iw_X5, tyX5_ok, nmX5, (lwg_of (tb1 (List.mem_of_getElem? (i := 53) rfl)) rfl), rfl, rfl, rfl⟩
theorem lk_X3_54 : Cond.constant RX3 54 (-1000000) ∈ lwg := (lwg_of (tb3 (List.mem_of_getElem? (i := 41) rfl)) rfl)
theorem lk_X3_55 : qcS RX3 55 yX3_firstOf 1 := ⟨(lwg_of (tb3 (List.mem_of_getElem? (i := 50) rfl)) rfl), (lwg_of (tb3 (List.mem_of_getElem? (i := 51) rfl)) rfl), (lwg_of (tb1 (List.mem_of_getElem? (i := 5) rfl)) rfl), ⟨by decide, by decide, rfl⟩⟩
theorem fl_X3_58 : qfl RX3 58 3 0 .int false := ⟨RX3, TX3, 4, tyX3, rfl, by decide, iw_X3, tyX3_ok, nmX3, (lwg_of (tb1 (List.mem_of_getElem? (i := 147) rfl)) rfl), rfl, rfl, rfl⟩
theorem lk_X3_61 : qcV RX3 61 yX3_tryYear 3 4 := ⟨(lwg_of (tb3 (List.mem_of_getElem? (i := 61) rfl)) rfl), (lwg_of (tb3 (List.mem_of_getElem? (i := 63) rfl)) rfl), (lwg_of (tb0 (List.mem_of_getElem? (i := 19) rfl)) rfl), (lwg_of (tb1 (List.mem_of_getElem? (i := 5) rfl)) rfl), ⟨_, _, rfl⟩, ⟨by decide, by decide, rfl⟩⟩
theorem lk_X3_65 : qcV RX3 65 yX5_digUndreamt 5 0 := ⟨(lwg_of (tb3 (List.mem_of_getElem? (i := 65) rfl)) rfl), (lwg_of (tb2 (List.mem_of_getElem? (i := 153) rfl)) rfl), (lwg_of (tb2 (List.mem_of_getElem? (i := 154) rfl)) rfl), (lwg_of (tb1 (List.mem_of_getElem? (i := 3) rfl)) rfl), ⟨_, _, rfl⟩, ⟨by decide, by decide, rfl⟩⟩
theorem lk_X3_68 : Cond.methodLink RX3 68 arraycopyName ∈ lwg := (lwg_of (tb3 (List.mem_of_getElem? (i := 66) rfl)) rfl)
theorem lk_X3_74 : qcS RX3 74 yJ6_bitCount_0f7a4 1 := ⟨(lwg_of (tb3 (List.mem_of_getElem? (i := 67) rfl)) rfl), (lwg_of (tb2 (List.mem_of_getElem? (i := 209) rfl)) rfl), (lwg_of (tb1 (List.mem_of_getElem? (i := 11) rfl)) rfl), ⟨by decide, by decide, rfl⟩⟩
theorem lk_X3_79 : qcV RX3 79 yX5_endYear 5 0 := ⟨(lwg_of (tb3 (List.mem_of_getElem? (i := 68) rfl)) rfl), (lwg_of (tb2 (List.mem_of_getElem? (i := 187) rfl)) rfl), (lwg_of (tb2 (List.mem_of_getElem? (i := 188) rfl)) rfl), (lwg_of (tb1 (List.mem_of_getElem? (i := 3) rfl)) rfl), ⟨_, _, rfl⟩, ⟨by decide, by decide, rfl⟩⟩
theorem lk_X3_82 : qcV RX3 82 yX5_memoryOf 5 2 := ⟨(lwg_of (tb3 (List.mem_of_getElem? (i := 82) rfl)) rfl), (lwg_of (tb2 (List.mem_of_getElem? (i := 228) rfl)) rfl), (lwg_of (tb2 (List.mem_of_getElem? (i := 229) rfl)) rfl), (lwg_of (tb1 (List.mem_of_getElem? (i := 3) rfl)) rfl), ⟨_, _, rfl⟩, ⟨by decide, by decide, rfl⟩⟩
theorem fl_X3_86 : qfl RX3 86 5 1 .int false := ⟨RX5, TX5, 10, tyX5, rfl, by decide, iw_X5, tyX5_ok, nmX5, (lwg_of (tb1 (List.mem_of_getElem? (i := 39) rfl)) rfl), rfl, rfl, rfl⟩
theorem lk_X3_89 : qcV RX3 89 yX5_faded 5 1 := ⟨(lwg_of (tb3 (List.mem_of_getElem? (i := 83) rfl)) rfl), (lwg_of (tb2 (List.mem_of_getElem? (i := 195) rfl)) rfl), (lwg_of (tb2 (List.mem_of_getElem? (i := 196) rfl)) rfl), (lwg_of (tb1 (List.mem_of_getElem? (i := 3) rfl)) rfl), ⟨_, _, rfl⟩, ⟨by decide, by decide, rfl⟩⟩
theorem fl_X3_92 : qfl RX3 92 5 8 (.array .int) true := ⟨RX5, TX5, 10, tyX5, rfl, by decide, iw_X5, tyX5_ok, nmX5, (lwg_of (tb1 (List.mem_of_getElem? (i := 61) rfl)) rfl), rfl, rfl, rfl⟩
theorem lk_X3_95 : qcS RX3 95 yX3_goesAsTold 4 := ⟨(lwg_of (tb3 (List.mem_of_getElem? (i := 101) rfl)) rfl), (lwg_of (tb3 (List.mem_of_getElem? (i := 102) rfl)) rfl), (lwg_of (tb1 (List.mem_of_getElem? (i := 5) rfl)) rfl), ⟨by decide, by decide, rfl⟩⟩
theorem lk_X3_99 : qcV RX3 99 yX5_remember 5 3 := ⟨(lwg_of (tb3 (List.mem_of_getElem? (i := 113) rfl)) rfl), (lwg_of (tb2 (List.mem_of_getElem? (i := 102) rfl)) rfl), (lwg_of (tb2 (List.mem_of_getElem? (i := 103) rfl)) rfl), (lwg_of (tb1 (List.mem_of_getElem? (i := 3) rfl)) rfl), ⟨_, _, rfl⟩, ⟨by decide, by decide, rfl⟩⟩
theorem lk_X3_103 : qcV RX3 103 yX2_holds 2 2 := ⟨(lwg_of (tb3 (List.mem_of_getElem? (i := 104) rfl)) rfl), (lwg_of (tb2 (List.mem_of_getElem? (i := 18) rfl)) rfl), (lwg_of (tb2 (List.mem_of_getElem? (i := 19) rfl)) rfl), (lwg_of (tb1 (List.mem_of_getElem? (i := 7) rfl)) rfl), ⟨_, _, rfl⟩, ⟨by decide, by decide, rfl⟩⟩
theorem fl_X3_108 : qfl RX3 108 2 2 (.array .int) true := ⟨RX2, TX2, 3, tyX2, rfl, by decide, iw_X2, tyX2_ok, nmX2, (lwg_of (tb1 (List.mem_of_getElem? (i := 188) rfl)) rfl), rfl, rfl, rfl⟩
theorem lk_X3_111 : qcV RX3 111 yX5_inNeed 5 0 := ⟨(lwg_of (tb3 (List.mem_of_getElem? (i := 122) rfl)) rfl), (lwg_of (tb3 (List.mem_of_getElem? (i := 123) rfl)) rfl), (lwg_of (tb3 (List.mem_of_getElem? (i := 124) rfl)) rfl), (lwg_of (tb1 (List.mem_of_getElem? (i := 3) rfl)) rfl), ⟨_, _, rfl⟩, ⟨by decide, by decide, rfl⟩⟩
theorem lk_X3_115 : qcV RX3 115 yX5_dreamersOf 5 1 := ⟨(lwg_of (tb3 (List.mem_of_getElem? (i := 136) rfl)) rfl), (lwg_of (tb3 (List.mem_of_getElem? (i := 14) rfl)) rfl), (lwg_of (tb3 (List.mem_of_getElem? (i := 15) rfl)) rfl), (lwg_of (tb1 (List.mem_of_getElem? (i := 3) rfl)) rfl), ⟨_, _, rfl⟩, ⟨by decide, by decide, rfl⟩⟩
theorem lk_X3_118 : Cond.constantLong RX3 118 (10) ∈ lwg := (lwg_of (tb3 (List.mem_of_getElem? (i := 137) rfl)) rfl)
theorem lk_X3_120 : qcS RX3 120 yX3_commonDivisor 2 := ⟨(lwg_of (tb3 (List.mem_of_getElem? (i := 138) rfl)) rfl), (lwg_of (tb3 (List.mem_of_getElem? (i := 139) rfl)) rfl), (lwg_of (tb1 (List.mem_of_getElem? (i := 5) rfl)) rfl), ⟨by decide, by decide, rfl⟩⟩
theorem lk_X3_124 : Cond.constantLong RX3 124 (16807) ∈ lwg := (lwg_of (tb3 (List.mem_of_getElem? (i := 150) rfl)) rfl)
theorem lk_X3_126 : Cond.constantLong RX3 126 (2147483647) ∈ lwg := (lwg_of (tb3 (List.mem_of_getElem? (i := 151) rfl)) rfl)
theorem lk_X3_128 : Cond.constantLong RX3 128 (5) ∈ lwg := (lwg_of (tb3 (List.mem_of_getElem? (i := 152) rfl)) rfl)
theorem lk_X3_130 : Cond.constantLong RX3 130 (3) ∈ lwg := (lwg_of (tb3 (List.mem_of_getElem? (i := 153) rfl)) rfl)
theorem fl_X3_132 : qfl RX3 132 5 7 .int false := ⟨RX5, TX5, 10, tyX5, rfl, by decide, iw_X5, tyX5_ok, nmX5, (lwg_of (tb1 (List.mem_of_getElem? (i := 57) rfl)) rfl), rfl, rfl, rfl⟩
theorem lk_X4_11 : qcIN RX4 11 yX5_init 0 := ⟨⟨"DreamGraves", List.mem_filter.mpr ⟨tc1 (List.mem_of_getElem? (i := 30) rfl), rfl⟩⟩, (lwg_of (tb1 (List.mem_of_getElem? (i := 31) rfl)) rfl), (lwg_of (tb1 (List.mem_of_getElem? (i := 3) rfl)) rfl), rfl, ⟨by decide, by decide, rfl⟩⟩
theorem fl_X4_12 : qfl RX4 12 4 0 (.object "DreamGraves$Yard") true := ⟨RX4, TX4, 9, tyX4, rfl, by decide, iw_X4, tyX4_ok, nmX4, (lwg_of (tb1 (List.mem_of_getElem? (i := 86) rfl)) rfl), rfl, rfl, rfl⟩
theorem fl_X4_18 : qfl RX4 18 4 3 (.array .int) true := ⟨RX4, TX4, 9, tyX4, rfl, by decide, iw_X4, tyX4_ok, nmX4, (lwg_of (tb1 (List.mem_of_getElem? (i := 92) rfl)) rfl), rfl, rfl, rfl⟩
theorem fl_X4_22 : qfl RX4 22 4 1 .int false := ⟨RX4, TX4, 9, tyX4, rfl, by decide, iw_X4, tyX4_ok, nmX4, (lwg_of (tb1 (List.mem_of_getElem? (i := 88) rfl)) rfl), rfl, rfl, rfl⟩
theorem lk_X4_26 : qcV RX4 26 yX5_clear 5 0 := ⟨(lwg_of (tb2 (List.mem_of_getElem? (i := 55) rfl)) rfl), (lwg_of (tb2 (List.mem_of_getElem? (i := 56) rfl)) rfl), (lwg_of (tb2 (List.mem_of_getElem? (i := 57) rfl)) rfl), (lwg_of (tb1 (List.mem_of_getElem? (i := 3) rfl)) rfl), ⟨_, _, rfl⟩, ⟨by decide, by decide, rfl⟩⟩
theorem fl_X4_29 : qfl RX4 29 4 5 .int false := ⟨RX4, TX4, 9, tyX4, rfl, by decide, iw_X4, tyX4_ok, nmX4, (lwg_of (tb1 (List.mem_of_getElem? (i := 94) rfl)) rfl), rfl, rfl, rfl⟩
theorem lk_X4_32 : qcV RX4 32 yX4_nextToken 4 0 := ⟨(lwg_of (tb2 (List.mem_of_getElem? (i := 60) rfl)) rfl), (lwg_of (tb2 (List.mem_of_getElem? (i := 62) rfl)) rfl), (lwg_of (tb0 (List.mem_of_getElem? (i := 2) rfl)) rfl), (lwg_of (tb1 (List.mem_of_getElem? (i := 2) rfl)) rfl), ⟨_, _, rfl⟩, ⟨by decide, by decide, rfl⟩⟩
theorem lk_X4_35 : qcV RX4 35 yX4_readLaw 4 0 := ⟨(lwg_of (tb2 (List.mem_of_getElem? (i := 71) rfl)) rfl), (lwg_of (tb2 (List.mem_of_getElem? (i := 73) rfl)) rfl), (lwg_of (tb0 (List.mem_of_getElem? (i := 4) rfl)) rfl), (lwg_of (tb1 (List.mem_of_getElem? (i := 2) rfl)) rfl), ⟨_, _, rfl⟩, ⟨by decide, by decide, rfl⟩⟩
theorem lk_X4_39 : qcV RX4 39 yX4_readSleepers 4 0 := ⟨(lwg_of (tb2 (List.mem_of_getElem? (i := 90) rfl)) rfl), (lwg_of (tb2 (List.mem_of_getElem? (i := 92) rfl)) rfl), (lwg_of (tb0 (List.mem_of_getElem? (i := 8) rfl)) rfl), (lwg_of (tb1 (List.mem_of_getElem? (i := 2) rfl)) rfl), ⟨_, _, rfl⟩, ⟨by decide, by decide, rfl⟩⟩
theorem fl_X4_42 : qfl RX4 42 4 4 .int false := ⟨RX4, TX4, 9, tyX4, rfl, by decide, iw_X4, tyX4_ok, nmX4, (lwg_of (tb1 (List.mem_of_getElem? (i := 93) rfl)) rfl), rfl, rfl, rfl⟩
theorem lk_X4_45 : qcV RX4 45 yX4_takeSign 4 1 := ⟨(lwg_of (tb2 (List.mem_of_getElem? (i := 75) rfl)) rfl), (lwg_of (tb2 (List.mem_of_getElem? (i := 77) rfl)) rfl), (lwg_of (tb0 (List.mem_of_getElem? (i := 5) rfl)) rfl), (lwg_of (tb1 (List.mem_of_getElem? (i := 2) rfl)) rfl), ⟨_, _, rfl⟩, ⟨by decide, by decide, rfl⟩⟩
theorem lk_X4_49 : qcV RX4 49 yX4_takeNumber 4 2 := ⟨(lwg_of (tb2 (List.mem_of_getElem? (i := 83) rfl)) rfl), (lwg_of (tb2 (List.mem_of_getElem? (i := 85) rfl)) rfl), (lwg_of (tb0 (List.mem_of_getElem? (i := 7) rfl)) rfl), (lwg_of (tb1 (List.mem_of_getElem? (i := 2) rfl)) rfl), ⟨_, _, rfl⟩, ⟨by decide, by decide, rfl⟩⟩
theorem fl_X4_53 : qfl RX4 53 4 8 .int false := ⟨RX4, TX4, 9, tyX4, rfl, by decide, iw_X4, tyX4_ok, nmX4, (lwg_of (tb1 (List.mem_of_getElem? (i := 97) rfl)) rfl), rfl, rfl, rfl⟩
theorem fl_X4_56 : qfl RX4 56 5 0 .int false := ⟨RX5, TX5, 10, tyX5, rfl, by decide, iw_X5, tyX5_ok, nmX5, (lwg_of (tb1 (List.mem_of_getElem? (i := 35) rfl)) rfl), rfl, rfl, rfl⟩
theorem lk_X4_59 : qcSN RX4 59 yX6_bit 1 := ⟨⟨"DreamGraves", List.mem_filter.mpr ⟨tc2 (List.mem_of_getElem? (i := 87) rfl), rfl⟩⟩, (lwg_of (tb2 (List.mem_of_getElem? (i := 88) rfl)) rfl), (lwg_of (tb1 (List.mem_of_getElem? (i := 1) rfl)) rfl), ⟨by decide, by decide, rfl⟩⟩
theorem fl_X4_63 : qfl RX4 63 5 5 .int false := ⟨RX5, TX5, 10, tyX5, rfl, by decide, iw_X5, tyX5_ok, nmX5, (lwg_of (tb1 (List.mem_of_getElem? (i := 50) rfl)) rfl), rfl, rfl, rfl⟩
theorem fl_X4_66 : qfl RX4 66 5 1 .int false := ⟨RX5, TX5, 10, tyX5, rfl, by decide, iw_X5, tyX5_ok, nmX5, (lwg_of (tb1 (List.mem_of_getElem? (i := 38) rfl)) rfl), rfl, rfl, rfl⟩
theorem fl_X4_69 : qfl RX4 69 5 2 .int false := ⟨RX5, TX5, 10, tyX5, rfl, by decide, iw_X5, tyX5_ok, nmX5, (lwg_of (tb1 (List.mem_of_getElem? (i := 41) rfl)) rfl), rfl, rfl, rfl⟩
theorem fl_X4_72 : qfl RX4 72 4 6 .int false := ⟨RX4, TX4, 9, tyX4, rfl, by decide, iw_X4, tyX4_ok, nmX4, (lwg_of (tb1 (List.mem_of_getElem? (i := 95) rfl)) rfl), rfl, rfl, rfl⟩
theorem lk_X4_75 : qcV RX4 75 yX4_readSleeper 4 1 := ⟨(lwg_of (tb2 (List.mem_of_getElem? (i := 94) rfl)) rfl), (lwg_of (tb2 (List.mem_of_getElem? (i := 96) rfl)) rfl), (lwg_of (tb0 (List.mem_of_getElem? (i := 9) rfl)) rfl), (lwg_of (tb1 (List.mem_of_getElem? (i := 2) rfl)) rfl), ⟨_, _, rfl⟩, ⟨by decide, by decide, rfl⟩⟩
theorem lk_X4_78 : qcS RX4 78 yX4_kindTold 1 := ⟨(lwg_of (tb2 (List.mem_of_getElem? (i := 98) rfl)) rfl), (lwg_of (tb2 (List.mem_of_getElem? (i := 99) rfl)) rfl), (lwg_of (tb1 (List.mem_of_getElem? (i := 2) rfl)) rfl), ⟨by decide, by decide, rfl⟩⟩
theorem lk_X4_81 : qcV RX4 81 yX4_fail 4 1 := ⟨(lwg_of (tb2 (List.mem_of_getElem? (i := 79) rfl)) rfl), (lwg_of (tb2 (List.mem_of_getElem? (i := 81) rfl)) rfl), (lwg_of (tb0 (List.mem_of_getElem? (i := 6) rfl)) rfl), (lwg_of (tb1 (List.mem_of_getElem? (i := 2) rfl)) rfl), ⟨_, _, rfl⟩, ⟨by decide, by decide, rfl⟩⟩
theorem fl_X4_84 : qfl RX4 84 5 8 (.array .int) true := ⟨RX5, TX5, 10, tyX5, rfl, by decide, iw_X5, tyX5_ok, nmX5, (lwg_of (tb1 (List.mem_of_getElem? (i := 60) rfl)) rfl), rfl, rfl, rfl⟩
theorem fl_X4_87 : qfl RX4 87 5 3 .int false := ⟨RX5, TX5, 10, tyX5, rfl, by decide, iw_X5, tyX5_ok, nmX5, (lwg_of (tb1 (List.mem_of_getElem? (i := 44) rfl)) rfl), rfl, rfl, rfl⟩
theorem lk_X4_90 : qcV RX4 90 yX5_remember 5 3 := ⟨(lwg_of (tb2 (List.mem_of_getElem? (i := 101) rfl)) rfl), (lwg_of (tb2 (List.mem_of_getElem? (i := 102) rfl)) rfl), (lwg_of (tb2 (List.mem_of_getElem? (i := 103) rfl)) rfl), (lwg_of (tb1 (List.mem_of_getElem? (i := 3) rfl)) rfl), ⟨_, _, rfl⟩, ⟨by decide, by decide, rfl⟩⟩
theorem fl_X4_94 : qfl RX4 94 4 2 .int false := ⟨RX4, TX4, 9, tyX4, rfl, by decide, iw_X4, tyX4_ok, nmX4, (lwg_of (tb1 (List.mem_of_getElem? (i := 90) rfl)) rfl), rfl, rfl, rfl⟩
theorem fl_X4_97 : qfl RX4 97 4 7 .int false := ⟨RX4, TX4, 9, tyX4, rfl, by decide, iw_X4, tyX4_ok, nmX4, (lwg_of (tb1 (List.mem_of_getElem? (i := 96) rfl)) rfl), rfl, rfl, rfl⟩
theorem lk_X4_100 : qcS RX4 100 yX4_isFigure 1 := ⟨(lwg_of (tb2 (List.mem_of_getElem? (i := 64) rfl)) rfl), (lwg_of (tb2 (List.mem_of_getElem? (i := 65) rfl)) rfl), (lwg_of (tb1 (List.mem_of_getElem? (i := 2) rfl)) rfl), ⟨by decide, by decide, rfl⟩⟩
theorem lk_X4_103 : qcV RX4 103 yX4_takeFigures 4 0 := ⟨(lwg_of (tb2 (List.mem_of_getElem? (i := 67) rfl)) rfl), (lwg_of (tb2 (List.mem_of_getElem? (i := 69) rfl)) rfl), (lwg_of (tb0 (List.mem_of_getElem? (i := 3) rfl)) rfl), (lwg_of (tb1 (List.mem_of_getElem? (i := 2) rfl)) rfl), ⟨_, _, rfl⟩, ⟨by decide, by decide, rfl⟩⟩
theorem fl_X5_9 : qfl RX5 9 5 8 (.array .int) true := ⟨RX5, TX5, 10, tyX5, rfl, by decide, iw_X5, tyX5_ok, nmX5, (lwg_of (tb1 (List.mem_of_getElem? (i := 58) rfl)) rfl), rfl, rfl, rfl⟩
theorem fl_X5_15 : qfl RX5 15 5 9 (.array .int) true := ⟨RX5, TX5, 10, tyX5, rfl, by decide, iw_X5, tyX5_ok, nmX5, (lwg_of (tb1 (List.mem_of_getElem? (i := 63) rfl)) rfl), rfl, rfl, rfl⟩
theorem fl_X5_18 : qfl RX5 18 5 0 .int false := ⟨RX5, TX5, 10, tyX5, rfl, by decide, iw_X5, tyX5_ok, nmX5, (lwg_of (tb1 (List.mem_of_getElem? (i := 34) rfl)) rfl), rfl, rfl, rfl⟩
theorem fl_X5_22 : qfl RX5 22 5 1 .int false := ⟨RX5, TX5, 10, tyX5, rfl, by decide, iw_X5, tyX5_ok, nmX5, (lwg_of (tb1 (List.mem_of_getElem? (i := 37) rfl)) rfl), rfl, rfl, rfl⟩
theorem fl_X5_25 : qfl RX5 25 5 2 .int false := ⟨RX5, TX5, 10, tyX5, rfl, by decide, iw_X5, tyX5_ok, nmX5, (lwg_of (tb1 (List.mem_of_getElem? (i := 40) rfl)) rfl), rfl, rfl, rfl⟩
theorem fl_X5_28 : qfl RX5 28 5 3 .int false := ⟨RX5, TX5, 10, tyX5, rfl, by decide, iw_X5, tyX5_ok, nmX5, (lwg_of (tb1 (List.mem_of_getElem? (i := 42) rfl)) rfl), rfl, rfl, rfl⟩
theorem fl_X5_31 : qfl RX5 31 5 4 .int false := ⟨RX5, TX5, 10, tyX5, rfl, by decide, iw_X5, tyX5_ok, nmX5, (lwg_of (tb1 (List.mem_of_getElem? (i := 46) rfl)) rfl), rfl, rfl, rfl⟩
theorem fl_X5_34 : qfl RX5 34 5 5 .int false := ⟨RX5, TX5, 10, tyX5, rfl, by decide, iw_X5, tyX5_ok, nmX5, (lwg_of (tb1 (List.mem_of_getElem? (i := 49) rfl)) rfl), rfl, rfl, rfl⟩
theorem fl_X5_37 : qfl RX5 37 5 6 .int false := ⟨RX5, TX5, 10, tyX5, rfl, by decide, iw_X5, tyX5_ok, nmX5, (lwg_of (tb1 (List.mem_of_getElem? (i := 52) rfl)) rfl), rfl, rfl, rfl⟩
theorem fl_X5_40 : qfl RX5 40 5 7 .int false := ⟨RX5, TX5, 10, tyX5, rfl, by decide, iw_X5, tyX5_ok, nmX5, (lwg_of (tb1 (List.mem_of_getElem? (i := 55) rfl)) rfl), rfl, rfl, rfl⟩
theorem lk_X5_43 : qcS RX5 43 yJ7_fill_53178 2 := ⟨(lwg_of (tb2 (List.mem_of_getElem? (i := 59) rfl)) rfl), (lwg_of (tb1 (List.mem_of_getElem? (i := 239) rfl)) rfl), (lwg_of (tb1 (List.mem_of_getElem? (i := 9) rfl)) rfl), ⟨by decide, by decide, rfl⟩⟩
theorem lk_X5_49 : Cond.methodLink RX5 49 arraycopyName ∈ lwg := (lwg_of (tb2 (List.mem_of_getElem? (i := 113) rfl)) rfl)
theorem lk_X5_55 : qcS RX5 55 yX5_hasRoom 2 := ⟨(lwg_of (tb2 (List.mem_of_getElem? (i := 105) rfl)) rfl), (lwg_of (tb2 (List.mem_of_getElem? (i := 106) rfl)) rfl), (lwg_of (tb1 (List.mem_of_getElem? (i := 3) rfl)) rfl), ⟨by decide, by decide, rfl⟩⟩
theorem lk_X5_59 : qcV RX5 59 yX5_memoryOf 5 2 := ⟨(lwg_of (tb3 (List.mem_of_getElem? (i := 4) rfl)) rfl), (lwg_of (tb2 (List.mem_of_getElem? (i := 228) rfl)) rfl), (lwg_of (tb2 (List.mem_of_getElem? (i := 229) rfl)) rfl), (lwg_of (tb1 (List.mem_of_getElem? (i := 3) rfl)) rfl), ⟨_, _, rfl⟩, ⟨by decide, by decide, rfl⟩⟩
theorem lk_X5_63 : qcV RX5 63 yX5_allMemoryOf 5 1 := ⟨(lwg_of (tb3 (List.mem_of_getElem? (i := 158) rfl)) rfl), (lwg_of (tb3 (List.mem_of_getElem? (i := 1) rfl)) rfl), (lwg_of (tb3 (List.mem_of_getElem? (i := 2) rfl)) rfl), (lwg_of (tb1 (List.mem_of_getElem? (i := 3) rfl)) rfl), ⟨_, _, rfl⟩, ⟨by decide, by decide, rfl⟩⟩
theorem lk_X5_67 : Cond.constant RX5 67 (-1000000) ∈ lwg := (lwg_of (tb2 (List.mem_of_getElem? (i := 172) rfl)) rfl)
theorem lk_X5_68 : qcSN RX5 68 yX6_hasBit 2 := ⟨⟨"DreamGraves", List.mem_filter.mpr ⟨tc2 (List.mem_of_getElem? (i := 160) rfl), rfl⟩⟩, (lwg_of (tb2 (List.mem_of_getElem? (i := 161) rfl)) rfl), (lwg_of (tb1 (List.mem_of_getElem? (i := 1) rfl)) rfl), ⟨by decide, by decide, rfl⟩⟩
theorem lk_X5_71 : qcV RX5 71 yX5_rememberedBy 5 1 := ⟨(lwg_of (tb2 (List.mem_of_getElem? (i := 163) rfl)) rfl), (lwg_of (tb2 (List.mem_of_getElem? (i := 165) rfl)) rfl), (lwg_of (tb0 (List.mem_of_getElem? (i := 11) rfl)) rfl), (lwg_of (tb1 (List.mem_of_getElem? (i := 3) rfl)) rfl), ⟨_, _, rfl⟩, ⟨by decide, by decide, rfl⟩⟩
theorem lk_X5_74 : qcV RX5 74 yX5_clearest 5 3 := ⟨(lwg_of (tb2 (List.mem_of_getElem? (i := 168) rfl)) rfl), (lwg_of (tb2 (List.mem_of_getElem? (i := 169) rfl)) rfl), (lwg_of (tb2 (List.mem_of_getElem? (i := 170) rfl)) rfl), (lwg_of (tb1 (List.mem_of_getElem? (i := 3) rfl)) rfl), ⟨_, _, rfl⟩, ⟨by decide, by decide, rfl⟩⟩
theorem lk_X5_78 : qcSN RX5 78 yX6_bit 1 := ⟨⟨"DreamGraves", List.mem_filter.mpr ⟨tc2 (List.mem_of_getElem? (i := 167) rfl), rfl⟩⟩, (lwg_of (tb2 (List.mem_of_getElem? (i := 88) rfl)) rfl), (lwg_of (tb1 (List.mem_of_getElem? (i := 1) rfl)) rfl), ⟨by decide, by decide, rfl⟩⟩
theorem lk_X5_81 : qcV RX5 81 yX5_nextBehind 5 1 := ⟨(lwg_of (tb2 (List.mem_of_getElem? (i := 173) rfl)) rfl), (lwg_of (tb2 (List.mem_of_getElem? (i := 175) rfl)) rfl), (lwg_of (tb0 (List.mem_of_getElem? (i := 12) rfl)) rfl), (lwg_of (tb1 (List.mem_of_getElem? (i := 3) rfl)) rfl), ⟨_, _, rfl⟩, ⟨by decide, by decide, rfl⟩⟩
theorem lk_X5_84 : qcV RX5 84 yX5_graveOfYear 5 0 := ⟨(lwg_of (tb2 (List.mem_of_getElem? (i := 177) rfl)) rfl), (lwg_of (tb2 (List.mem_of_getElem? (i := 179) rfl)) rfl), (lwg_of (tb0 (List.mem_of_getElem? (i := 13) rfl)) rfl), (lwg_of (tb1 (List.mem_of_getElem? (i := 3) rfl)) rfl), ⟨_, _, rfl⟩, ⟨by decide, by decide, rfl⟩⟩
theorem lk_X5_88 : qcV RX5 88 yX5_dreamsOf 5 1 := ⟨(lwg_of (tb2 (List.mem_of_getElem? (i := 156) rfl)) rfl), (lwg_of (tb2 (List.mem_of_getElem? (i := 157) rfl)) rfl), (lwg_of (tb2 (List.mem_of_getElem? (i := 158) rfl)) rfl), (lwg_of (tb1 (List.mem_of_getElem? (i := 3) rfl)) rfl), ⟨_, _, rfl⟩, ⟨by decide, by decide, rfl⟩⟩
theorem lk_X5_91 : qcV RX5 91 yX5_digUndreamt 5 0 := ⟨(lwg_of (tb2 (List.mem_of_getElem? (i := 152) rfl)) rfl), (lwg_of (tb2 (List.mem_of_getElem? (i := 153) rfl)) rfl), (lwg_of (tb2 (List.mem_of_getElem? (i := 154) rfl)) rfl), (lwg_of (tb1 (List.mem_of_getElem? (i := 3) rfl)) rfl), ⟨_, _, rfl⟩, ⟨by decide, by decide, rfl⟩⟩
theorem lk_X5_94 : qcV RX5 94 yX5_endYear 5 0 := ⟨(lwg_of (tb2 (List.mem_of_getElem? (i := 186) rfl)) rfl), (lwg_of (tb2 (List.mem_of_getElem? (i := 187) rfl)) rfl), (lwg_of (tb2 (List.mem_of_getElem? (i := 188) rfl)) rfl), (lwg_of (tb1 (List.mem_of_getElem? (i := 3) rfl)) rfl), ⟨_, _, rfl⟩, ⟨by decide, by decide, rfl⟩⟩
theorem lk_X5_97 : qcV RX5 97 yX5_forgetByAll 5 1 := ⟨(lwg_of (tb2 (List.mem_of_getElem? (i := 181) rfl)) rfl), (lwg_of (tb2 (List.mem_of_getElem? (i := 183) rfl)) rfl), (lwg_of (tb0 (List.mem_of_getElem? (i := 14) rfl)) rfl), (lwg_of (tb1 (List.mem_of_getElem? (i := 3) rfl)) rfl), ⟨_, _, rfl⟩, ⟨by decide, by decide, rfl⟩⟩
theorem lk_X5_101 : qcV RX5 101 yX5_remember 5 3 := ⟨(lwg_of (tb2 (List.mem_of_getElem? (i := 185) rfl)) rfl), (lwg_of (tb2 (List.mem_of_getElem? (i := 102) rfl)) rfl), (lwg_of (tb2 (List.mem_of_getElem? (i := 103) rfl)) rfl), (lwg_of (tb1 (List.mem_of_getElem? (i := 3) rfl)) rfl), ⟨_, _, rfl⟩, ⟨by decide, by decide, rfl⟩⟩
theorem lk_X5_105 : qcV RX5 105 yX5_fadeFor 5 1 := ⟨(lwg_of (tb2 (List.mem_of_getElem? (i := 190) rfl)) rfl), (lwg_of (tb2 (List.mem_of_getElem? (i := 192) rfl)) rfl), (lwg_of (tb0 (List.mem_of_getElem? (i := 15) rfl)) rfl), (lwg_of (tb1 (List.mem_of_getElem? (i := 3) rfl)) rfl), ⟨_, _, rfl⟩, ⟨by decide, by decide, rfl⟩⟩
theorem lk_X5_108 : qcV RX5 108 yX5_faded 5 1 := ⟨(lwg_of (tb2 (List.mem_of_getElem? (i := 194) rfl)) rfl), (lwg_of (tb2 (List.mem_of_getElem? (i := 195) rfl)) rfl), (lwg_of (tb2 (List.mem_of_getElem? (i := 196) rfl)) rfl), (lwg_of (tb1 (List.mem_of_getElem? (i := 3) rfl)) rfl), ⟨_, _, rfl⟩, ⟨by decide, by decide, rfl⟩⟩
theorem fl_X6_11 : qfl RX6 11 6 0 (.array (.object "DreamGraves$Row")) true := ⟨RX6, TX6, 8, tyX6, rfl, by decide, iw_X6, tyX6_ok, nmX6, (lwg_of (tb1 (List.mem_of_getElem? (i := 196) rfl)) rfl), rfl, rfl, rfl⟩
theorem lk_X6_17 : qcIN RX6 17 yX4_init 0 := ⟨⟨"DreamGraves", List.mem_filter.mpr ⟨tc1 (List.mem_of_getElem? (i := 24) rfl), rfl⟩⟩, (lwg_of (tb1 (List.mem_of_getElem? (i := 25) rfl)) rfl), (lwg_of (tb1 (List.mem_of_getElem? (i := 2) rfl)) rfl), rfl, ⟨by decide, by decide, rfl⟩⟩
theorem fl_X6_18 : qfl RX6 18 6 1 (.object "DreamGraves$Tape") true := ⟨RX6, TX6, 8, tyX6, rfl, by decide, iw_X6, tyX6_ok, nmX6, (lwg_of (tb1 (List.mem_of_getElem? (i := 197) rfl)) rfl), rfl, rfl, rfl⟩
theorem lk_X6_24 : qcIN RX6 24 yX5_init 0 := ⟨⟨"DreamGraves", List.mem_filter.mpr ⟨tc1 (List.mem_of_getElem? (i := 118) rfl), rfl⟩⟩, (lwg_of (tb1 (List.mem_of_getElem? (i := 31) rfl)) rfl), (lwg_of (tb1 (List.mem_of_getElem? (i := 3) rfl)) rfl), rfl, ⟨by decide, by decide, rfl⟩⟩
theorem fl_X6_25 : qfl RX6 25 6 2 (.object "DreamGraves$Yard") true := ⟨RX6, TX6, 8, tyX6, rfl, by decide, iw_X6, tyX6_ok, nmX6, (lwg_of (tb1 (List.mem_of_getElem? (i := 198) rfl)) rfl), rfl, rfl, rfl⟩
theorem lk_X6_31 : qcI RX6 31 yX1_init 0 := ⟨(lwg_of (tb1 (List.mem_of_getElem? (i := 121) rfl)) rfl), (lwg_of (tb1 (List.mem_of_getElem? (i := 122) rfl)) rfl), (lwg_of (tb1 (List.mem_of_getElem? (i := 4) rfl)) rfl), rfl, ⟨by decide, by decide, rfl⟩⟩
theorem fl_X6_32 : qfl RX6 32 6 3 (.object "DreamGraves$Past") true := ⟨RX6, TX6, 8, tyX6, rfl, by decide, iw_X6, tyX6_ok, nmX6, (lwg_of (tb1 (List.mem_of_getElem? (i := 199) rfl)) rfl), rfl, rfl, rfl⟩
theorem fl_X6_36 : qfl RX6 36 6 4 (.array (.object "DreamGraves$Yard")) true := ⟨RX6, TX6, 8, tyX6, rfl, by decide, iw_X6, tyX6_ok, nmX6, (lwg_of (tb1 (List.mem_of_getElem? (i := 200) rfl)) rfl), rfl, rfl, rfl⟩
theorem lk_X6_42 : qcI RX6 42 yX3_init 0 := ⟨(lwg_of (tb1 (List.mem_of_getElem? (i := 141) rfl)) rfl), (lwg_of (tb1 (List.mem_of_getElem? (i := 142) rfl)) rfl), (lwg_of (tb1 (List.mem_of_getElem? (i := 5) rfl)) rfl), rfl, ⟨by decide, by decide, rfl⟩⟩
theorem fl_X6_43 : qfl RX6 43 6 5 (.object "DreamGraves$Seer") true := ⟨RX6, TX6, 8, tyX6, rfl, by decide, iw_X6, tyX6_ok, nmX6, (lwg_of (tb1 (List.mem_of_getElem? (i := 201) rfl)) rfl), rfl, rfl, rfl⟩
theorem lk_X6_49 : qcIN RX6 49 yX0_init 0 := ⟨⟨"DreamGraves", List.mem_filter.mpr ⟨tc1 (List.mem_of_getElem? (i := 164) rfl), rfl⟩⟩, (lwg_of (tb1 (List.mem_of_getElem? (i := 165) rfl)) rfl), (lwg_of (tb1 (List.mem_of_getElem? (i := 6) rfl)) rfl), rfl, ⟨by decide, by decide, rfl⟩⟩
theorem fl_X6_50 : qfl RX6 50 6 6 (.object "DreamGraves$Asker") true := ⟨RX6, TX6, 8, tyX6, rfl, by decide, iw_X6, tyX6_ok, nmX6, (lwg_of (tb1 (List.mem_of_getElem? (i := 202) rfl)) rfl), rfl, rfl, rfl⟩
theorem lk_X6_54 : qcIN RX6 54 yX2_init 0 := ⟨⟨"DreamGraves", List.mem_filter.mpr ⟨tc1 (List.mem_of_getElem? (i := 178) rfl), rfl⟩⟩, (lwg_of (tb1 (List.mem_of_getElem? (i := 179) rfl)) rfl), (lwg_of (tb1 (List.mem_of_getElem? (i := 7) rfl)) rfl), rfl, ⟨by decide, by decide, rfl⟩⟩
theorem lk_X6_55 : qcS RX6 55 yX6_isRow 1 := ⟨(lwg_of (tb1 (List.mem_of_getElem? (i := 225) rfl)) rfl), (lwg_of (tb1 (List.mem_of_getElem? (i := 226) rfl)) rfl), (lwg_of (tb1 (List.mem_of_getElem? (i := 1) rfl)) rfl), ⟨by decide, by decide, rfl⟩⟩
theorem lk_X6_59 : Cond.constant RX6 59 (-1000001) ∈ lwg := (lwg_of (tb1 (List.mem_of_getElem? (i := 228) rfl)) rfl)
theorem lk_X6_60 : qcV RX6 60 yX6_found 6 1 := ⟨(lwg_of (tb1 (List.mem_of_getElem? (i := 229) rfl)) rfl), (lwg_of (tb1 (List.mem_of_getElem? (i := 231) rfl)) rfl), (lwg_of (tb0 (List.mem_of_getElem? (i := 0) rfl)) rfl), (lwg_of (tb1 (List.mem_of_getElem? (i := 1) rfl)) rfl), ⟨_, _, rfl⟩, ⟨by decide, by decide, rfl⟩⟩
theorem lk_X6_64 : qcV RX6 64 yX2_lay 2 2 := ⟨(lwg_of (tb1 (List.mem_of_getElem? (i := 234) rfl)) rfl), (lwg_of (tb1 (List.mem_of_getElem? (i := 235) rfl)) rfl), (lwg_of (tb1 (List.mem_of_getElem? (i := 236) rfl)) rfl), (lwg_of (tb1 (List.mem_of_getElem? (i := 7) rfl)) rfl), ⟨_, _, rfl⟩, ⟨by decide, by decide, rfl⟩⟩
theorem lk_X6_68 : qcV RX6 68 yX6_sound 6 1 := ⟨(lwg_of (tb2 (List.mem_of_getElem? (i := 1) rfl)) rfl), (lwg_of (tb2 (List.mem_of_getElem? (i := 3) rfl)) rfl), (lwg_of (tb0 (List.mem_of_getElem? (i := 1) rfl)) rfl), (lwg_of (tb1 (List.mem_of_getElem? (i := 1) rfl)) rfl), ⟨_, _, rfl⟩, ⟨by decide, by decide, rfl⟩⟩
theorem lk_X6_71 : qcV RX6 71 yX2_findingAt 2 2 := ⟨(lwg_of (tb2 (List.mem_of_getElem? (i := 9) rfl)) rfl), (lwg_of (tb2 (List.mem_of_getElem? (i := 10) rfl)) rfl), (lwg_of (tb2 (List.mem_of_getElem? (i := 11) rfl)) rfl), (lwg_of (tb1 (List.mem_of_getElem? (i := 7) rfl)) rfl), ⟨_, _, rfl⟩, ⟨by decide, by decide, rfl⟩⟩
theorem lk_X6_75 : qcV RX6 75 yX2_put 2 2 := ⟨(lwg_of (tb2 (List.mem_of_getElem? (i := 21) rfl)) rfl), (lwg_of (tb2 (List.mem_of_getElem? (i := 22) rfl)) rfl), (lwg_of (tb2 (List.mem_of_getElem? (i := 23) rfl)) rfl), (lwg_of (tb1 (List.mem_of_getElem? (i := 7) rfl)) rfl), ⟨_, _, rfl⟩, ⟨by decide, by decide, rfl⟩⟩
theorem lk_X6_78 : qcV RX6 78 yX2_isMissing 2 0 := ⟨(lwg_of (tb2 (List.mem_of_getElem? (i := 29) rfl)) rfl), (lwg_of (tb2 (List.mem_of_getElem? (i := 14) rfl)) rfl), (lwg_of (tb2 (List.mem_of_getElem? (i := 15) rfl)) rfl), (lwg_of (tb1 (List.mem_of_getElem? (i := 7) rfl)) rfl), ⟨_, _, rfl⟩, ⟨by decide, by decide, rfl⟩⟩
theorem fl_X6_82 : qfl RX6 82 2 0 .int false := ⟨RX2, TX2, 3, tyX2, rfl, by decide, iw_X2, tyX2_ok, nmX2, (lwg_of (tb1 (List.mem_of_getElem? (i := 183) rfl)) rfl), rfl, rfl, rfl⟩
theorem lk_X6_86 : qcV RX6 86 yX2_holds 2 2 := ⟨(lwg_of (tb2 (List.mem_of_getElem? (i := 30) rfl)) rfl), (lwg_of (tb2 (List.mem_of_getElem? (i := 18) rfl)) rfl), (lwg_of (tb2 (List.mem_of_getElem? (i := 19) rfl)) rfl), (lwg_of (tb1 (List.mem_of_getElem? (i := 7) rfl)) rfl), ⟨_, _, rfl⟩, ⟨by decide, by decide, rfl⟩⟩
theorem fl_X6_90 : qfl RX6 90 2 2 (.array .int) true := ⟨RX2, TX2, 3, tyX2, rfl, by decide, iw_X2, tyX2_ok, nmX2, (lwg_of (tb1 (List.mem_of_getElem? (i := 187) rfl)) rfl), rfl, rfl, rfl⟩
theorem lk_X6_94 : Cond.methodLink RX6 94 arraycopyName ∈ lwg := (lwg_of (tb2 (List.mem_of_getElem? (i := 31) rfl)) rfl)
theorem fl_X6_100 : qfl RX6 100 2 1 .int false := ⟨RX2, TX2, 3, tyX2, rfl, by decide, iw_X2, tyX2_ok, nmX2, (lwg_of (tb1 (List.mem_of_getElem? (i := 185) rfl)) rfl), rfl, rfl, rfl⟩
theorem lk_X6_103 : qcV RX6 103 yX4_add 4 1 := ⟨(lwg_of (tb2 (List.mem_of_getElem? (i := 42) rfl)) rfl), (lwg_of (tb2 (List.mem_of_getElem? (i := 43) rfl)) rfl), (lwg_of (tb2 (List.mem_of_getElem? (i := 44) rfl)) rfl), (lwg_of (tb1 (List.mem_of_getElem? (i := 2) rfl)) rfl), ⟨_, _, rfl⟩, ⟨by decide, by decide, rfl⟩⟩
theorem fl_X6_106 : qfl RX6 106 4 1 .int false := ⟨RX4, TX4, 9, tyX4, rfl, by decide, iw_X4, tyX4_ok, nmX4, (lwg_of (tb1 (List.mem_of_getElem? (i := 89) rfl)) rfl), rfl, rfl, rfl⟩
theorem lk_X6_107 : Cond.constant RX6 107 (-1000003) ∈ lwg := (lwg_of (tb2 (List.mem_of_getElem? (i := 46) rfl)) rfl)
theorem lk_X6_108 : qcV RX6 108 yX4_read 4 0 := ⟨(lwg_of (tb2 (List.mem_of_getElem? (i := 51) rfl)) rfl), (lwg_of (tb2 (List.mem_of_getElem? (i := 52) rfl)) rfl), (lwg_of (tb2 (List.mem_of_getElem? (i := 53) rfl)) rfl), (lwg_of (tb1 (List.mem_of_getElem? (i := 2) rfl)) rfl), ⟨_, _, rfl⟩, ⟨by decide, by decide, rfl⟩⟩
theorem lk_X6_112 : Cond.constant RX6 112 (-1000100) ∈ lwg := (lwg_of (tb2 (List.mem_of_getElem? (i := 108) rfl)) rfl)
theorem fl_X6_113 : qfl RX6 113 4 0 (.object "DreamGraves$Yard") true := ⟨RX4, TX4, 9, tyX4, rfl, by decide, iw_X4, tyX4_ok, nmX4, (lwg_of (tb1 (List.mem_of_getElem? (i := 87) rfl)) rfl), rfl, rfl, rfl⟩
theorem lk_X6_116 : qcV RX6 116 yX5_become 5 1 := ⟨(lwg_of (tb2 (List.mem_of_getElem? (i := 109) rfl)) rfl), (lwg_of (tb2 (List.mem_of_getElem? (i := 110) rfl)) rfl), (lwg_of (tb2 (List.mem_of_getElem? (i := 111) rfl)) rfl), (lwg_of (tb1 (List.mem_of_getElem? (i := 3) rfl)) rfl), ⟨_, _, rfl⟩, ⟨by decide, by decide, rfl⟩⟩
theorem lk_X6_120 : qcV RX6 120 yX1_clear 1 0 := ⟨(lwg_of (tb2 (List.mem_of_getElem? (i := 114) rfl)) rfl), (lwg_of (tb2 (List.mem_of_getElem? (i := 115) rfl)) rfl), (lwg_of (tb2 (List.mem_of_getElem? (i := 116) rfl)) rfl), (lwg_of (tb1 (List.mem_of_getElem? (i := 4) rfl)) rfl), ⟨_, _, rfl⟩, ⟨by decide, by decide, rfl⟩⟩
theorem fl_X6_123 : qfl RX6 123 5 3 .int false := ⟨RX5, TX5, 10, tyX5, rfl, by decide, iw_X5, tyX5_ok, nmX5, (lwg_of (tb1 (List.mem_of_getElem? (i := 45) rfl)) rfl), rfl, rfl, rfl⟩
theorem fl_X6_126 : qfl RX6 126 4 2 .int false := ⟨RX4, TX4, 9, tyX4, rfl, by decide, iw_X4, tyX4_ok, nmX4, (lwg_of (tb1 (List.mem_of_getElem? (i := 91) rfl)) rfl), rfl, rfl, rfl⟩
theorem lk_X6_129 : qcV RX6 129 yX1_giveBack 1 1 := ⟨(lwg_of (tb2 (List.mem_of_getElem? (i := 126) rfl)) rfl), (lwg_of (tb2 (List.mem_of_getElem? (i := 127) rfl)) rfl), (lwg_of (tb2 (List.mem_of_getElem? (i := 128) rfl)) rfl), (lwg_of (tb1 (List.mem_of_getElem? (i := 4) rfl)) rfl), ⟨_, _, rfl⟩, ⟨by decide, by decide, rfl⟩⟩
theorem fl_X6_133 : qfl RX6 133 1 0 .int false := ⟨RX1, TX1, 3, tyX1, rfl, by decide, iw_X1, tyX1_ok, nmX1, (lwg_of (tb1 (List.mem_of_getElem? (i := 129) rfl)) rfl), rfl, rfl, rfl⟩
theorem lk_X6_134 : Cond.constant RX6 134 (-1000002) ∈ lwg := (lwg_of (tb2 (List.mem_of_getElem? (i := 131) rfl)) rfl)
theorem lk_X6_135 : qcV RX6 135 yX6_noYard 6 0 := ⟨(lwg_of (tb2 (List.mem_of_getElem? (i := 136) rfl)) rfl), (lwg_of (tb2 (List.mem_of_getElem? (i := 138) rfl)) rfl), (lwg_of (tb0 (List.mem_of_getElem? (i := 10) rfl)) rfl), (lwg_of (tb1 (List.mem_of_getElem? (i := 1) rfl)) rfl), ⟨_, _, rfl⟩, ⟨by decide, by decide, rfl⟩⟩
theorem fl_X6_138 : qfl RX6 138 5 4 .int false := ⟨RX5, TX5, 10, tyX5, rfl, by decide, iw_X5, tyX5_ok, nmX5, (lwg_of (tb1 (List.mem_of_getElem? (i := 47) rfl)) rfl), rfl, rfl, rfl⟩
theorem lk_X6_141 : qcV RX6 141 yX1_keep 1 1 := ⟨(lwg_of (tb2 (List.mem_of_getElem? (i := 144) rfl)) rfl), (lwg_of (tb2 (List.mem_of_getElem? (i := 145) rfl)) rfl), (lwg_of (tb2 (List.mem_of_getElem? (i := 146) rfl)) rfl), (lwg_of (tb1 (List.mem_of_getElem? (i := 4) rfl)) rfl), ⟨_, _, rfl⟩, ⟨by decide, by decide, rfl⟩⟩
theorem lk_X6_144 : qcV RX6 144 yX5_pass 5 0 := ⟨(lwg_of (tb2 (List.mem_of_getElem? (i := 148) rfl)) rfl), (lwg_of (tb2 (List.mem_of_getElem? (i := 149) rfl)) rfl), (lwg_of (tb2 (List.mem_of_getElem? (i := 150) rfl)) rfl), (lwg_of (tb1 (List.mem_of_getElem? (i := 3) rfl)) rfl), ⟨_, _, rfl⟩, ⟨by decide, by decide, rfl⟩⟩
theorem fl_X6_147 : qfl RX6 147 5 5 .int false := ⟨RX5, TX5, 10, tyX5, rfl, by decide, iw_X5, tyX5_ok, nmX5, (lwg_of (tb1 (List.mem_of_getElem? (i := 51) rfl)) rfl), rfl, rfl, rfl⟩
theorem lk_X6_150 : qcV RX6 150 yX6_isSleeper 6 1 := ⟨(lwg_of (tb2 (List.mem_of_getElem? (i := 202) rfl)) rfl), (lwg_of (tb2 (List.mem_of_getElem? (i := 204) rfl)) rfl), (lwg_of (tb0 (List.mem_of_getElem? (i := 16) rfl)) rfl), (lwg_of (tb1 (List.mem_of_getElem? (i := 1) rfl)) rfl), ⟨_, _, rfl⟩, ⟨by decide, by decide, rfl⟩⟩
theorem fl_X6_153 : qfl RX6 153 5 6 .int false := ⟨RX5, TX5, 10, tyX5, rfl, by decide, iw_X5, tyX5_ok, nmX5, (lwg_of (tb1 (List.mem_of_getElem? (i := 54) rfl)) rfl), rfl, rfl, rfl⟩
theorem lk_X6_156 : qcS RX6 156 yX6_hasBit 2 := ⟨(lwg_of (tb2 (List.mem_of_getElem? (i := 206) rfl)) rfl), (lwg_of (tb2 (List.mem_of_getElem? (i := 161) rfl)) rfl), (lwg_of (tb1 (List.mem_of_getElem? (i := 1) rfl)) rfl), ⟨by decide, by decide, rfl⟩⟩
theorem lk_X6_159 : qcS RX6 159 yX6_bit 1 := ⟨(lwg_of (tb2 (List.mem_of_getElem? (i := 207) rfl)) rfl), (lwg_of (tb2 (List.mem_of_getElem? (i := 88) rfl)) rfl), (lwg_of (tb1 (List.mem_of_getElem? (i := 1) rfl)) rfl), ⟨by decide, by decide, rfl⟩⟩
theorem lk_X6_162 : qcS RX6 162 yJ6_bitCount_0f7a4 1 := ⟨(lwg_of (tb2 (List.mem_of_getElem? (i := 208) rfl)) rfl), (lwg_of (tb2 (List.mem_of_getElem? (i := 209) rfl)) rfl), (lwg_of (tb1 (List.mem_of_getElem? (i := 11) rfl)) rfl), ⟨by decide, by decide, rfl⟩⟩
theorem fl_X6_167 : qfl RX6 167 5 7 .int false := ⟨RX5, TX5, 10, tyX5, rfl, by decide, iw_X5, tyX5_ok, nmX5, (lwg_of (tb1 (List.mem_of_getElem? (i := 56) rfl)) rfl), rfl, rfl, rfl⟩
theorem lk_X6_170 : qcV RX6 170 yX5_dreamsOf 5 1 := ⟨(lwg_of (tb2 (List.mem_of_getElem? (i := 218) rfl)) rfl), (lwg_of (tb2 (List.mem_of_getElem? (i := 157) rfl)) rfl), (lwg_of (tb2 (List.mem_of_getElem? (i := 158) rfl)) rfl), (lwg_of (tb1 (List.mem_of_getElem? (i := 3) rfl)) rfl), ⟨_, _, rfl⟩, ⟨by decide, by decide, rfl⟩⟩
theorem lk_X6_173 : qcV RX6 173 yX6_isGrave 6 1 := ⟨(lwg_of (tb2 (List.mem_of_getElem? (i := 223) rfl)) rfl), (lwg_of (tb2 (List.mem_of_getElem? (i := 225) rfl)) rfl), (lwg_of (tb0 (List.mem_of_getElem? (i := 17) rfl)) rfl), (lwg_of (tb1 (List.mem_of_getElem? (i := 1) rfl)) rfl), ⟨_, _, rfl⟩, ⟨by decide, by decide, rfl⟩⟩
theorem lk_X6_176 : qcV RX6 176 yX5_memoryOf 5 2 := ⟨(lwg_of (tb2 (List.mem_of_getElem? (i := 227) rfl)) rfl), (lwg_of (tb2 (List.mem_of_getElem? (i := 228) rfl)) rfl), (lwg_of (tb2 (List.mem_of_getElem? (i := 229) rfl)) rfl), (lwg_of (tb1 (List.mem_of_getElem? (i := 3) rfl)) rfl), ⟨_, _, rfl⟩, ⟨by decide, by decide, rfl⟩⟩
theorem lk_X6_179 : qcV RX6 179 yX5_remember 5 3 := ⟨(lwg_of (tb2 (List.mem_of_getElem? (i := 231) rfl)) rfl), (lwg_of (tb2 (List.mem_of_getElem? (i := 102) rfl)) rfl), (lwg_of (tb2 (List.mem_of_getElem? (i := 103) rfl)) rfl), (lwg_of (tb1 (List.mem_of_getElem? (i := 3) rfl)) rfl), ⟨_, _, rfl⟩, ⟨by decide, by decide, rfl⟩⟩
theorem lk_X6_183 : qcV RX6 183 yX5_allMemoryOf 5 1 := ⟨(lwg_of (tb3 (List.mem_of_getElem? (i := 0) rfl)) rfl), (lwg_of (tb3 (List.mem_of_getElem? (i := 1) rfl)) rfl), (lwg_of (tb3 (List.mem_of_getElem? (i := 2) rfl)) rfl), (lwg_of (tb1 (List.mem_of_getElem? (i := 3) rfl)) rfl), ⟨_, _, rfl⟩, ⟨by decide, by decide, rfl⟩⟩
theorem lk_X6_186 : qcV RX6 186 yX5_dreamersOf 5 1 := ⟨(lwg_of (tb3 (List.mem_of_getElem? (i := 13) rfl)) rfl), (lwg_of (tb3 (List.mem_of_getElem? (i := 14) rfl)) rfl), (lwg_of (tb3 (List.mem_of_getElem? (i := 15) rfl)) rfl), (lwg_of (tb1 (List.mem_of_getElem? (i := 3) rfl)) rfl), ⟨_, _, rfl⟩, ⟨by decide, by decide, rfl⟩⟩
theorem lk_X6_189 : qcV RX6 189 yX3_keptBehind 3 2 := ⟨(lwg_of (tb3 (List.mem_of_getElem? (i := 21) rfl)) rfl), (lwg_of (tb3 (List.mem_of_getElem? (i := 22) rfl)) rfl), (lwg_of (tb3 (List.mem_of_getElem? (i := 23) rfl)) rfl), (lwg_of (tb1 (List.mem_of_getElem? (i := 5) rfl)) rfl), ⟨_, _, rfl⟩, ⟨by decide, by decide, rfl⟩⟩
theorem lk_X6_193 : qcV RX6 193 yX3_yearsTillDug 3 3 := ⟨(lwg_of (tb3 (List.mem_of_getElem? (i := 35) rfl)) rfl), (lwg_of (tb3 (List.mem_of_getElem? (i := 36) rfl)) rfl), (lwg_of (tb3 (List.mem_of_getElem? (i := 37) rfl)) rfl), (lwg_of (tb1 (List.mem_of_getElem? (i := 5) rfl)) rfl), ⟨_, _, rfl⟩, ⟨by decide, by decide, rfl⟩⟩
theorem lk_X6_197 : qcV RX6 197 yX3_graveDugFirst 3 1 := ⟨(lwg_of (tb3 (List.mem_of_getElem? (i := 46) rfl)) rfl), (lwg_of (tb3 (List.mem_of_getElem? (i := 47) rfl)) rfl), (lwg_of (tb3 (List.mem_of_getElem? (i := 48) rfl)) rfl), (lwg_of (tb1 (List.mem_of_getElem? (i := 5) rfl)) rfl), ⟨_, _, rfl⟩, ⟨by decide, by decide, rfl⟩⟩
theorem fl_X6_201 : qfl RX6 201 5 0 .int false := ⟨RX5, TX5, 10, tyX5, rfl, by decide, iw_X5, tyX5_ok, nmX5, (lwg_of (tb1 (List.mem_of_getElem? (i := 36) rfl)) rfl), rfl, rfl, rfl⟩
theorem lk_X6_204 : qcV RX6 204 yX3_findFewestSuppers 3 3 := ⟨(lwg_of (tb3 (List.mem_of_getElem? (i := 57) rfl)) rfl), (lwg_of (tb3 (List.mem_of_getElem? (i := 58) rfl)) rfl), (lwg_of (tb3 (List.mem_of_getElem? (i := 59) rfl)) rfl), (lwg_of (tb1 (List.mem_of_getElem? (i := 5) rfl)) rfl), ⟨_, _, rfl⟩, ⟨by decide, by decide, rfl⟩⟩
theorem lk_X6_208 : Cond.constant RX6 208 (-1000000) ∈ lwg := (lwg_of (tb3 (List.mem_of_getElem? (i := 69) rfl)) rfl)
theorem fl_X6_209 : qfl RX6 209 3 0 .int false := ⟨RX3, TX3, 4, tyX3, rfl, by decide, iw_X3, tyX3_ok, nmX3, (lwg_of (tb1 (List.mem_of_getElem? (i := 148) rfl)) rfl), rfl, rfl, rfl⟩
theorem fl_X6_212 : qfl RX6 212 3 1 (.array .int) true := ⟨RX3, TX3, 4, tyX3, rfl, by decide, iw_X3, tyX3_ok, nmX3, (lwg_of (tb1 (List.mem_of_getElem? (i := 150) rfl)) rfl), rfl, rfl, rfl⟩
theorem lk_X6_215 : qcV RX6 215 yX3_yearsTillForgotten 3 3 := ⟨(lwg_of (tb3 (List.mem_of_getElem? (i := 78) rfl)) rfl), (lwg_of (tb3 (List.mem_of_getElem? (i := 79) rfl)) rfl), (lwg_of (tb3 (List.mem_of_getElem? (i := 80) rfl)) rfl), (lwg_of (tb1 (List.mem_of_getElem? (i := 5) rfl)) rfl), ⟨_, _, rfl⟩, ⟨by decide, by decide, rfl⟩⟩
theorem lk_X6_219 : qcV RX6 219 yX5_clearest 5 3 := ⟨(lwg_of (tb3 (List.mem_of_getElem? (i := 88) rfl)) rfl), (lwg_of (tb2 (List.mem_of_getElem? (i := 169) rfl)) rfl), (lwg_of (tb2 (List.mem_of_getElem? (i := 170) rfl)) rfl), (lwg_of (tb1 (List.mem_of_getElem? (i := 3) rfl)) rfl), ⟨_, _, rfl⟩, ⟨by decide, by decide, rfl⟩⟩
theorem lk_X6_223 : qcV RX6 223 yX3_kindsBy 3 5 := ⟨(lwg_of (tb3 (List.mem_of_getElem? (i := 97) rfl)) rfl), (lwg_of (tb3 (List.mem_of_getElem? (i := 98) rfl)) rfl), (lwg_of (tb3 (List.mem_of_getElem? (i := 99) rfl)) rfl), (lwg_of (tb1 (List.mem_of_getElem? (i := 5) rfl)) rfl), ⟨_, _, rfl⟩, ⟨by decide, by decide, rfl⟩⟩
theorem lk_X6_227 : qcV RX6 227 yX3_whisperersBy 3 5 := ⟨(lwg_of (tb3 (List.mem_of_getElem? (i := 109) rfl)) rfl), (lwg_of (tb3 (List.mem_of_getElem? (i := 110) rfl)) rfl), (lwg_of (tb3 (List.mem_of_getElem? (i := 111) rfl)) rfl), (lwg_of (tb1 (List.mem_of_getElem? (i := 5) rfl)) rfl), ⟨_, _, rfl⟩, ⟨by decide, by decide, rfl⟩⟩
theorem lk_X6_230 : qcV RX6 230 yX3_suppersNeeded 3 2 := ⟨(lwg_of (tb3 (List.mem_of_getElem? (i := 118) rfl)) rfl), (lwg_of (tb3 (List.mem_of_getElem? (i := 119) rfl)) rfl), (lwg_of (tb3 (List.mem_of_getElem? (i := 120) rfl)) rfl), (lwg_of (tb1 (List.mem_of_getElem? (i := 5) rfl)) rfl), ⟨_, _, rfl⟩, ⟨by decide, by decide, rfl⟩⟩
theorem lk_X6_233 : Cond.constantLong RX6 233 (-1000002) ∈ lwg := (lwg_of (tb3 (List.mem_of_getElem? (i := 130) rfl)) rfl)
theorem lk_X6_235 : Cond.constantLong RX6 235 (-1000001) ∈ lwg := (lwg_of (tb3 (List.mem_of_getElem? (i := 131) rfl)) rfl)
theorem lk_X6_237 : qcV RX6 237 yX3_chanceOfKeeping 3 4 := ⟨(lwg_of (tb3 (List.mem_of_getElem? (i := 132) rfl)) rfl), (lwg_of (tb3 (List.mem_of_getElem? (i := 133) rfl)) rfl), (lwg_of (tb3 (List.mem_of_getElem? (i := 134) rfl)) rfl), (lwg_of (tb1 (List.mem_of_getElem? (i := 5) rfl)) rfl), ⟨_, _, rfl⟩, ⟨by decide, by decide, rfl⟩⟩
theorem lk_X6_241 : Cond.constant RX6 241 (999999) ∈ lwg := (lwg_of (tb3 (List.mem_of_getElem? (i := 145) rfl)) rfl)
theorem lk_X6_242 : qcV RX6 242 yX3_yearsByDraws 3 3 := ⟨(lwg_of (tb3 (List.mem_of_getElem? (i := 146) rfl)) rfl), (lwg_of (tb3 (List.mem_of_getElem? (i := 147) rfl)) rfl), (lwg_of (tb3 (List.mem_of_getElem? (i := 148) rfl)) rfl), (lwg_of (tb1 (List.mem_of_getElem? (i := 5) rfl)) rfl), ⟨_, _, rfl⟩, ⟨by decide, by decide, rfl⟩⟩
theorem lk_X6_246 : qcV RX6 246 yX5_allMemory 5 0 := ⟨(lwg_of (tb3 (List.mem_of_getElem? (i := 154) rfl)) rfl), (lwg_of (tb3 (List.mem_of_getElem? (i := 155) rfl)) rfl), (lwg_of (tb3 (List.mem_of_getElem? (i := 156) rfl)) rfl), (lwg_of (tb1 (List.mem_of_getElem? (i := 3) rfl)) rfl), ⟨_, _, rfl⟩, ⟨by decide, by decide, rfl⟩⟩
theorem lk_X6_249 : qcV RX6 249 yX5_isNone 5 0 := ⟨(lwg_of (tb2 (List.mem_of_getElem? (i := 140) rfl)) rfl), (lwg_of (tb2 (List.mem_of_getElem? (i := 141) rfl)) rfl), (lwg_of (tb2 (List.mem_of_getElem? (i := 142) rfl)) rfl), (lwg_of (tb1 (List.mem_of_getElem? (i := 3) rfl)) rfl), ⟨_, _, rfl⟩, ⟨by decide, by decide, rfl⟩⟩
theorem fl_X6_252 : qfl RX6 252 5 8 (.array .int) true := ⟨RX5, TX5, 10, tyX5, rfl, by decide, iw_X5, tyX5_ok, nmX5, (lwg_of (tb1 (List.mem_of_getElem? (i := 62) rfl)) rfl), rfl, rfl, rfl⟩
theorem lk_X6_255 : qcS RX6 255 yX6_isOfKind 2 := ⟨(lwg_of (tb3 (List.mem_of_getElem? (i := 175) rfl)) rfl), (lwg_of (tb3 (List.mem_of_getElem? (i := 176) rfl)) rfl), (lwg_of (tb1 (List.mem_of_getElem? (i := 1) rfl)) rfl), ⟨by decide, by decide, rfl⟩⟩
theorem lk_X6_258 : qcV RX6 258 yX0_answer 0 3 := ⟨(lwg_of (tb3 (List.mem_of_getElem? (i := 182) rfl)) rfl), (lwg_of (tb3 (List.mem_of_getElem? (i := 183) rfl)) rfl), (lwg_of (tb3 (List.mem_of_getElem? (i := 184) rfl)) rfl), (lwg_of (tb1 (List.mem_of_getElem? (i := 6) rfl)) rfl), ⟨_, _, rfl⟩, ⟨by decide, by decide, rfl⟩⟩
theorem fl_X6_261 : qfl RX6 261 0 0 .int false := ⟨RX0, TX0, 2, tyX0, rfl, by decide, iw_X0, tyX0_ok, nmX0, (lwg_of (tb1 (List.mem_of_getElem? (i := 169) rfl)) rfl), rfl, rfl, rfl⟩
theorem fl_X6_264 : qfl RX6 264 0 1 (.array .int) true := ⟨RX0, TX0, 2, tyX0, rfl, by decide, iw_X0, tyX0_ok, nmX0, (lwg_of (tb1 (List.mem_of_getElem? (i := 171) rfl)) rfl), rfl, rfl, rfl⟩
theorem lk_X6_267 : qcV RX6 267 yX6_rowsThere 6 0 := ⟨(lwg_of (tb3 (List.mem_of_getElem? (i := 219) rfl)) rfl), (lwg_of (tb3 (List.mem_of_getElem? (i := 221) rfl)) rfl), (lwg_of (tb0 (List.mem_of_getElem? (i := 24) rfl)) rfl), (lwg_of (tb1 (List.mem_of_getElem? (i := 1) rfl)) rfl), ⟨_, _, rfl⟩, ⟨by decide, by decide, rfl⟩⟩
theorem fl_X6_270 : qfl RX6 270 6 7 .int false := ⟨RX6, TX6, 8, tyX6, rfl, by decide, iw_X6, tyX6_ok, nmX6, (lwg_of (tb1 (List.mem_of_getElem? (i := 203) rfl)) rfl), rfl, rfl, rfl⟩
theorem lk_X6_273 : Cond.constant RX6 273 (-1000010) ∈ lwg := (lwg_of (tb1 (List.mem_of_getElem? (i := 233) rfl)) rfl)
theorem fl_X7_7 : qfl RX7 7 7 0 (.array .int) true := ⟨RX7, TX7, 25, tyX7, rfl, by decide, iw_X7, tyX7_ok, nmX7, (lwg_of (tb3 (List.mem_of_getElem? (i := 233) rfl)) rfl), rfl, rfl, rfl⟩
theorem fl_X7_13 : qfl RX7 13 7 1 (.array .int) true := ⟨RX7, TX7, 25, tyX7, rfl, by decide, iw_X7, tyX7_ok, nmX7, (lwg_of (tb3 (List.mem_of_getElem? (i := 234) rfl)) rfl), rfl, rfl, rfl⟩
theorem fl_X7_16 : qfl RX7 16 7 2 (.array .int) true := ⟨RX7, TX7, 25, tyX7, rfl, by decide, iw_X7, tyX7_ok, nmX7, (lwg_of (tb3 (List.mem_of_getElem? (i := 235) rfl)) rfl), rfl, rfl, rfl⟩
theorem fl_X7_19 : qfl RX7 19 7 5 (.array .int) true := ⟨RX7, TX7, 25, tyX7, rfl, by decide, iw_X7, tyX7_ok, nmX7, (lwg_of (tb3 (List.mem_of_getElem? (i := 238) rfl)) rfl), rfl, rfl, rfl⟩
theorem fl_X7_22 : qfl RX7 22 7 6 (.array .int) true := ⟨RX7, TX7, 25, tyX7, rfl, by decide, iw_X7, tyX7_ok, nmX7, (lwg_of (tb3 (List.mem_of_getElem? (i := 239) rfl)) rfl), rfl, rfl, rfl⟩
theorem fl_X7_25 : qfl RX7 25 7 7 (.array .int) true := ⟨RX7, TX7, 25, tyX7, rfl, by decide, iw_X7, tyX7_ok, nmX7, (lwg_of (tb4 (List.mem_of_getElem? (i := 0) rfl)) rfl), rfl, rfl, rfl⟩
theorem fl_X7_28 : qfl RX7 28 7 15 (.array .int) true := ⟨RX7, TX7, 25, tyX7, rfl, by decide, iw_X7, tyX7_ok, nmX7, (lwg_of (tb4 (List.mem_of_getElem? (i := 8) rfl)) rfl), rfl, rfl, rfl⟩
theorem fl_X7_31 : qfl RX7 31 7 16 (.array .int) true := ⟨RX7, TX7, 25, tyX7, rfl, by decide, iw_X7, tyX7_ok, nmX7, (lwg_of (tb4 (List.mem_of_getElem? (i := 9) rfl)) rfl), rfl, rfl, rfl⟩
theorem fl_X7_34 : qfl RX7 34 7 18 (.array .int) true := ⟨RX7, TX7, 25, tyX7, rfl, by decide, iw_X7, tyX7_ok, nmX7, (lwg_of (tb4 (List.mem_of_getElem? (i := 11) rfl)) rfl), rfl, rfl, rfl⟩
theorem fl_X7_37 : qfl RX7 37 7 19 (.array .int) true := ⟨RX7, TX7, 25, tyX7, rfl, by decide, iw_X7, tyX7_ok, nmX7, (lwg_of (tb4 (List.mem_of_getElem? (i := 12) rfl)) rfl), rfl, rfl, rfl⟩
theorem fl_X7_40 : qfl RX7 40 7 21 (.array .boolean) true := ⟨RX7, TX7, 25, tyX7, rfl, by decide, iw_X7, tyX7_ok, nmX7, (lwg_of (tb4 (List.mem_of_getElem? (i := 14) rfl)) rfl), rfl, rfl, rfl⟩
theorem fl_X7_44 : qfl RX7 44 7 22 (.array .int) true := ⟨RX7, TX7, 25, tyX7, rfl, by decide, iw_X7, tyX7_ok, nmX7, (lwg_of (tb4 (List.mem_of_getElem? (i := 15) rfl)) rfl), rfl, rfl, rfl⟩
theorem fl_X7_47 : qfl RX7 47 7 23 (.array .int) true := ⟨RX7, TX7, 25, tyX7, rfl, by decide, iw_X7, tyX7_ok, nmX7, (lwg_of (tb4 (List.mem_of_getElem? (i := 16) rfl)) rfl), rfl, rfl, rfl⟩
theorem fl_X7_50 : qfl RX7 50 7 3 .int false := ⟨RX7, TX7, 25, tyX7, rfl, by decide, iw_X7, tyX7_ok, nmX7, (lwg_of (tb3 (List.mem_of_getElem? (i := 236) rfl)) rfl), rfl, rfl, rfl⟩
theorem lk_X7_54 : Cond.constant RX7 54 (-1000010) ∈ lwg := (lwg_of (tb4 (List.mem_of_getElem? (i := 87) rfl)) rfl)
theorem lk_X7_55 : Cond.constantLong RX7 55 (7) ∈ lwg := (lwg_of (tb4 (List.mem_of_getElem? (i := 77) rfl)) rfl)
theorem lk_X7_57 : qcS RX7 57 yX7_in 3 := ⟨(lwg_of (tb4 (List.mem_of_getElem? (i := 78) rfl)) rfl), (lwg_of (tb4 (List.mem_of_getElem? (i := 79) rfl)) rfl), (lwg_of (tb1 (List.mem_of_getElem? (i := 8) rfl)) rfl), ⟨by decide, by decide, rfl⟩⟩
theorem lk_X7_61 : qcS RX7 61 yX7_isRow 1 := ⟨(lwg_of (tb4 (List.mem_of_getElem? (i := 74) rfl)) rfl), (lwg_of (tb4 (List.mem_of_getElem? (i := 75) rfl)) rfl), (lwg_of (tb1 (List.mem_of_getElem? (i := 8) rfl)) rfl), ⟨by decide, by decide, rfl⟩⟩
theorem lk_X7_65 : Cond.constantLong RX7 65 (2) ∈ lwg := (lwg_of (tb4 (List.mem_of_getElem? (i := 81) rfl)) rfl)
theorem lk_X7_67 : Cond.constant RX7 67 (-1000001) ∈ lwg := (lwg_of (tb4 (List.mem_of_getElem? (i := 82) rfl)) rfl)
theorem lk_X7_68 : qcV RX7 68 yX7_find 7 1 := ⟨(lwg_of (tb4 (List.mem_of_getElem? (i := 83) rfl)) rfl), (lwg_of (tb4 (List.mem_of_getElem? (i := 85) rfl)) rfl), (lwg_of (tb0 (List.mem_of_getElem? (i := 25) rfl)) rfl), (lwg_of (tb1 (List.mem_of_getElem? (i := 8) rfl)) rfl), ⟨_, _, rfl⟩, ⟨by decide, by decide, rfl⟩⟩
theorem lk_X7_72 : qcV RX7 72 yX7_well 7 1 := ⟨(lwg_of (tb4 (List.mem_of_getElem? (i := 88) rfl)) rfl), (lwg_of (tb4 (List.mem_of_getElem? (i := 90) rfl)) rfl), (lwg_of (tb0 (List.mem_of_getElem? (i := 26) rfl)) rfl), (lwg_of (tb1 (List.mem_of_getElem? (i := 8) rfl)) rfl), ⟨_, _, rfl⟩, ⟨by decide, by decide, rfl⟩⟩
theorem lk_X7_75 : qcS RX7 75 yX7_asLane 2 := ⟨(lwg_of (tb4 (List.mem_of_getElem? (i := 96) rfl)) rfl), (lwg_of (tb4 (List.mem_of_getElem? (i := 97) rfl)) rfl), (lwg_of (tb1 (List.mem_of_getElem? (i := 8) rfl)) rfl), ⟨by decide, by decide, rfl⟩⟩
theorem lk_X7_79 : Cond.constantLong RX7 79 (255) ∈ lwg := (lwg_of (tb4 (List.mem_of_getElem? (i := 111) rfl)) rfl)
theorem fl_X7_81 : qfl RX7 81 7 8 .int false := ⟨RX7, TX7, 25, tyX7, rfl, by decide, iw_X7, tyX7_ok, nmX7, (lwg_of (tb4 (List.mem_of_getElem? (i := 1) rfl)) rfl), rfl, rfl, rfl⟩
theorem lk_X7_84 : Cond.constant RX7 84 (-1000003) ∈ lwg := (lwg_of (tb4 (List.mem_of_getElem? (i := 112) rfl)) rfl)
theorem fl_X7_85 : qfl RX7 85 7 10 .int false := ⟨RX7, TX7, 25, tyX7, rfl, by decide, iw_X7, tyX7_ok, nmX7, (lwg_of (tb4 (List.mem_of_getElem? (i := 3) rfl)) rfl), rfl, rfl, rfl⟩
theorem fl_X7_88 : qfl RX7 88 7 13 .int false := ⟨RX7, TX7, 25, tyX7, rfl, by decide, iw_X7, tyX7_ok, nmX7, (lwg_of (tb4 (List.mem_of_getElem? (i := 6) rfl)) rfl), rfl, rfl, rfl⟩
theorem fl_X7_91 : qfl RX7 91 7 11 .int false := ⟨RX7, TX7, 25, tyX7, rfl, by decide, iw_X7, tyX7_ok, nmX7, (lwg_of (tb4 (List.mem_of_getElem? (i := 4) rfl)) rfl), rfl, rfl, rfl⟩
theorem fl_X7_94 : qfl RX7 94 7 12 .int false := ⟨RX7, TX7, 25, tyX7, rfl, by decide, iw_X7, tyX7_ok, nmX7, (lwg_of (tb4 (List.mem_of_getElem? (i := 5) rfl)) rfl), rfl, rfl, rfl⟩
theorem lk_X7_97 : Cond.constantLong RX7 97 (48) ∈ lwg := (lwg_of (tb4 (List.mem_of_getElem? (i := 125) rfl)) rfl)
theorem lk_X7_99 : Cond.constantLong RX7 99 (57) ∈ lwg := (lwg_of (tb4 (List.mem_of_getElem? (i := 126) rfl)) rfl)
theorem lk_X7_101 : Cond.constantLong RX7 101 (97) ∈ lwg := (lwg_of (tb4 (List.mem_of_getElem? (i := 127) rfl)) rfl)
theorem lk_X7_103 : Cond.constantLong RX7 103 (122) ∈ lwg := (lwg_of (tb4 (List.mem_of_getElem? (i := 128) rfl)) rfl)
theorem fl_X7_105 : qfl RX7 105 7 14 .int false := ⟨RX7, TX7, 25, tyX7, rfl, by decide, iw_X7, tyX7_ok, nmX7, (lwg_of (tb4 (List.mem_of_getElem? (i := 7) rfl)) rfl), rfl, rfl, rfl⟩
theorem lk_X7_108 : qcV RX7 108 yX7_isLetter 7 1 := ⟨(lwg_of (tb4 (List.mem_of_getElem? (i := 133) rfl)) rfl), (lwg_of (tb4 (List.mem_of_getElem? (i := 135) rfl)) rfl), (lwg_of (tb0 (List.mem_of_getElem? (i := 30) rfl)) rfl), (lwg_of (tb1 (List.mem_of_getElem? (i := 8) rfl)) rfl), ⟨_, _, rfl⟩, ⟨by decide, by decide, rfl⟩⟩
theorem lk_X7_111 : qcV RX7 111 yX7_faults 7 1 := ⟨(lwg_of (tb4 (List.mem_of_getElem? (i := 137) rfl)) rfl), (lwg_of (tb4 (List.mem_of_getElem? (i := 139) rfl)) rfl), (lwg_of (tb0 (List.mem_of_getElem? (i := 31) rfl)) rfl), (lwg_of (tb1 (List.mem_of_getElem? (i := 8) rfl)) rfl), ⟨_, _, rfl⟩, ⟨by decide, by decide, rfl⟩⟩
theorem lk_X7_114 : qcV RX7 114 yX7_nextToken 7 0 := ⟨(lwg_of (tb4 (List.mem_of_getElem? (i := 121) rfl)) rfl), (lwg_of (tb4 (List.mem_of_getElem? (i := 123) rfl)) rfl), (lwg_of (tb0 (List.mem_of_getElem? (i := 28) rfl)) rfl), (lwg_of (tb1 (List.mem_of_getElem? (i := 8) rfl)) rfl), ⟨_, _, rfl⟩, ⟨by decide, by decide, rfl⟩⟩
theorem lk_X7_117 : qcV RX7 117 yX7_takes 7 1 := ⟨(lwg_of (tb4 (List.mem_of_getElem? (i := 129) rfl)) rfl), (lwg_of (tb4 (List.mem_of_getElem? (i := 131) rfl)) rfl), (lwg_of (tb0 (List.mem_of_getElem? (i := 29) rfl)) rfl), (lwg_of (tb1 (List.mem_of_getElem? (i := 8) rfl)) rfl), ⟨_, _, rfl⟩, ⟨by decide, by decide, rfl⟩⟩
theorem lk_X7_120 : qcV RX7 120 yX7_takesNumber 7 4 := ⟨(lwg_of (tb4 (List.mem_of_getElem? (i := 141) rfl)) rfl), (lwg_of (tb4 (List.mem_of_getElem? (i := 143) rfl)) rfl), (lwg_of (tb0 (List.mem_of_getElem? (i := 32) rfl)) rfl), (lwg_of (tb1 (List.mem_of_getElem? (i := 8) rfl)) rfl), ⟨_, _, rfl⟩, ⟨by decide, by decide, rfl⟩⟩
theorem lk_X7_124 : qcV RX7 124 yX7_readSleeper 7 1 := ⟨(lwg_of (tb4 (List.mem_of_getElem? (i := 145) rfl)) rfl), (lwg_of (tb4 (List.mem_of_getElem? (i := 147) rfl)) rfl), (lwg_of (tb0 (List.mem_of_getElem? (i := 33) rfl)) rfl), (lwg_of (tb1 (List.mem_of_getElem? (i := 8) rfl)) rfl), ⟨_, _, rfl⟩, ⟨by decide, by decide, rfl⟩⟩
theorem lk_X7_127 : qcV RX7 127 yX7_readYard 7 0 := ⟨(lwg_of (tb4 (List.mem_of_getElem? (i := 117) rfl)) rfl), (lwg_of (tb4 (List.mem_of_getElem? (i := 119) rfl)) rfl), (lwg_of (tb0 (List.mem_of_getElem? (i := 27) rfl)) rfl), (lwg_of (tb1 (List.mem_of_getElem? (i := 8) rfl)) rfl), ⟨_, _, rfl⟩, ⟨by decide, by decide, rfl⟩⟩
theorem fl_X7_131 : qfl RX7 131 7 9 .int false := ⟨RX7, TX7, 25, tyX7, rfl, by decide, iw_X7, tyX7_ok, nmX7, (lwg_of (tb4 (List.mem_of_getElem? (i := 2) rfl)) rfl), rfl, rfl, rfl⟩
theorem lk_X7_134 : Cond.constant RX7 134 (-1000100) ∈ lwg := (lwg_of (tb4 (List.mem_of_getElem? (i := 149) rfl)) rfl)
theorem fl_X7_135 : qfl RX7 135 7 4 .boolean false := ⟨RX7, TX7, 25, tyX7, rfl, by decide, iw_X7, tyX7_ok, nmX7, (lwg_of (tb3 (List.mem_of_getElem? (i := 237) rfl)) rfl), rfl, rfl, rfl⟩
theorem fl_X7_139 : qfl RX7 139 7 17 .int false := ⟨RX7, TX7, 25, tyX7, rfl, by decide, iw_X7, tyX7_ok, nmX7, (lwg_of (tb4 (List.mem_of_getElem? (i := 10) rfl)) rfl), rfl, rfl, rfl⟩
theorem lk_X7_142 : qcS RX7 142 yX7_has 2 := ⟨(lwg_of (tb4 (List.mem_of_getElem? (i := 184) rfl)) rfl), (lwg_of (tb4 (List.mem_of_getElem? (i := 185) rfl)) rfl), (lwg_of (tb1 (List.mem_of_getElem? (i := 8) rfl)) rfl), ⟨by decide, by decide, rfl⟩⟩
theorem lk_X7_146 : qcV RX7 146 yX7_memoryOf 7 2 := ⟨(lwg_of (tb4 (List.mem_of_getElem? (i := 187) rfl)) rfl), (lwg_of (tb4 (List.mem_of_getElem? (i := 189) rfl)) rfl), (lwg_of (tb0 (List.mem_of_getElem? (i := 39) rfl)) rfl), (lwg_of (tb1 (List.mem_of_getElem? (i := 8) rfl)) rfl), ⟨_, _, rfl⟩, ⟨by decide, by decide, rfl⟩⟩
theorem lk_X7_149 : qcV RX7 149 yX7_mostOf 7 2 := ⟨(lwg_of (tb4 (List.mem_of_getElem? (i := 180) rfl)) rfl), (lwg_of (tb4 (List.mem_of_getElem? (i := 182) rfl)) rfl), (lwg_of (tb0 (List.mem_of_getElem? (i := 38) rfl)) rfl), (lwg_of (tb1 (List.mem_of_getElem? (i := 8) rfl)) rfl), ⟨_, _, rfl⟩, ⟨by decide, by decide, rfl⟩⟩
theorem lk_X7_152 : qcV RX7 152 yX7_dreams 7 1 := ⟨(lwg_of (tb4 (List.mem_of_getElem? (i := 176) rfl)) rfl), (lwg_of (tb4 (List.mem_of_getElem? (i := 178) rfl)) rfl), (lwg_of (tb0 (List.mem_of_getElem? (i := 37) rfl)) rfl), (lwg_of (tb1 (List.mem_of_getElem? (i := 8) rfl)) rfl), ⟨_, _, rfl⟩, ⟨by decide, by decide, rfl⟩⟩
theorem lk_X7_155 : qcV RX7 155 yX7_allDreams 7 0 := ⟨(lwg_of (tb4 (List.mem_of_getElem? (i := 172) rfl)) rfl), (lwg_of (tb4 (List.mem_of_getElem? (i := 174) rfl)) rfl), (lwg_of (tb0 (List.mem_of_getElem? (i := 36) rfl)) rfl), (lwg_of (tb1 (List.mem_of_getElem? (i := 8) rfl)) rfl), ⟨_, _, rfl⟩, ⟨by decide, by decide, rfl⟩⟩
theorem lk_X7_159 : qcV RX7 159 yX7_lessOf 7 1 := ⟨(lwg_of (tb4 (List.mem_of_getElem? (i := 191) rfl)) rfl), (lwg_of (tb4 (List.mem_of_getElem? (i := 193) rfl)) rfl), (lwg_of (tb0 (List.mem_of_getElem? (i := 40) rfl)) rfl), (lwg_of (tb1 (List.mem_of_getElem? (i := 8) rfl)) rfl), ⟨_, _, rfl⟩, ⟨by decide, by decide, rfl⟩⟩
theorem lk_X7_162 : Cond.constant RX7 162 (-1000002) ∈ lwg := (lwg_of (tb4 (List.mem_of_getElem? (i := 158) rfl)) rfl)
theorem lk_X7_163 : Cond.constantLong RX7 163 (24) ∈ lwg := (lwg_of (tb4 (List.mem_of_getElem? (i := 163) rfl)) rfl)
theorem lk_X7_165 : qcV RX7 165 yX7_note 7 0 := ⟨(lwg_of (tb4 (List.mem_of_getElem? (i := 164) rfl)) rfl), (lwg_of (tb4 (List.mem_of_getElem? (i := 166) rfl)) rfl), (lwg_of (tb0 (List.mem_of_getElem? (i := 34) rfl)) rfl), (lwg_of (tb1 (List.mem_of_getElem? (i := 8) rfl)) rfl), ⟨_, _, rfl⟩, ⟨by decide, by decide, rfl⟩⟩
theorem lk_X7_168 : qcV RX7 168 yX7_oneYear 7 0 := ⟨(lwg_of (tb4 (List.mem_of_getElem? (i := 168) rfl)) rfl), (lwg_of (tb4 (List.mem_of_getElem? (i := 170) rfl)) rfl), (lwg_of (tb0 (List.mem_of_getElem? (i := 35) rfl)) rfl), (lwg_of (tb1 (List.mem_of_getElem? (i := 8) rfl)) rfl), ⟨_, _, rfl⟩, ⟨by decide, by decide, rfl⟩⟩
theorem lk_X7_171 : qcV RX7 171 yX7_isSleeper 7 1 := ⟨(lwg_of (tb4 (List.mem_of_getElem? (i := 199) rfl)) rfl), (lwg_of (tb4 (List.mem_of_getElem? (i := 201) rfl)) rfl), (lwg_of (tb0 (List.mem_of_getElem? (i := 41) rfl)) rfl), (lwg_of (tb1 (List.mem_of_getElem? (i := 8) rfl)) rfl), ⟨_, _, rfl⟩, ⟨by decide, by decide, rfl⟩⟩
theorem lk_X7_174 : qcV RX7 174 yX7_suppered 7 0 := ⟨(lwg_of (tb4 (List.mem_of_getElem? (i := 203) rfl)) rfl), (lwg_of (tb4 (List.mem_of_getElem? (i := 205) rfl)) rfl), (lwg_of (tb0 (List.mem_of_getElem? (i := 42) rfl)) rfl), (lwg_of (tb1 (List.mem_of_getElem? (i := 8) rfl)) rfl), ⟨_, _, rfl⟩, ⟨by decide, by decide, rfl⟩⟩
theorem lk_X7_177 : qcS RX7 177 yX7_ones 1 := ⟨(lwg_of (tb4 (List.mem_of_getElem? (i := 207) rfl)) rfl), (lwg_of (tb4 (List.mem_of_getElem? (i := 208) rfl)) rfl), (lwg_of (tb1 (List.mem_of_getElem? (i := 8) rfl)) rfl), ⟨by decide, by decide, rfl⟩⟩
theorem lk_X7_180 : qcV RX7 180 yX7_isGrave 7 1 := ⟨(lwg_of (tb4 (List.mem_of_getElem? (i := 218) rfl)) rfl), (lwg_of (tb4 (List.mem_of_getElem? (i := 220) rfl)) rfl), (lwg_of (tb0 (List.mem_of_getElem? (i := 43) rfl)) rfl), (lwg_of (tb1 (List.mem_of_getElem? (i := 8) rfl)) rfl), ⟨_, _, rfl⟩, ⟨by decide, by decide, rfl⟩⟩
theorem lk_X7_183 : qcV RX7 183 yX7_memoryBy 7 1 := ⟨(lwg_of (tb4 (List.mem_of_getElem? (i := 230) rfl)) rfl), (lwg_of (tb4 (List.mem_of_getElem? (i := 232) rfl)) rfl), (lwg_of (tb0 (List.mem_of_getElem? (i := 44) rfl)) rfl), (lwg_of (tb1 (List.mem_of_getElem? (i := 8) rfl)) rfl), ⟨_, _, rfl⟩, ⟨by decide, by decide, rfl⟩⟩
theorem lk_X7_186 : Cond.constantLong RX7 186 (40) ∈ lwg := (lwg_of (tb5 (List.mem_of_getElem? (i := 6) rfl)) rfl)
theorem lk_X7_188 : qcV RX7 188 yX7_putAside 7 0 := ⟨(lwg_of (tb5 (List.mem_of_getElem? (i := 7) rfl)) rfl), (lwg_of (tb5 (List.mem_of_getElem? (i := 9) rfl)) rfl), (lwg_of (tb0 (List.mem_of_getElem? (i := 45) rfl)) rfl), (lwg_of (tb1 (List.mem_of_getElem? (i := 8) rfl)) rfl), ⟨_, _, rfl⟩, ⟨by decide, by decide, rfl⟩⟩
theorem lk_X7_191 : qcV RX7 191 yX7_takeBack 7 0 := ⟨(lwg_of (tb5 (List.mem_of_getElem? (i := 11) rfl)) rfl), (lwg_of (tb5 (List.mem_of_getElem? (i := 13) rfl)) rfl), (lwg_of (tb0 (List.mem_of_getElem? (i := 46) rfl)) rfl), (lwg_of (tb1 (List.mem_of_getElem? (i := 8) rfl)) rfl), ⟨_, _, rfl⟩, ⟨by decide, by decide, rfl⟩⟩
theorem lk_X7_194 : qcV RX7 194 yX7_feedAll 7 0 := ⟨(lwg_of (tb5 (List.mem_of_getElem? (i := 23) rfl)) rfl), (lwg_of (tb5 (List.mem_of_getElem? (i := 25) rfl)) rfl), (lwg_of (tb0 (List.mem_of_getElem? (i := 48) rfl)) rfl), (lwg_of (tb1 (List.mem_of_getElem? (i := 8) rfl)) rfl), ⟨_, _, rfl⟩, ⟨by decide, by decide, rfl⟩⟩
theorem lk_X7_197 : Cond.constant RX7 197 (-1000000) ∈ lwg := (lwg_of (tb5 (List.mem_of_getElem? (i := 27) rfl)) rfl)
theorem lk_X7_198 : qcV RX7 198 yX7_dugIn 7 2 := ⟨(lwg_of (tb5 (List.mem_of_getElem? (i := 19) rfl)) rfl), (lwg_of (tb5 (List.mem_of_getElem? (i := 21) rfl)) rfl), (lwg_of (tb0 (List.mem_of_getElem? (i := 47) rfl)) rfl), (lwg_of (tb1 (List.mem_of_getElem? (i := 8) rfl)) rfl), ⟨_, _, rfl⟩, ⟨by decide, by decide, rfl⟩⟩
theorem lk_X7_202 : qcV RX7 202 yX7_giveSuppers 7 1 := ⟨(lwg_of (tb5 (List.mem_of_getElem? (i := 45) rfl)) rfl), (lwg_of (tb5 (List.mem_of_getElem? (i := 47) rfl)) rfl), (lwg_of (tb0 (List.mem_of_getElem? (i := 51) rfl)) rfl), (lwg_of (tb1 (List.mem_of_getElem? (i := 8) rfl)) rfl), ⟨_, _, rfl⟩, ⟨by decide, by decide, rfl⟩⟩
theorem lk_X7_206 : qcV RX7 206 yX7_isKeptBy 7 2 := ⟨(lwg_of (tb5 (List.mem_of_getElem? (i := 41) rfl)) rfl), (lwg_of (tb5 (List.mem_of_getElem? (i := 43) rfl)) rfl), (lwg_of (tb0 (List.mem_of_getElem? (i := 50) rfl)) rfl), (lwg_of (tb1 (List.mem_of_getElem? (i := 8) rfl)) rfl), ⟨_, _, rfl⟩, ⟨by decide, by decide, rfl⟩⟩
theorem fl_X7_209 : qfl RX7 209 7 20 .int false := ⟨RX7, TX7, 25, tyX7, rfl, by decide, iw_X7, tyX7_ok, nmX7, (lwg_of (tb4 (List.mem_of_getElem? (i := 13) rfl)) rfl), rfl, rfl, rfl⟩
theorem lk_X7_212 : Cond.constantLong RX7 212 (3) ∈ lwg := (lwg_of (tb5 (List.mem_of_getElem? (i := 36) rfl)) rfl)
theorem lk_X7_214 : qcV RX7 214 yX7_findWay 7 2 := ⟨(lwg_of (tb5 (List.mem_of_getElem? (i := 37) rfl)) rfl), (lwg_of (tb5 (List.mem_of_getElem? (i := 39) rfl)) rfl), (lwg_of (tb0 (List.mem_of_getElem? (i := 49) rfl)) rfl), (lwg_of (tb1 (List.mem_of_getElem? (i := 8) rfl)) rfl), ⟨_, _, rfl⟩, ⟨by decide, by decide, rfl⟩⟩
theorem lk_X7_217 : Cond.constantLong RX7 217 (12) ∈ lwg := (lwg_of (tb5 (List.mem_of_getElem? (i := 69) rfl)) rfl)
theorem lk_X7_219 : qcV RX7 219 yX7_lacks 7 3 := ⟨(lwg_of (tb5 (List.mem_of_getElem? (i := 70) rfl)) rfl), (lwg_of (tb5 (List.mem_of_getElem? (i := 72) rfl)) rfl), (lwg_of (tb0 (List.mem_of_getElem? (i := 52) rfl)) rfl), (lwg_of (tb1 (List.mem_of_getElem? (i := 8) rfl)) rfl), ⟨_, _, rfl⟩, ⟨by decide, by decide, rfl⟩⟩
theorem lk_X7_223 : qcV RX7 223 yX7_isSo 7 2 := ⟨(lwg_of (tb5 (List.mem_of_getElem? (i := 74) rfl)) rfl), (lwg_of (tb5 (List.mem_of_getElem? (i := 76) rfl)) rfl), (lwg_of (tb0 (List.mem_of_getElem? (i := 53) rfl)) rfl), (lwg_of (tb1 (List.mem_of_getElem? (i := 8) rfl)) rfl), ⟨_, _, rfl⟩, ⟨by decide, by decide, rfl⟩⟩
theorem lk_X7_226 : Cond.constantLong RX7 226 (6) ∈ lwg := (lwg_of (tb5 (List.mem_of_getElem? (i := 82) rfl)) rfl)
theorem lk_X7_228 : qcV RX7 228 yX7_needsSupper 7 1 := ⟨(lwg_of (tb5 (List.mem_of_getElem? (i := 87) rfl)) rfl), (lwg_of (tb5 (List.mem_of_getElem? (i := 89) rfl)) rfl), (lwg_of (tb0 (List.mem_of_getElem? (i := 54) rfl)) rfl), (lwg_of (tb1 (List.mem_of_getElem? (i := 8) rfl)) rfl), ⟨_, _, rfl⟩, ⟨by decide, by decide, rfl⟩⟩
theorem lk_X7_231 : Cond.constantLong RX7 231 (-1000002) ∈ lwg := (lwg_of (tb5 (List.mem_of_getElem? (i := 95) rfl)) rfl)
theorem lk_X7_233 : Cond.constantLong RX7 233 (10) ∈ lwg := (lwg_of (tb5 (List.mem_of_getElem? (i := 96) rfl)) rfl)
theorem lk_X7_235 : Cond.constantLong RX7 235 (-1000001) ∈ lwg := (lwg_of (tb5 (List.mem_of_getElem? (i := 97) rfl)) rfl)
theorem lk_X7_237 : Cond.constantLong RX7 237 (999999) ∈ lwg := (lwg_of (tb5 (List.mem_of_getElem? (i := 102) rfl)) rfl)
theorem lk_X7_239 : Cond.constantLong RX7 239 (16807) ∈ lwg := (lwg_of (tb5 (List.mem_of_getElem? (i := 103) rfl)) rfl)
theorem lk_X7_241 : Cond.constantLong RX7 241 (2147483647) ∈ lwg := (lwg_of (tb5 (List.mem_of_getElem? (i := 104) rfl)) rfl)
theorem lk_X7_243 : Cond.constantLong RX7 243 (5) ∈ lwg := (lwg_of (tb5 (List.mem_of_getElem? (i := 105) rfl)) rfl)
theorem lk_X7_245 : qcS RX7 245 yX7_isKind 2 := ⟨(lwg_of (tb5 (List.mem_of_getElem? (i := 122) rfl)) rfl), (lwg_of (tb5 (List.mem_of_getElem? (i := 123) rfl)) rfl), (lwg_of (tb1 (List.mem_of_getElem? (i := 8) rfl)) rfl), ⟨by decide, by decide, rfl⟩⟩
theorem fl_X7_248 : qfl RX7 248 7 24 .int false := ⟨RX7, TX7, 25, tyX7, rfl, by decide, iw_X7, tyX7_ok, nmX7, (lwg_of (tb4 (List.mem_of_getElem? (i := 17) rfl)) rfl), rfl, rfl, rfl⟩
theorem lk_X7_251 : qcV RX7 251 yX7_begin 7 1 := ⟨(lwg_of (tb5 (List.mem_of_getElem? (i := 133) rfl)) rfl), (lwg_of (tb5 (List.mem_of_getElem? (i := 135) rfl)) rfl), (lwg_of (tb0 (List.mem_of_getElem? (i := 56) rfl)) rfl), (lwg_of (tb1 (List.mem_of_getElem? (i := 8) rfl)) rfl), ⟨_, _, rfl⟩, ⟨by decide, by decide, rfl⟩⟩
theorem lk_X7_254 : qcV RX7 254 yX7_lent 7 2 := ⟨(lwg_of (tb5 (List.mem_of_getElem? (i := 141) rfl)) rfl), (lwg_of (tb5 (List.mem_of_getElem? (i := 143) rfl)) rfl), (lwg_of (tb0 (List.mem_of_getElem? (i := 58) rfl)) rfl), (lwg_of (tb1 (List.mem_of_getElem? (i := 8) rfl)) rfl), ⟨_, _, rfl⟩, ⟨by decide, by decide, rfl⟩⟩
theorem lk_X7_257 : qcV RX7 257 yX7_wifeSize 7 1 := ⟨(lwg_of (tb5 (List.mem_of_getElem? (i := 157) rfl)) rfl), (lwg_of (tb5 (List.mem_of_getElem? (i := 159) rfl)) rfl), (lwg_of (tb0 (List.mem_of_getElem? (i := 62) rfl)) rfl), (lwg_of (tb1 (List.mem_of_getElem? (i := 8) rfl)) rfl), ⟨_, _, rfl⟩, ⟨by decide, by decide, rfl⟩⟩
theorem lk_X7_260 : qcV RX7 260 yX7_dreamerMark 7 1 := ⟨(lwg_of (tb5 (List.mem_of_getElem? (i := 149) rfl)) rfl), (lwg_of (tb5 (List.mem_of_getElem? (i := 151) rfl)) rfl), (lwg_of (tb0 (List.mem_of_getElem? (i := 60) rfl)) rfl), (lwg_of (tb1 (List.mem_of_getElem? (i := 8) rfl)) rfl), ⟨_, _, rfl⟩, ⟨by decide, by decide, rfl⟩⟩
theorem lk_X7_263 : qcV RX7 263 yX7_sizeOfWife 7 1 := ⟨(lwg_of (tb5 (List.mem_of_getElem? (i := 153) rfl)) rfl), (lwg_of (tb5 (List.mem_of_getElem? (i := 155) rfl)) rfl), (lwg_of (tb0 (List.mem_of_getElem? (i := 61) rfl)) rfl), (lwg_of (tb1 (List.mem_of_getElem? (i := 8) rfl)) rfl), ⟨_, _, rfl⟩, ⟨by decide, by decide, rfl⟩⟩
theorem lk_X7_266 : qcV RX7 266 yX7_markOf 7 1 := ⟨(lwg_of (tb5 (List.mem_of_getElem? (i := 145) rfl)) rfl), (lwg_of (tb5 (List.mem_of_getElem? (i := 147) rfl)) rfl), (lwg_of (tb0 (List.mem_of_getElem? (i := 59) rfl)) rfl), (lwg_of (tb1 (List.mem_of_getElem? (i := 8) rfl)) rfl), ⟨_, _, rfl⟩, ⟨by decide, by decide, rfl⟩⟩
theorem lk_X7_269 : qcV RX7 269 yX7_dreamerSize 7 1 := ⟨(lwg_of (tb5 (List.mem_of_getElem? (i := 137) rfl)) rfl), (lwg_of (tb5 (List.mem_of_getElem? (i := 139) rfl)) rfl), (lwg_of (tb0 (List.mem_of_getElem? (i := 57) rfl)) rfl), (lwg_of (tb1 (List.mem_of_getElem? (i := 8) rfl)) rfl), ⟨_, _, rfl⟩, ⟨by decide, by decide, rfl⟩⟩
theorem lk_X7_272 : qcV RX7 272 yX7_sizeOf 7 1 := ⟨(lwg_of (tb5 (List.mem_of_getElem? (i := 129) rfl)) rfl), (lwg_of (tb5 (List.mem_of_getElem? (i := 131) rfl)) rfl), (lwg_of (tb0 (List.mem_of_getElem? (i := 55) rfl)) rfl), (lwg_of (tb1 (List.mem_of_getElem? (i := 8) rfl)) rfl), ⟨_, _, rfl⟩, ⟨by decide, by decide, rfl⟩⟩
theorem kw_J6_bitCount_0f7a4 : Cond.code yJ6_bitCount_0f7a4 cJ6_bitCount_0f7a4 1 (some .int) ∈ lwg := (lwg_of (tb2 (List.mem_of_getElem? (i := 210) rfl)) rfl)
theorem kw_J7_fill_53178 : Cond.code yJ7_fill_53178 cJ7_fill_53178 4 none ∈ lwg := (lwg_of (tb2 (List.mem_of_getElem? (i := 0) rfl)) rfl)
theorem kw_X0_answer : Cond.code yX0_answer cX0_answer 4 (some .int) ∈ lwg := (lwg_of (tb3 (List.mem_of_getElem? (i := 185) rfl)) rfl)
theorem kw_X0_give : Cond.code yX0_give cX0_give 6 (some .int) ∈ lwg := (lwg_of (tb3 (List.mem_of_getElem? (i := 198) rfl)) rfl)
theorem kw_X0_init : Cond.code yX0_init cX0_init 1 none ∈ lwg := (lwg_of (tb1 (List.mem_of_getElem? (i := 166) rfl)) rfl)
theorem kw_X0_kindOf : Cond.code yX0_kindOf cX0_kindOf 3 (some .int) ∈ lwg := (lwg_of (tb3 (List.mem_of_getElem? (i := 194) rfl)) rfl)
theorem kw_X0_leave : Cond.code yX0_leave cX0_leave 2 none ∈ lwg := (lwg_of (tb3 (List.mem_of_getElem? (i := 202) rfl)) rfl)
theorem kw_X0_markOf : Cond.code yX0_markOf cX0_markOf 4 (some .int) ∈ lwg := (lwg_of (tb3 (List.mem_of_getElem? (i := 207) rfl)) rfl)
theorem kw_X0_sizeOf : Cond.code yX0_sizeOf cX0_sizeOf 4 (some .int) ∈ lwg := (lwg_of (tb3 (List.mem_of_getElem? (i := 189) rfl)) rfl)
theorem kw_X1_clear : Cond.code yX1_clear cX1_clear 1 none ∈ lwg := (lwg_of (tb2 (List.mem_of_getElem? (i := 117) rfl)) rfl)
theorem kw_X1_giveBack : Cond.code yX1_giveBack cX1_giveBack 2 (some .boolean) ∈ lwg := (lwg_of (tb2 (List.mem_of_getElem? (i := 129) rfl)) rfl)
theorem kw_X1_init : Cond.code yX1_init cX1_init 2 none ∈ lwg := (lwg_of (tb1 (List.mem_of_getElem? (i := 123) rfl)) rfl)
theorem kw_X1_keep : Cond.code yX1_keep cX1_keep 2 none ∈ lwg := (lwg_of (tb2 (List.mem_of_getElem? (i := 147) rfl)) rfl)
theorem kw_X2_findingAt : Cond.code yX2_findingAt cX2_findingAt 3 (some .int) ∈ lwg := (lwg_of (tb2 (List.mem_of_getElem? (i := 12) rfl)) rfl)
theorem kw_X2_holds : Cond.code yX2_holds cX2_holds 3 (some .boolean) ∈ lwg := (lwg_of (tb2 (List.mem_of_getElem? (i := 20) rfl)) rfl)
theorem kw_X2_init : Cond.code yX2_init cX2_init 1 none ∈ lwg := (lwg_of (tb1 (List.mem_of_getElem? (i := 180) rfl)) rfl)
theorem kw_X2_isMissing : Cond.code yX2_isMissing cX2_isMissing 1 (some .boolean) ∈ lwg := (lwg_of (tb2 (List.mem_of_getElem? (i := 16) rfl)) rfl)
theorem kw_X2_lay : Cond.code yX2_lay cX2_lay 3 none ∈ lwg := (lwg_of (tb1 (List.mem_of_getElem? (i := 237) rfl)) rfl)
theorem kw_X2_put : Cond.code yX2_put cX2_put 4 (some .int) ∈ lwg := (lwg_of (tb2 (List.mem_of_getElem? (i := 24) rfl)) rfl)
theorem kw_X3_chanceOfKeeping : Cond.code yX3_chanceOfKeeping cX3_chanceOfKeeping 11 (some .long) ∈ lwg := (lwg_of (tb3 (List.mem_of_getElem? (i := 135) rfl)) rfl)
theorem kw_X3_commonDivisor : Cond.code yX3_commonDivisor cX3_commonDivisor 11 (some .long) ∈ lwg := (lwg_of (tb3 (List.mem_of_getElem? (i := 140) rfl)) rfl)
theorem kw_X3_copyOf : Cond.code yX3_copyOf cX3_copyOf 2 (some (.object "DreamGraves$Yard")) ∈ lwg := (lwg_of (tb3 (List.mem_of_getElem? (i := 28) rfl)) rfl)
theorem kw_X3_findFewestSuppers : Cond.code yX3_findFewestSuppers cX3_findFewestSuppers 4 (some .boolean) ∈ lwg := (lwg_of (tb3 (List.mem_of_getElem? (i := 60) rfl)) rfl)
theorem kw_X3_firstOf : Cond.code yX3_firstOf cX3_firstOf 2 (some .int) ∈ lwg := (lwg_of (tb3 (List.mem_of_getElem? (i := 52) rfl)) rfl)
theorem kw_X3_goesAsTold : Cond.code yX3_goesAsTold cX3_goesAsTold 5 (some .boolean) ∈ lwg := (lwg_of (tb3 (List.mem_of_getElem? (i := 103) rfl)) rfl)
theorem kw_X3_graveDugFirst : Cond.code yX3_graveDugFirst cX3_graveDugFirst 4 (some .int) ∈ lwg := (lwg_of (tb3 (List.mem_of_getElem? (i := 49) rfl)) rfl)
theorem kw_X3_init : Cond.code yX3_init cX3_init 2 none ∈ lwg := (lwg_of (tb1 (List.mem_of_getElem? (i := 143) rfl)) rfl)
theorem kw_X3_keptBehind : Cond.code yX3_keptBehind cX3_keptBehind 5 (some .int) ∈ lwg := (lwg_of (tb3 (List.mem_of_getElem? (i := 24) rfl)) rfl)
theorem kw_X3_kindsBy : Cond.code yX3_kindsBy cX3_kindsBy 9 (some .int) ∈ lwg := (lwg_of (tb3 (List.mem_of_getElem? (i := 100) rfl)) rfl)
theorem kw_X3_suppersNeeded : Cond.code yX3_suppersNeeded cX3_suppersNeeded 6 (some .int) ∈ lwg := (lwg_of (tb3 (List.mem_of_getElem? (i := 121) rfl)) rfl)
theorem kw_X3_tryYear : Cond.code yX3_tryYear cX3_tryYear 8 none ∈ lwg := (lwg_of (tb3 (List.mem_of_getElem? (i := 64) rfl)) rfl)
theorem kw_X3_whisperersBy : Cond.code yX3_whisperersBy cX3_whisperersBy 9 (some .int) ∈ lwg := (lwg_of (tb3 (List.mem_of_getElem? (i := 112) rfl)) rfl)
theorem kw_X3_yearsByDraws : Cond.code yX3_yearsByDraws cX3_yearsByDraws 9 (some (.object "DreamGraves$Yard")) ∈ lwg := (lwg_of (tb3 (List.mem_of_getElem? (i := 149) rfl)) rfl)
theorem kw_X3_yearsTillDug : Cond.code yX3_yearsTillDug cX3_yearsTillDug 6 (some .int) ∈ lwg := (lwg_of (tb3 (List.mem_of_getElem? (i := 38) rfl)) rfl)
theorem kw_X3_yearsTillForgotten : Cond.code yX3_yearsTillForgotten cX3_yearsTillForgotten 6 (some .int) ∈ lwg := (lwg_of (tb3 (List.mem_of_getElem? (i := 81) rfl)) rfl)
theorem kw_X4_add : Cond.code yX4_add cX4_add 2 (some .boolean) ∈ lwg := (lwg_of (tb2 (List.mem_of_getElem? (i := 45) rfl)) rfl)
theorem kw_X4_fail : Cond.code yX4_fail cX4_fail 2 (some .boolean) ∈ lwg := (lwg_of (tb2 (List.mem_of_getElem? (i := 82) rfl)) rfl)
theorem kw_X4_init : Cond.code yX4_init cX4_init 1 none ∈ lwg := (lwg_of (tb1 (List.mem_of_getElem? (i := 26) rfl)) rfl)
theorem kw_X4_isFigure : Cond.code yX4_isFigure cX4_isFigure 1 (some .boolean) ∈ lwg := (lwg_of (tb2 (List.mem_of_getElem? (i := 66) rfl)) rfl)
theorem kw_X4_kindTold : Cond.code yX4_kindTold cX4_kindTold 1 (some .int) ∈ lwg := (lwg_of (tb2 (List.mem_of_getElem? (i := 100) rfl)) rfl)
theorem kw_X4_nextToken : Cond.code yX4_nextToken cX4_nextToken 2 none ∈ lwg := (lwg_of (tb2 (List.mem_of_getElem? (i := 63) rfl)) rfl)
theorem kw_X4_read : Cond.code yX4_read cX4_read 2 (some .int) ∈ lwg := (lwg_of (tb2 (List.mem_of_getElem? (i := 54) rfl)) rfl)
theorem kw_X4_readLaw : Cond.code yX4_readLaw cX4_readLaw 1 (some .boolean) ∈ lwg := (lwg_of (tb2 (List.mem_of_getElem? (i := 74) rfl)) rfl)
theorem kw_X4_readSleeper : Cond.code yX4_readSleeper cX4_readSleeper 4 (some .boolean) ∈ lwg := (lwg_of (tb2 (List.mem_of_getElem? (i := 97) rfl)) rfl)
theorem kw_X4_readSleepers : Cond.code yX4_readSleepers cX4_readSleepers 2 (some .boolean) ∈ lwg := (lwg_of (tb2 (List.mem_of_getElem? (i := 93) rfl)) rfl)
theorem kw_X4_takeFigures : Cond.code yX4_takeFigures cX4_takeFigures 1 none ∈ lwg := (lwg_of (tb2 (List.mem_of_getElem? (i := 70) rfl)) rfl)
theorem kw_X4_takeNumber : Cond.code yX4_takeNumber cX4_takeNumber 3 (some .boolean) ∈ lwg := (lwg_of (tb2 (List.mem_of_getElem? (i := 86) rfl)) rfl)
theorem kw_X4_takeSign : Cond.code yX4_takeSign cX4_takeSign 2 (some .boolean) ∈ lwg := (lwg_of (tb2 (List.mem_of_getElem? (i := 78) rfl)) rfl)
theorem kw_X5_allMemory : Cond.code yX5_allMemory cX5_allMemory 3 (some .int) ∈ lwg := (lwg_of (tb3 (List.mem_of_getElem? (i := 157) rfl)) rfl)
theorem kw_X5_allMemoryOf : Cond.code yX5_allMemoryOf cX5_allMemoryOf 4 (some .int) ∈ lwg := (lwg_of (tb3 (List.mem_of_getElem? (i := 3) rfl)) rfl)
theorem kw_X5_become : Cond.code yX5_become cX5_become 2 none ∈ lwg := (lwg_of (tb2 (List.mem_of_getElem? (i := 112) rfl)) rfl)
theorem kw_X5_clear : Cond.code yX5_clear cX5_clear 1 none ∈ lwg := (lwg_of (tb2 (List.mem_of_getElem? (i := 58) rfl)) rfl)
theorem kw_X5_clearest : Cond.code yX5_clearest cX5_clearest 8 (some .int) ∈ lwg := (lwg_of (tb2 (List.mem_of_getElem? (i := 171) rfl)) rfl)
theorem kw_X5_digUndreamt : Cond.code yX5_digUndreamt cX5_digUndreamt 4 none ∈ lwg := (lwg_of (tb2 (List.mem_of_getElem? (i := 155) rfl)) rfl)
theorem kw_X5_dreamersOf : Cond.code yX5_dreamersOf cX5_dreamersOf 4 (some .int) ∈ lwg := (lwg_of (tb3 (List.mem_of_getElem? (i := 16) rfl)) rfl)
theorem kw_X5_dreamsOf : Cond.code yX5_dreamsOf cX5_dreamsOf 4 (some .int) ∈ lwg := (lwg_of (tb2 (List.mem_of_getElem? (i := 159) rfl)) rfl)
theorem kw_X5_endYear : Cond.code yX5_endYear cX5_endYear 2 none ∈ lwg := (lwg_of (tb2 (List.mem_of_getElem? (i := 189) rfl)) rfl)
theorem kw_X5_fadeFor : Cond.code yX5_fadeFor cX5_fadeFor 4 none ∈ lwg := (lwg_of (tb2 (List.mem_of_getElem? (i := 193) rfl)) rfl)
theorem kw_X5_faded : Cond.code yX5_faded cX5_faded 2 (some .int) ∈ lwg := (lwg_of (tb2 (List.mem_of_getElem? (i := 197) rfl)) rfl)
theorem kw_X5_forgetByAll : Cond.code yX5_forgetByAll cX5_forgetByAll 3 none ∈ lwg := (lwg_of (tb2 (List.mem_of_getElem? (i := 184) rfl)) rfl)
theorem kw_X5_graveOfYear : Cond.code yX5_graveOfYear cX5_graveOfYear 1 (some .int) ∈ lwg := (lwg_of (tb2 (List.mem_of_getElem? (i := 180) rfl)) rfl)
theorem kw_X5_hasRoom : Cond.code yX5_hasRoom cX5_hasRoom 2 (some .boolean) ∈ lwg := (lwg_of (tb2 (List.mem_of_getElem? (i := 107) rfl)) rfl)
theorem kw_X5_inNeed : Cond.code yX5_inNeed cX5_inNeed 4 (some .int) ∈ lwg := (lwg_of (tb3 (List.mem_of_getElem? (i := 125) rfl)) rfl)
theorem kw_X5_init : Cond.code yX5_init cX5_init 1 none ∈ lwg := (lwg_of (tb1 (List.mem_of_getElem? (i := 32) rfl)) rfl)
theorem kw_X5_isNone : Cond.code yX5_isNone cX5_isNone 1 (some .boolean) ∈ lwg := (lwg_of (tb2 (List.mem_of_getElem? (i := 143) rfl)) rfl)
theorem kw_X5_memoryOf : Cond.code yX5_memoryOf cX5_memoryOf 3 (some .int) ∈ lwg := (lwg_of (tb2 (List.mem_of_getElem? (i := 230) rfl)) rfl)
theorem kw_X5_nextBehind : Cond.code yX5_nextBehind cX5_nextBehind 2 (some .int) ∈ lwg := (lwg_of (tb2 (List.mem_of_getElem? (i := 176) rfl)) rfl)
theorem kw_X5_pass : Cond.code yX5_pass cX5_pass 1 none ∈ lwg := (lwg_of (tb2 (List.mem_of_getElem? (i := 151) rfl)) rfl)
theorem kw_X5_remember : Cond.code yX5_remember cX5_remember 4 none ∈ lwg := (lwg_of (tb2 (List.mem_of_getElem? (i := 104) rfl)) rfl)
theorem kw_X5_rememberedBy : Cond.code yX5_rememberedBy cX5_rememberedBy 4 (some .int) ∈ lwg := (lwg_of (tb2 (List.mem_of_getElem? (i := 166) rfl)) rfl)
theorem kw_X6_ahead : Cond.code yX6_ahead cX6_ahead 2 (some .int) ∈ lwg := (lwg_of (tb3 (List.mem_of_getElem? (i := 20) rfl)) rfl)
theorem kw_X6_as : Cond.code yX6_as cX6_as 3 (some .int) ∈ lwg := (lwg_of (tb3 (List.mem_of_getElem? (i := 174) rfl)) rfl)
theorem kw_X6_ask : Cond.code yX6_ask cX6_ask 3 (some .int) ∈ lwg := (lwg_of (tb3 (List.mem_of_getElem? (i := 181) rfl)) rfl)
theorem kw_X6_awake : Cond.code yX6_awake cX6_awake 4 (some .long) ∈ lwg := (lwg_of (tb3 (List.mem_of_getElem? (i := 129) rfl)) rfl)
theorem kw_X6_bit : Cond.code yX6_bit cX6_bit 1 (some .int) ∈ lwg := (lwg_of (tb2 (List.mem_of_getElem? (i := 89) rfl)) rfl)
theorem kw_X6_bound : Cond.code yX6_bound cX6_bound 2 (some .int) ∈ lwg := (lwg_of (tb3 (List.mem_of_getElem? (i := 73) rfl)) rfl)
theorem kw_X6_bury : Cond.code yX6_bury cX6_bury 3 (some .int) ∈ lwg := (lwg_of (tb2 (List.mem_of_getElem? (i := 235) rfl)) rfl)
theorem kw_X6_cheese : Cond.code yX6_cheese cX6_cheese 2 (some .int) ∈ lwg := (lwg_of (tb3 (List.mem_of_getElem? (i := 117) rfl)) rfl)
theorem kw_X6_copy : Cond.code yX6_copy cX6_copy 8 (some .int) ∈ lwg := (lwg_of (tb2 (List.mem_of_getElem? (i := 28) rfl)) rfl)
theorem kw_X6_count : Cond.code yX6_count cX6_count 2 (some .int) ∈ lwg := (lwg_of (tb3 (List.mem_of_getElem? (i := 218) rfl)) rfl)
theorem kw_X6_drawn : Cond.code yX6_drawn cX6_drawn 5 (some .int) ∈ lwg := (lwg_of (tb3 (List.mem_of_getElem? (i := 144) rfl)) rfl)
theorem kw_X6_drop : Cond.code yX6_drop cX6_drop 4 (some .int) ∈ lwg := (lwg_of (tb2 (List.mem_of_getElem? (i := 37) rfl)) rfl)
theorem kw_X6_dug : Cond.code yX6_dug cX6_dug 2 (some .int) ∈ lwg := (lwg_of (tb3 (List.mem_of_getElem? (i := 34) rfl)) rfl)
theorem kw_X6_fault : Cond.code yX6_fault cX6_fault 1 (some .int) ∈ lwg := (lwg_of (tb2 (List.mem_of_getElem? (i := 121) rfl)) rfl)
theorem kw_X6_feed : Cond.code yX6_feed cX6_feed 2 (some .int) ∈ lwg := (lwg_of (tb2 (List.mem_of_getElem? (i := 41) rfl)) rfl)
theorem kw_X6_fever : Cond.code yX6_fever cX6_fever 2 (some .int) ∈ lwg := (lwg_of (tb2 (List.mem_of_getElem? (i := 217) rfl)) rfl)
theorem kw_X6_firstDug : Cond.code yX6_firstDug cX6_firstDug 1 (some .int) ∈ lwg := (lwg_of (tb3 (List.mem_of_getElem? (i := 45) rfl)) rfl)
theorem kw_X6_forgets : Cond.code yX6_forgets cX6_forgets 3 (some .int) ∈ lwg := (lwg_of (tb3 (List.mem_of_getElem? (i := 77) rfl)) rfl)
theorem kw_X6_found : Cond.code yX6_found cX6_found 2 (some .int) ∈ lwg := (lwg_of (tb1 (List.mem_of_getElem? (i := 232) rfl)) rfl)
theorem kw_X6_grave : Cond.code yX6_grave cX6_grave 3 (some .int) ∈ lwg := (lwg_of (tb3 (List.mem_of_getElem? (i := 12) rfl)) rfl)
theorem kw_X6_hasBit : Cond.code yX6_hasBit cX6_hasBit 2 (some .boolean) ∈ lwg := (lwg_of (tb2 (List.mem_of_getElem? (i := 162) rfl)) rfl)
theorem kw_X6_image : Cond.code yX6_image cX6_image 2 (some .int) ∈ lwg := (lwg_of (tb3 (List.mem_of_getElem? (i := 162) rfl)) rfl)
theorem kw_X6_init : Cond.code yX6_init cX6_init 2 none ∈ lwg := (lwg_of (tb1 (List.mem_of_getElem? (i := 16) rfl)) rfl)
theorem kw_X6_isGrave : Cond.code yX6_isGrave cX6_isGrave 2 (some .boolean) ∈ lwg := (lwg_of (tb2 (List.mem_of_getElem? (i := 226) rfl)) rfl)
theorem kw_X6_isOfKind : Cond.code yX6_isOfKind cX6_isOfKind 3 (some .boolean) ∈ lwg := (lwg_of (tb3 (List.mem_of_getElem? (i := 177) rfl)) rfl)
theorem kw_X6_isRow : Cond.code yX6_isRow cX6_isRow 1 (some .boolean) ∈ lwg := (lwg_of (tb1 (List.mem_of_getElem? (i := 227) rfl)) rfl)
theorem kw_X6_isSleeper : Cond.code yX6_isSleeper cX6_isSleeper 2 (some .boolean) ∈ lwg := (lwg_of (tb2 (List.mem_of_getElem? (i := 205) rfl)) rfl)
theorem kw_X6_kind : Cond.code yX6_kind cX6_kind 2 (some .int) ∈ lwg := (lwg_of (tb3 (List.mem_of_getElem? (i := 170) rfl)) rfl)
theorem kw_X6_memory : Cond.code yX6_memory cX6_memory 3 (some .int) ∈ lwg := (lwg_of (tb3 (List.mem_of_getElem? (i := 8) rfl)) rfl)
theorem kw_X6_most : Cond.code yX6_most cX6_most 4 (some .int) ∈ lwg := (lwg_of (tb3 (List.mem_of_getElem? (i := 87) rfl)) rfl)
theorem kw_X6_noYard : Cond.code yX6_noYard cX6_noYard 1 (some .boolean) ∈ lwg := (lwg_of (tb2 (List.mem_of_getElem? (i := 139) rfl)) rfl)
theorem kw_X6_pair : Cond.code yX6_pair cX6_pair 3 (some .int) ∈ lwg := (lwg_of (tb3 (List.mem_of_getElem? (i := 92) rfl)) rfl)
theorem kw_X6_restore : Cond.code yX6_restore cX6_restore 2 (some .int) ∈ lwg := (lwg_of (tb3 (List.mem_of_getElem? (i := 166) rfl)) rfl)
theorem kw_X6_row : Cond.code yX6_row cX6_row 4 (some .int) ∈ lwg := (lwg_of (tb1 (List.mem_of_getElem? (i := 224) rfl)) rfl)
theorem kw_X6_rowsThere : Cond.code yX6_rowsThere cX6_rowsThere 3 (some .int) ∈ lwg := (lwg_of (tb3 (List.mem_of_getElem? (i := 222) rfl)) rfl)
theorem kw_X6_set : Cond.code yX6_set cX6_set 6 (some .int) ∈ lwg := (lwg_of (tb2 (List.mem_of_getElem? (i := 8) rfl)) rfl)
theorem kw_X6_sleeper : Cond.code yX6_sleeper cX6_sleeper 3 (some .int) ∈ lwg := (lwg_of (tb2 (List.mem_of_getElem? (i := 239) rfl)) rfl)
theorem kw_X6_sound : Cond.code yX6_sound cX6_sound 2 (some .int) ∈ lwg := (lwg_of (tb2 (List.mem_of_getElem? (i := 4) rfl)) rfl)
theorem kw_X6_status : Cond.code yX6_status cX6_status 1 (some .int) ∈ lwg := (lwg_of (tb3 (List.mem_of_getElem? (i := 226) rfl)) rfl)
theorem kw_X6_supper : Cond.code yX6_supper cX6_supper 2 (some .int) ∈ lwg := (lwg_of (tb2 (List.mem_of_getElem? (i := 201) rfl)) rfl)
theorem kw_X6_suppers : Cond.code yX6_suppers cX6_suppers 4 (some .int) ∈ lwg := (lwg_of (tb3 (List.mem_of_getElem? (i := 56) rfl)) rfl)
theorem kw_X6_tell : Cond.code yX6_tell cX6_tell 4 (some .int) ∈ lwg := (lwg_of (tb2 (List.mem_of_getElem? (i := 222) rfl)) rfl)
theorem kw_X6_trace : Cond.code yX6_trace cX6_trace 2 (some .int) ∈ lwg := (lwg_of (tb3 (List.mem_of_getElem? (i := 214) rfl)) rfl)
theorem kw_X6_undo : Cond.code yX6_undo cX6_undo 1 (some .int) ∈ lwg := (lwg_of (tb2 (List.mem_of_getElem? (i := 125) rfl)) rfl)
theorem kw_X6_whispered : Cond.code yX6_whispered cX6_whispered 6 (some .int) ∈ lwg := (lwg_of (tb3 (List.mem_of_getElem? (i := 108) rfl)) rfl)
theorem kw_X6_who : Cond.code yX6_who cX6_who 6 (some .int) ∈ lwg := (lwg_of (tb3 (List.mem_of_getElem? (i := 96) rfl)) rfl)
theorem kw_X6_yard : Cond.code yX6_yard cX6_yard 2 (some .int) ∈ lwg := (lwg_of (tb2 (List.mem_of_getElem? (i := 50) rfl)) rfl)
theorem kw_X6_years : Cond.code yX6_years cX6_years 3 (some .int) ∈ lwg := (lwg_of (tb2 (List.mem_of_getElem? (i := 135) rfl)) rfl)
theorem kw_X7_ahead : Cond.code yX7_ahead cX7_ahead 3 (some .int) ∈ lwg := (lwg_of (tb5 (List.mem_of_getElem? (i := 5) rfl)) rfl)
theorem kw_X7_allDreams : Cond.code yX7_allDreams cX7_allDreams 3 (some .int) ∈ lwg := (lwg_of (tb4 (List.mem_of_getElem? (i := 175) rfl)) rfl)
theorem kw_X7_as : Cond.code yX7_as cX7_as 3 (some .int) ∈ lwg := (lwg_of (tb5 (List.mem_of_getElem? (i := 121) rfl)) rfl)
theorem kw_X7_asLane : Cond.code yX7_asLane cX7_asLane 2 (some .int) ∈ lwg := (lwg_of (tb4 (List.mem_of_getElem? (i := 98) rfl)) rfl)
theorem kw_X7_ask : Cond.code yX7_ask cX7_ask 3 (some .int) ∈ lwg := (lwg_of (tb5 (List.mem_of_getElem? (i := 128) rfl)) rfl)
theorem kw_X7_awake : Cond.code yX7_awake cX7_awake 14 (some .long) ∈ lwg := (lwg_of (tb5 (List.mem_of_getElem? (i := 94) rfl)) rfl)
theorem kw_X7_begin : Cond.code yX7_begin cX7_begin 2 none ∈ lwg := (lwg_of (tb5 (List.mem_of_getElem? (i := 136) rfl)) rfl)
theorem kw_X7_bound : Cond.code yX7_bound cX7_bound 2 (some .int) ∈ lwg := (lwg_of (tb5 (List.mem_of_getElem? (i := 52) rfl)) rfl)
theorem kw_X7_bury : Cond.code yX7_bury cX7_bury 3 (some .int) ∈ lwg := (lwg_of (tb4 (List.mem_of_getElem? (i := 225) rfl)) rfl)
theorem kw_X7_cheese : Cond.code yX7_cheese cX7_cheese 5 (some .int) ∈ lwg := (lwg_of (tb5 (List.mem_of_getElem? (i := 86) rfl)) rfl)
theorem kw_X7_copy : Cond.code yX7_copy cX7_copy 7 (some .int) ∈ lwg := (lwg_of (tb4 (List.mem_of_getElem? (i := 102) rfl)) rfl)
theorem kw_X7_count : Cond.code yX7_count cX7_count 4 (some .int) ∈ lwg := (lwg_of (tb5 (List.mem_of_getElem? (i := 168) rfl)) rfl)
theorem kw_X7_drawn : Cond.code yX7_drawn cX7_drawn 8 (some .int) ∈ lwg := (lwg_of (tb5 (List.mem_of_getElem? (i := 101) rfl)) rfl)
theorem kw_X7_dreamerMark : Cond.code yX7_dreamerMark cX7_dreamerMark 2 (some .int) ∈ lwg := (lwg_of (tb5 (List.mem_of_getElem? (i := 152) rfl)) rfl)
theorem kw_X7_dreamerSize : Cond.code yX7_dreamerSize cX7_dreamerSize 3 (some .int) ∈ lwg := (lwg_of (tb5 (List.mem_of_getElem? (i := 140) rfl)) rfl)
theorem kw_X7_dreams : Cond.code yX7_dreams cX7_dreams 6 (some .int) ∈ lwg := (lwg_of (tb4 (List.mem_of_getElem? (i := 179) rfl)) rfl)
theorem kw_X7_drop : Cond.code yX7_drop cX7_drop 3 (some .int) ∈ lwg := (lwg_of (tb4 (List.mem_of_getElem? (i := 106) rfl)) rfl)
theorem kw_X7_dug : Cond.code yX7_dug cX7_dug 2 (some .int) ∈ lwg := (lwg_of (tb5 (List.mem_of_getElem? (i := 18) rfl)) rfl)
theorem kw_X7_dugIn : Cond.code yX7_dugIn cX7_dugIn 5 (some .int) ∈ lwg := (lwg_of (tb5 (List.mem_of_getElem? (i := 22) rfl)) rfl)
theorem kw_X7_fault : Cond.code yX7_fault cX7_fault 1 (some .int) ∈ lwg := (lwg_of (tb4 (List.mem_of_getElem? (i := 153) rfl)) rfl)
theorem kw_X7_faults : Cond.code yX7_faults cX7_faults 2 (some .boolean) ∈ lwg := (lwg_of (tb4 (List.mem_of_getElem? (i := 140) rfl)) rfl)
theorem kw_X7_feed : Cond.code yX7_feed cX7_feed 2 (some .int) ∈ lwg := (lwg_of (tb4 (List.mem_of_getElem? (i := 110) rfl)) rfl)
theorem kw_X7_feedAll : Cond.code yX7_feedAll cX7_feedAll 2 none ∈ lwg := (lwg_of (tb5 (List.mem_of_getElem? (i := 26) rfl)) rfl)
theorem kw_X7_fever : Cond.code yX7_fever cX7_fever 2 (some .int) ∈ lwg := (lwg_of (tb4 (List.mem_of_getElem? (i := 213) rfl)) rfl)
theorem kw_X7_find : Cond.code yX7_find cX7_find 2 (some .int) ∈ lwg := (lwg_of (tb4 (List.mem_of_getElem? (i := 86) rfl)) rfl)
theorem kw_X7_findWay : Cond.code yX7_findWay cX7_findWay 11 (some .int) ∈ lwg := (lwg_of (tb5 (List.mem_of_getElem? (i := 40) rfl)) rfl)
theorem kw_X7_firstDug : Cond.code yX7_firstDug cX7_firstDug 5 (some .int) ∈ lwg := (lwg_of (tb5 (List.mem_of_getElem? (i := 31) rfl)) rfl)
theorem kw_X7_forgets : Cond.code yX7_forgets cX7_forgets 5 (some .int) ∈ lwg := (lwg_of (tb5 (List.mem_of_getElem? (i := 56) rfl)) rfl)
theorem kw_X7_giveSuppers : Cond.code yX7_giveSuppers cX7_giveSuppers 3 none ∈ lwg := (lwg_of (tb5 (List.mem_of_getElem? (i := 48) rfl)) rfl)
theorem kw_X7_grave : Cond.code yX7_grave cX7_grave 5 (some .int) ∈ lwg := (lwg_of (tb5 (List.mem_of_getElem? (i := 1) rfl)) rfl)
theorem kw_X7_has : Cond.code yX7_has cX7_has 2 (some .boolean) ∈ lwg := (lwg_of (tb4 (List.mem_of_getElem? (i := 186) rfl)) rfl)
theorem kw_X7_image : Cond.code yX7_image cX7_image 3 (some .int) ∈ lwg := (lwg_of (tb5 (List.mem_of_getElem? (i := 109) rfl)) rfl)
theorem kw_X7_in : Cond.code yX7_in cX7_in 6 (some .boolean) ∈ lwg := (lwg_of (tb4 (List.mem_of_getElem? (i := 80) rfl)) rfl)
theorem kw_X7_init : Cond.code yX7_init cX7_init 2 none ∈ lwg := (lwg_of (tb3 (List.mem_of_getElem? (i := 231) rfl)) rfl)
theorem kw_X7_isGrave : Cond.code yX7_isGrave cX7_isGrave 2 (some .boolean) ∈ lwg := (lwg_of (tb4 (List.mem_of_getElem? (i := 221) rfl)) rfl)
theorem kw_X7_isKeptBy : Cond.code yX7_isKeptBy cX7_isKeptBy 4 (some .boolean) ∈ lwg := (lwg_of (tb5 (List.mem_of_getElem? (i := 44) rfl)) rfl)
theorem kw_X7_isKind : Cond.code yX7_isKind cX7_isKind 2 (some .boolean) ∈ lwg := (lwg_of (tb5 (List.mem_of_getElem? (i := 124) rfl)) rfl)
theorem kw_X7_isLetter : Cond.code yX7_isLetter cX7_isLetter 2 (some .boolean) ∈ lwg := (lwg_of (tb4 (List.mem_of_getElem? (i := 136) rfl)) rfl)
theorem kw_X7_isRow : Cond.code yX7_isRow cX7_isRow 1 (some .boolean) ∈ lwg := (lwg_of (tb4 (List.mem_of_getElem? (i := 76) rfl)) rfl)
theorem kw_X7_isSleeper : Cond.code yX7_isSleeper cX7_isSleeper 2 (some .boolean) ∈ lwg := (lwg_of (tb4 (List.mem_of_getElem? (i := 202) rfl)) rfl)
theorem kw_X7_isSo : Cond.code yX7_isSo cX7_isSo 5 (some .boolean) ∈ lwg := (lwg_of (tb5 (List.mem_of_getElem? (i := 77) rfl)) rfl)
theorem kw_X7_kind : Cond.code yX7_kind cX7_kind 2 (some .int) ∈ lwg := (lwg_of (tb5 (List.mem_of_getElem? (i := 117) rfl)) rfl)
theorem kw_X7_lacks : Cond.code yX7_lacks cX7_lacks 4 (some .int) ∈ lwg := (lwg_of (tb5 (List.mem_of_getElem? (i := 73) rfl)) rfl)
theorem kw_X7_lent : Cond.code yX7_lent cX7_lent 3 (some .int) ∈ lwg := (lwg_of (tb5 (List.mem_of_getElem? (i := 144) rfl)) rfl)
theorem kw_X7_lessOf : Cond.code yX7_lessOf cX7_lessOf 2 (some .int) ∈ lwg := (lwg_of (tb4 (List.mem_of_getElem? (i := 194) rfl)) rfl)
theorem kw_X7_markOf : Cond.code yX7_markOf cX7_markOf 4 (some .int) ∈ lwg := (lwg_of (tb5 (List.mem_of_getElem? (i := 148) rfl)) rfl)
theorem kw_X7_memory : Cond.code yX7_memory cX7_memory 3 (some .int) ∈ lwg := (lwg_of (tb4 (List.mem_of_getElem? (i := 237) rfl)) rfl)
theorem kw_X7_memoryBy : Cond.code yX7_memoryBy cX7_memoryBy 4 (some .int) ∈ lwg := (lwg_of (tb4 (List.mem_of_getElem? (i := 233) rfl)) rfl)
theorem kw_X7_memoryOf : Cond.code yX7_memoryOf cX7_memoryOf 3 (some .int) ∈ lwg := (lwg_of (tb4 (List.mem_of_getElem? (i := 190) rfl)) rfl)
theorem kw_X7_most : Cond.code yX7_most cX7_most 5 (some .int) ∈ lwg := (lwg_of (tb5 (List.mem_of_getElem? (i := 60) rfl)) rfl)
theorem kw_X7_mostOf : Cond.code yX7_mostOf cX7_mostOf 6 (some .int) ∈ lwg := (lwg_of (tb4 (List.mem_of_getElem? (i := 183) rfl)) rfl)
theorem kw_X7_needsSupper : Cond.code yX7_needsSupper cX7_needsSupper 6 (some .boolean) ∈ lwg := (lwg_of (tb5 (List.mem_of_getElem? (i := 90) rfl)) rfl)
theorem kw_X7_nextToken : Cond.code yX7_nextToken cX7_nextToken 1 none ∈ lwg := (lwg_of (tb4 (List.mem_of_getElem? (i := 124) rfl)) rfl)
theorem kw_X7_note : Cond.code yX7_note cX7_note 2 none ∈ lwg := (lwg_of (tb4 (List.mem_of_getElem? (i := 167) rfl)) rfl)
theorem kw_X7_oneYear : Cond.code yX7_oneYear cX7_oneYear 4 none ∈ lwg := (lwg_of (tb4 (List.mem_of_getElem? (i := 171) rfl)) rfl)
theorem kw_X7_ones : Cond.code yX7_ones cX7_ones 3 (some .int) ∈ lwg := (lwg_of (tb4 (List.mem_of_getElem? (i := 209) rfl)) rfl)
theorem kw_X7_pair : Cond.code yX7_pair cX7_pair 3 (some .int) ∈ lwg := (lwg_of (tb5 (List.mem_of_getElem? (i := 64) rfl)) rfl)
theorem kw_X7_putAside : Cond.code yX7_putAside cX7_putAside 2 none ∈ lwg := (lwg_of (tb5 (List.mem_of_getElem? (i := 10) rfl)) rfl)
theorem kw_X7_readSleeper : Cond.code yX7_readSleeper cX7_readSleeper 5 (some .boolean) ∈ lwg := (lwg_of (tb4 (List.mem_of_getElem? (i := 148) rfl)) rfl)
theorem kw_X7_readYard : Cond.code yX7_readYard cX7_readYard 3 (some .boolean) ∈ lwg := (lwg_of (tb4 (List.mem_of_getElem? (i := 120) rfl)) rfl)
theorem kw_X7_restore : Cond.code yX7_restore cX7_restore 3 (some .int) ∈ lwg := (lwg_of (tb5 (List.mem_of_getElem? (i := 113) rfl)) rfl)
theorem kw_X7_row : Cond.code yX7_row cX7_row 5 (some .int) ∈ lwg := (lwg_of (tb4 (List.mem_of_getElem? (i := 73) rfl)) rfl)
theorem kw_X7_set : Cond.code yX7_set cX7_set 4 (some .int) ∈ lwg := (lwg_of (tb4 (List.mem_of_getElem? (i := 95) rfl)) rfl)
theorem kw_X7_sizeOf : Cond.code yX7_sizeOf cX7_sizeOf 3 (some .int) ∈ lwg := (lwg_of (tb5 (List.mem_of_getElem? (i := 132) rfl)) rfl)
theorem kw_X7_sizeOfWife : Cond.code yX7_sizeOfWife cX7_sizeOfWife 2 (some .int) ∈ lwg := (lwg_of (tb5 (List.mem_of_getElem? (i := 156) rfl)) rfl)
theorem kw_X7_sleeper : Cond.code yX7_sleeper cX7_sleeper 3 (some .int) ∈ lwg := (lwg_of (tb4 (List.mem_of_getElem? (i := 229) rfl)) rfl)
theorem kw_X7_status : Cond.code yX7_status cX7_status 1 (some .int) ∈ lwg := (lwg_of (tb5 (List.mem_of_getElem? (i := 172) rfl)) rfl)
theorem kw_X7_supper : Cond.code yX7_supper cX7_supper 2 (some .int) ∈ lwg := (lwg_of (tb4 (List.mem_of_getElem? (i := 198) rfl)) rfl)
theorem kw_X7_suppered : Cond.code yX7_suppered cX7_suppered 3 (some .int) ∈ lwg := (lwg_of (tb4 (List.mem_of_getElem? (i := 206) rfl)) rfl)
theorem kw_X7_suppers : Cond.code yX7_suppers cX7_suppers 7 (some .int) ∈ lwg := (lwg_of (tb5 (List.mem_of_getElem? (i := 35) rfl)) rfl)
theorem kw_X7_takeBack : Cond.code yX7_takeBack cX7_takeBack 2 none ∈ lwg := (lwg_of (tb5 (List.mem_of_getElem? (i := 14) rfl)) rfl)
theorem kw_X7_takes : Cond.code yX7_takes cX7_takes 2 (some .boolean) ∈ lwg := (lwg_of (tb4 (List.mem_of_getElem? (i := 132) rfl)) rfl)
theorem kw_X7_takesNumber : Cond.code yX7_takesNumber cX7_takesNumber 5 (some .boolean) ∈ lwg := (lwg_of (tb4 (List.mem_of_getElem? (i := 144) rfl)) rfl)
theorem kw_X7_tell : Cond.code yX7_tell cX7_tell 4 (some .int) ∈ lwg := (lwg_of (tb4 (List.mem_of_getElem? (i := 217) rfl)) rfl)
theorem kw_X7_trace : Cond.code yX7_trace cX7_trace 2 (some .int) ∈ lwg := (lwg_of (tb5 (List.mem_of_getElem? (i := 164) rfl)) rfl)
theorem kw_X7_undo : Cond.code yX7_undo cX7_undo 2 (some .int) ∈ lwg := (lwg_of (tb4 (List.mem_of_getElem? (i := 157) rfl)) rfl)
theorem kw_X7_well : Cond.code yX7_well cX7_well 2 (some .int) ∈ lwg := (lwg_of (tb4 (List.mem_of_getElem? (i := 91) rfl)) rfl)
theorem kw_X7_whispered : Cond.code yX7_whispered cX7_whispered 8 (some .int) ∈ lwg := (lwg_of (tb5 (List.mem_of_getElem? (i := 81) rfl)) rfl)
theorem kw_X7_who : Cond.code yX7_who cX7_who 8 (some .int) ∈ lwg := (lwg_of (tb5 (List.mem_of_getElem? (i := 68) rfl)) rfl)
theorem kw_X7_wifeSize : Cond.code yX7_wifeSize cX7_wifeSize 2 (some .int) ∈ lwg := (lwg_of (tb5 (List.mem_of_getElem? (i := 160) rfl)) rfl)
theorem kw_X7_yard : Cond.code yX7_yard cX7_yard 3 (some .int) ∈ lwg := (lwg_of (tb4 (List.mem_of_getElem? (i := 116) rfl)) rfl)
theorem kw_X7_years : Cond.code yX7_years cX7_years 3 (some .int) ∈ lwg := (lwg_of (tb4 (List.mem_of_getElem? (i := 162) rfl)) rfl)
end
section
theorem D_J6_bitCount_0f7a4_0 : qd cJ6_bitCount_0f7a4 0 (.iload_n 0) 1 1 := ⟨by decide +kernel, rfl⟩
theorem D_J6_bitCount_0f7a4_1 : qd cJ6_bitCount_0f7a4 1 (.iload_n 0) 1 2 := ⟨by decide +kernel, rfl⟩
theorem D_J6_bitCount_0f7a4_2 : qd cJ6_bitCount_0f7a4 2 (.iconst 1) 1 3 := ⟨by decide +kernel, rfl⟩
theorem D_J6_bitCount_0f7a4_3 : qd cJ6_bitCount_0f7a4 3 (.iushr) 1 4 := ⟨by decide +kernel, rfl⟩
theorem D_J6_bitCount_0f7a4_4 : qd cJ6_bitCount_0f7a4 4 (.ldc_w 265) 3 7 := ⟨by decide +kernel, rfl⟩
theorem D_J6_bitCount_0f7a4_7 : qd cJ6_bitCount_0f7a4 7 (.iand) 1 8 := ⟨by decide +kernel, rfl⟩
theorem D_J6_bitCount_0f7a4_8 : qd cJ6_bitCount_0f7a4 8 (.isub) 1 9 := ⟨by decide +kernel, rfl⟩
theorem D_J6_bitCount_0f7a4_9 : qd cJ6_bitCount_0f7a4 9 (.istore_n 0) 1 10 := ⟨by decide +kernel, rfl⟩
theorem D_J6_bitCount_0f7a4_10 : qd cJ6_bitCount_0f7a4 10 (.iload_n 0) 1 11 := ⟨by decide +kernel, rfl⟩
theorem D_J6_bitCount_0f7a4_11 : qd cJ6_bitCount_0f7a4 11 (.ldc_w 266) 3 14 := ⟨by decide +kernel, rfl⟩
theorem D_J6_bitCount_0f7a4_14 : qd cJ6_bitCount_0f7a4 14 (.iand) 1 15 := ⟨by decide +kernel, rfl⟩
theorem D_J6_bitCount_0f7a4_15 : qd cJ6_bitCount_0f7a4 15 (.iload_n 0) 1 16 := ⟨by decide +kernel, rfl⟩
theorem D_J6_bitCount_0f7a4_16 : qd cJ6_bitCount_0f7a4 16 (.iconst 2) 1 17 := ⟨by decide +kernel, rfl⟩
theorem D_J6_bitCount_0f7a4_17 : qd cJ6_bitCount_0f7a4 17 (.iushr) 1 18 := ⟨by decide +kernel, rfl⟩
theorem D_J6_bitCount_0f7a4_18 : qd cJ6_bitCount_0f7a4 18 (.ldc_w 266) 3 21 := ⟨by decide +kernel, rfl⟩
theorem D_J6_bitCount_0f7a4_21 : qd cJ6_bitCount_0f7a4 21 (.iand) 1 22 := ⟨by decide +kernel, rfl⟩
theorem D_J6_bitCount_0f7a4_22 : qd cJ6_bitCount_0f7a4 22 (.iadd) 1 23 := ⟨by decide +kernel, rfl⟩
theorem D_J6_bitCount_0f7a4_23 : qd cJ6_bitCount_0f7a4 23 (.istore_n 0) 1 24 := ⟨by decide +kernel, rfl⟩
theorem D_J6_bitCount_0f7a4_24 : qd cJ6_bitCount_0f7a4 24 (.iload_n 0) 1 25 := ⟨by decide +kernel, rfl⟩
theorem D_J6_bitCount_0f7a4_25 : qd cJ6_bitCount_0f7a4 25 (.iload_n 0) 1 26 := ⟨by decide +kernel, rfl⟩
theorem D_J6_bitCount_0f7a4_26 : qd cJ6_bitCount_0f7a4 26 (.iconst 4) 1 27 := ⟨by decide +kernel, rfl⟩
theorem D_J6_bitCount_0f7a4_27 : qd cJ6_bitCount_0f7a4 27 (.iushr) 1 28 := ⟨by decide +kernel, rfl⟩
theorem D_J6_bitCount_0f7a4_28 : qd cJ6_bitCount_0f7a4 28 (.iadd) 1 29 := ⟨by decide +kernel, rfl⟩
theorem D_J6_bitCount_0f7a4_29 : qd cJ6_bitCount_0f7a4 29 (.ldc_w 267) 3 32 := ⟨by decide +kernel, rfl⟩
theorem D_J6_bitCount_0f7a4_32 : qd cJ6_bitCount_0f7a4 32 (.iand) 1 33 := ⟨by decide +kernel, rfl⟩
theorem D_J6_bitCount_0f7a4_33 : qd cJ6_bitCount_0f7a4 33 (.istore_n 0) 1 34 := ⟨by decide +kernel, rfl⟩
theorem D_J6_bitCount_0f7a4_34 : qd cJ6_bitCount_0f7a4 34 (.iload_n 0) 1 35 := ⟨by decide +kernel, rfl⟩
theorem D_J6_bitCount_0f7a4_35 : qd cJ6_bitCount_0f7a4 35 (.iload_n 0) 1 36 := ⟨by decide +kernel, rfl⟩
theorem D_J6_bitCount_0f7a4_36 : qd cJ6_bitCount_0f7a4 36 (.bipush 8) 2 38 := ⟨by decide +kernel, rfl⟩
theorem D_J6_bitCount_0f7a4_38 : qd cJ6_bitCount_0f7a4 38 (.iushr) 1 39 := ⟨by decide +kernel, rfl⟩
theorem D_J6_bitCount_0f7a4_39 : qd cJ6_bitCount_0f7a4 39 (.iadd) 1 40 := ⟨by decide +kernel, rfl⟩
theorem D_J6_bitCount_0f7a4_40 : qd cJ6_bitCount_0f7a4 40 (.istore_n 0) 1 41 := ⟨by decide +kernel, rfl⟩
theorem D_J6_bitCount_0f7a4_41 : qd cJ6_bitCount_0f7a4 41 (.iload_n 0) 1 42 := ⟨by decide +kernel, rfl⟩
theorem D_J6_bitCount_0f7a4_42 : qd cJ6_bitCount_0f7a4 42 (.iload_n 0) 1 43 := ⟨by decide +kernel, rfl⟩
theorem D_J6_bitCount_0f7a4_43 : qd cJ6_bitCount_0f7a4 43 (.bipush 16) 2 45 := ⟨by decide +kernel, rfl⟩
theorem D_J6_bitCount_0f7a4_45 : qd cJ6_bitCount_0f7a4 45 (.iushr) 1 46 := ⟨by decide +kernel, rfl⟩
theorem D_J6_bitCount_0f7a4_46 : qd cJ6_bitCount_0f7a4 46 (.iadd) 1 47 := ⟨by decide +kernel, rfl⟩
theorem D_J6_bitCount_0f7a4_47 : qd cJ6_bitCount_0f7a4 47 (.istore_n 0) 1 48 := ⟨by decide +kernel, rfl⟩
theorem D_J6_bitCount_0f7a4_48 : qd cJ6_bitCount_0f7a4 48 (.iload_n 0) 1 49 := ⟨by decide +kernel, rfl⟩
theorem D_J6_bitCount_0f7a4_49 : qd cJ6_bitCount_0f7a4 49 (.bipush 63) 2 51 := ⟨by decide +kernel, rfl⟩
theorem D_J6_bitCount_0f7a4_51 : qd cJ6_bitCount_0f7a4 51 (.iand) 1 52 := ⟨by decide +kernel, rfl⟩
theorem D_J6_bitCount_0f7a4_52 : qd cJ6_bitCount_0f7a4 52 (.ireturn) 1 53 := ⟨by decide +kernel, rfl⟩
theorem D_J7_fill_53178_0 : qd cJ7_fill_53178 0 (.iconst 0) 1 1 := ⟨by decide +kernel, rfl⟩
theorem D_J7_fill_53178_1 : qd cJ7_fill_53178 1 (.istore_n 2) 1 2 := ⟨by decide +kernel, rfl⟩
theorem D_J7_fill_53178_2 : qd cJ7_fill_53178 2 (.aload_n 0) 1 3 := ⟨by decide +kernel, rfl⟩
theorem D_J7_fill_53178_3 : qd cJ7_fill_53178 3 (.arraylength) 1 4 := ⟨by decide +kernel, rfl⟩
theorem D_J7_fill_53178_4 : qd cJ7_fill_53178 4 (.istore_n 3) 1 5 := ⟨by decide +kernel, rfl⟩
theorem D_J7_fill_53178_5 : qd cJ7_fill_53178 5 (.iload_n 2) 1 6 := ⟨by decide +kernel, rfl⟩
theorem D_J7_fill_53178_6 : qd cJ7_fill_53178 6 (.iload_n 3) 1 7 := ⟨by decide +kernel, rfl⟩
theorem D_J7_fill_53178_7 : qj cJ7_fill_53178 7 (.if_icmp .ge 13) (13) 10 20 := ⟨by decide +kernel, rfl, by decide⟩
theorem D_J7_fill_53178_10 : qd cJ7_fill_53178 10 (.aload_n 0) 1 11 := ⟨by decide +kernel, rfl⟩
theorem D_J7_fill_53178_11 : qd cJ7_fill_53178 11 (.iload_n 2) 1 12 := ⟨by decide +kernel, rfl⟩
theorem D_J7_fill_53178_12 : qd cJ7_fill_53178 12 (.iload_n 1) 1 13 := ⟨by decide +kernel, rfl⟩
theorem D_J7_fill_53178_13 : qd cJ7_fill_53178 13 (.iastore) 1 14 := ⟨by decide +kernel, rfl⟩
theorem D_J7_fill_53178_14 : qd cJ7_fill_53178 14 (.iinc 2 1) 3 17 := ⟨by decide +kernel, rfl⟩
theorem D_J7_fill_53178_17 : qj cJ7_fill_53178 17 (.goto (-12)) (-12) 20 5 := ⟨by decide +kernel, rfl, by decide⟩
theorem D_J7_fill_53178_20 : qd cJ7_fill_53178 20 (.return_) 1 21 := ⟨by decide +kernel, rfl⟩
theorem D_X0_answer_0 : qd cX0_answer 0 (.aload_n 0) 1 1 := ⟨by decide +kernel, rfl⟩
theorem D_X0_answer_1 : qd cX0_answer 1 (.iconst 0) 1 2 := ⟨by decide +kernel, rfl⟩
theorem D_X0_answer_2 : qd cX0_answer 2 (.putfield 15) 3 5 := ⟨by decide +kernel, rfl⟩
theorem D_X0_answer_5 : qd cX0_answer 5 (.iload_n 3) 1 6 := ⟨by decide +kernel, rfl⟩
theorem D_X0_answer_6 : qj cX0_answer 6 (.ifCond .ne 13) (13) 9 19 := ⟨by decide +kernel, rfl, by decide⟩
theorem D_X0_answer_9 : qd cX0_answer 9 (.aload_n 0) 1 10 := ⟨by decide +kernel, rfl⟩
theorem D_X0_answer_10 : qd cX0_answer 10 (.aload_n 1) 1 11 := ⟨by decide +kernel, rfl⟩
theorem D_X0_answer_11 : qd cX0_answer 11 (.iload_n 2) 1 12 := ⟨by decide +kernel, rfl⟩
theorem D_X0_answer_12 : qd cX0_answer 12 (.iconst 0) 1 13 := ⟨by decide +kernel, rfl⟩
theorem D_X0_answer_13 : qd cX0_answer 13 (.invokevirtual 19) 3 16 := ⟨by decide +kernel, rfl⟩
theorem D_X0_answer_16 : qj cX0_answer 16 (.goto 10) (10) 19 26 := ⟨by decide +kernel, rfl, by decide⟩
theorem D_X0_answer_19 : qd cX0_answer 19 (.aload_n 0) 1 20 := ⟨by decide +kernel, rfl⟩
theorem D_X0_answer_20 : qd cX0_answer 20 (.aload_n 1) 1 21 := ⟨by decide +kernel, rfl⟩
theorem D_X0_answer_21 : qd cX0_answer 21 (.iload_n 2) 1 22 := ⟨by decide +kernel, rfl⟩
theorem D_X0_answer_22 : qd cX0_answer 22 (.iconst 0) 1 23 := ⟨by decide +kernel, rfl⟩
theorem D_X0_answer_23 : qd cX0_answer 23 (.invokevirtual 23) 3 26 := ⟨by decide +kernel, rfl⟩
theorem D_X0_answer_26 : qd cX0_answer 26 (.ireturn) 1 27 := ⟨by decide +kernel, rfl⟩
theorem D_X0_give_0 : qd cX0_give 0 (.iload 4) 2 2 := ⟨by decide +kernel, rfl⟩
theorem D_X0_give_2 : qd cX0_give 2 (.bipush 8) 2 4 := ⟨by decide +kernel, rfl⟩
theorem D_X0_give_4 : qj cX0_give 4 (.if_icmp .le 5) (5) 7 9 := ⟨by decide +kernel, rfl, by decide⟩
theorem D_X0_give_7 : qd cX0_give 7 (.iconst 0) 1 8 := ⟨by decide +kernel, rfl⟩
theorem D_X0_give_8 : qd cX0_give 8 (.ireturn) 1 9 := ⟨by decide +kernel, rfl⟩
theorem D_X0_give_9 : qd cX0_give 9 (.aload_n 0) 1 10 := ⟨by decide +kernel, rfl⟩
theorem D_X0_give_10 : qd cX0_give 10 (.iload_n 1) 1 11 := ⟨by decide +kernel, rfl⟩
theorem D_X0_give_11 : qd cX0_give 11 (.invokevirtual 45) 3 14 := ⟨by decide +kernel, rfl⟩
theorem D_X0_give_14 : qd cX0_give 14 (.iload 4) 2 16 := ⟨by decide +kernel, rfl⟩
theorem D_X0_give_16 : qd cX0_give 16 (.iconst 1) 1 17 := ⟨by decide +kernel, rfl⟩
theorem D_X0_give_17 : qd cX0_give 17 (.iadd) 1 18 := ⟨by decide +kernel, rfl⟩
theorem D_X0_give_18 : qd cX0_give 18 (.istore 5) 2 20 := ⟨by decide +kernel, rfl⟩
theorem D_X0_give_20 : qd cX0_give 20 (.iload_n 1) 1 21 := ⟨by decide +kernel, rfl⟩
theorem D_X0_give_21 : qd cX0_give 21 (.tableswitch 209 10 24 #[75, 81, 101, 114, 128, 209, 209, 209, 209, 209, 141, 143, 161, 176, 196]) 75 96 := ⟨by decide +kernel, rfl⟩
theorem D_X0_give_96 : qd cX0_give 96 (.aload_n 2) 1 97 := ⟨by decide +kernel, rfl⟩
theorem D_X0_give_97 : qd cX0_give 97 (.iload_n 3) 1 98 := ⟨by decide +kernel, rfl⟩
theorem D_X0_give_98 : qd cX0_give 98 (.invokevirtual 49) 3 101 := ⟨by decide +kernel, rfl⟩
theorem D_X0_give_101 : qd cX0_give 101 (.ireturn) 1 102 := ⟨by decide +kernel, rfl⟩
theorem D_X0_give_102 : qd cX0_give 102 (.aload_n 0) 1 103 := ⟨by decide +kernel, rfl⟩
theorem D_X0_give_103 : qd cX0_give 103 (.bipush 10) 2 105 := ⟨by decide +kernel, rfl⟩
theorem D_X0_give_105 : qd cX0_give 105 (.aload_n 2) 1 106 := ⟨by decide +kernel, rfl⟩
theorem D_X0_give_106 : qd cX0_give 106 (.iload_n 3) 1 107 := ⟨by decide +kernel, rfl⟩
theorem D_X0_give_107 : qd cX0_give 107 (.iload 5) 2 109 := ⟨by decide +kernel, rfl⟩
theorem D_X0_give_109 : qd cX0_give 109 (.invokevirtual 33) 3 112 := ⟨by decide +kernel, rfl⟩
theorem D_X0_give_112 : qd cX0_give 112 (.aload_n 0) 1 113 := ⟨by decide +kernel, rfl⟩
theorem D_X0_give_113 : qd cX0_give 113 (.aload_n 2) 1 114 := ⟨by decide +kernel, rfl⟩
theorem D_X0_give_114 : qd cX0_give 114 (.iload_n 3) 1 115 := ⟨by decide +kernel, rfl⟩
theorem D_X0_give_115 : qd cX0_give 115 (.iload 5) 2 117 := ⟨by decide +kernel, rfl⟩
theorem D_X0_give_117 : qd cX0_give 117 (.invokevirtual 23) 3 120 := ⟨by decide +kernel, rfl⟩
theorem D_X0_give_120 : qd cX0_give 120 (.iadd) 1 121 := ⟨by decide +kernel, rfl⟩
theorem D_X0_give_121 : qd cX0_give 121 (.ireturn) 1 122 := ⟨by decide +kernel, rfl⟩
theorem D_X0_give_122 : qd cX0_give 122 (.iconst 0) 1 123 := ⟨by decide +kernel, rfl⟩
theorem D_X0_give_123 : qd cX0_give 123 (.aload_n 0) 1 124 := ⟨by decide +kernel, rfl⟩
theorem D_X0_give_124 : qd cX0_give 124 (.bipush 11) 2 126 := ⟨by decide +kernel, rfl⟩
theorem D_X0_give_126 : qd cX0_give 126 (.aload_n 2) 1 127 := ⟨by decide +kernel, rfl⟩
theorem D_X0_give_127 : qd cX0_give 127 (.iload_n 3) 1 128 := ⟨by decide +kernel, rfl⟩
theorem D_X0_give_128 : qd cX0_give 128 (.iload 5) 2 130 := ⟨by decide +kernel, rfl⟩
theorem D_X0_give_130 : qd cX0_give 130 (.invokevirtual 33) 3 133 := ⟨by decide +kernel, rfl⟩
theorem D_X0_give_133 : qd cX0_give 133 (.isub) 1 134 := ⟨by decide +kernel, rfl⟩
theorem D_X0_give_134 : qd cX0_give 134 (.ireturn) 1 135 := ⟨by decide +kernel, rfl⟩
theorem D_X0_give_135 : qd cX0_give 135 (.aload_n 0) 1 136 := ⟨by decide +kernel, rfl⟩
theorem D_X0_give_136 : qd cX0_give 136 (.bipush 10) 2 138 := ⟨by decide +kernel, rfl⟩
theorem D_X0_give_138 : qd cX0_give 138 (.aload_n 2) 1 139 := ⟨by decide +kernel, rfl⟩
theorem D_X0_give_139 : qd cX0_give 139 (.iload_n 3) 1 140 := ⟨by decide +kernel, rfl⟩
theorem D_X0_give_140 : qd cX0_give 140 (.iload 5) 2 142 := ⟨by decide +kernel, rfl⟩
theorem D_X0_give_142 : qd cX0_give 142 (.invokevirtual 33) 3 145 := ⟨by decide +kernel, rfl⟩
theorem D_X0_give_145 : qd cX0_give 145 (.bipush 100) 2 147 := ⟨by decide +kernel, rfl⟩
theorem D_X0_give_147 : qd cX0_give 147 (.isub) 1 148 := ⟨by decide +kernel, rfl⟩
theorem D_X0_give_148 : qd cX0_give 148 (.ireturn) 1 149 := ⟨by decide +kernel, rfl⟩
theorem D_X0_give_149 : qd cX0_give 149 (.aload_n 0) 1 150 := ⟨by decide +kernel, rfl⟩
theorem D_X0_give_150 : qd cX0_give 150 (.bipush 13) 2 152 := ⟨by decide +kernel, rfl⟩
theorem D_X0_give_152 : qd cX0_give 152 (.aload_n 2) 1 153 := ⟨by decide +kernel, rfl⟩
theorem D_X0_give_153 : qd cX0_give 153 (.iload_n 3) 1 154 := ⟨by decide +kernel, rfl⟩
theorem D_X0_give_154 : qd cX0_give 154 (.iload 5) 2 156 := ⟨by decide +kernel, rfl⟩
theorem D_X0_give_156 : qd cX0_give 156 (.invokevirtual 33) 3 159 := ⟨by decide +kernel, rfl⟩
theorem D_X0_give_159 : qd cX0_give 159 (.iconst 2) 1 160 := ⟨by decide +kernel, rfl⟩
theorem D_X0_give_160 : qd cX0_give 160 (.imul) 1 161 := ⟨by decide +kernel, rfl⟩
theorem D_X0_give_161 : qd cX0_give 161 (.ireturn) 1 162 := ⟨by decide +kernel, rfl⟩
theorem D_X0_give_162 : qd cX0_give 162 (.iload_n 3) 1 163 := ⟨by decide +kernel, rfl⟩
theorem D_X0_give_163 : qd cX0_give 163 (.ireturn) 1 164 := ⟨by decide +kernel, rfl⟩
theorem D_X0_give_164 : qd cX0_give 164 (.aload_n 0) 1 165 := ⟨by decide +kernel, rfl⟩
theorem D_X0_give_165 : qd cX0_give 165 (.bipush 20) 2 167 := ⟨by decide +kernel, rfl⟩
theorem D_X0_give_167 : qd cX0_give 167 (.aload_n 2) 1 168 := ⟨by decide +kernel, rfl⟩
theorem D_X0_give_168 : qd cX0_give 168 (.iload_n 3) 1 169 := ⟨by decide +kernel, rfl⟩
theorem D_X0_give_169 : qd cX0_give 169 (.iload 5) 2 171 := ⟨by decide +kernel, rfl⟩
theorem D_X0_give_171 : qd cX0_give 171 (.invokevirtual 33) 3 174 := ⟨by decide +kernel, rfl⟩
theorem D_X0_give_174 : qd cX0_give 174 (.aload_n 2) 1 175 := ⟨by decide +kernel, rfl⟩
theorem D_X0_give_175 : qd cX0_give 175 (.iload_n 3) 1 176 := ⟨by decide +kernel, rfl⟩
theorem D_X0_give_176 : qd cX0_give 176 (.iconst 0) 1 177 := ⟨by decide +kernel, rfl⟩
theorem D_X0_give_177 : qd cX0_give 177 (.invokevirtual 53) 3 180 := ⟨by decide +kernel, rfl⟩
theorem D_X0_give_180 : qd cX0_give 180 (.iadd) 1 181 := ⟨by decide +kernel, rfl⟩
theorem D_X0_give_181 : qd cX0_give 181 (.ireturn) 1 182 := ⟨by decide +kernel, rfl⟩
theorem D_X0_give_182 : qd cX0_give 182 (.aload_n 0) 1 183 := ⟨by decide +kernel, rfl⟩
theorem D_X0_give_183 : qd cX0_give 183 (.bipush 21) 2 185 := ⟨by decide +kernel, rfl⟩
theorem D_X0_give_185 : qd cX0_give 185 (.aload_n 2) 1 186 := ⟨by decide +kernel, rfl⟩
theorem D_X0_give_186 : qd cX0_give 186 (.iload_n 3) 1 187 := ⟨by decide +kernel, rfl⟩
theorem D_X0_give_187 : qd cX0_give 187 (.iload 5) 2 189 := ⟨by decide +kernel, rfl⟩
theorem D_X0_give_189 : qd cX0_give 189 (.invokevirtual 33) 3 192 := ⟨by decide +kernel, rfl⟩
theorem D_X0_give_192 : qd cX0_give 192 (.sipush 1000) 3 195 := ⟨by decide +kernel, rfl⟩
theorem D_X0_give_195 : qd cX0_give 195 (.isub) 1 196 := ⟨by decide +kernel, rfl⟩
theorem D_X0_give_196 : qd cX0_give 196 (.ireturn) 1 197 := ⟨by decide +kernel, rfl⟩
theorem D_X0_give_197 : qd cX0_give 197 (.aload_n 0) 1 198 := ⟨by decide +kernel, rfl⟩
theorem D_X0_give_198 : qd cX0_give 198 (.bipush 20) 2 200 := ⟨by decide +kernel, rfl⟩
theorem D_X0_give_200 : qd cX0_give 200 (.aload_n 2) 1 201 := ⟨by decide +kernel, rfl⟩
theorem D_X0_give_201 : qd cX0_give 201 (.iload_n 3) 1 202 := ⟨by decide +kernel, rfl⟩
theorem D_X0_give_202 : qd cX0_give 202 (.iload 5) 2 204 := ⟨by decide +kernel, rfl⟩
theorem D_X0_give_204 : qd cX0_give 204 (.invokevirtual 33) 3 207 := ⟨by decide +kernel, rfl⟩
theorem D_X0_give_207 : qd cX0_give 207 (.aload_n 0) 1 208 := ⟨by decide +kernel, rfl⟩
theorem D_X0_give_208 : qd cX0_give 208 (.aload_n 2) 1 209 := ⟨by decide +kernel, rfl⟩
theorem D_X0_give_209 : qd cX0_give 209 (.iload_n 3) 1 210 := ⟨by decide +kernel, rfl⟩
theorem D_X0_give_210 : qd cX0_give 210 (.iload 5) 2 212 := ⟨by decide +kernel, rfl⟩
theorem D_X0_give_212 : qd cX0_give 212 (.invokevirtual 19) 3 215 := ⟨by decide +kernel, rfl⟩
theorem D_X0_give_215 : qd cX0_give 215 (.isub) 1 216 := ⟨by decide +kernel, rfl⟩
theorem D_X0_give_216 : qd cX0_give 216 (.ireturn) 1 217 := ⟨by decide +kernel, rfl⟩
theorem D_X0_give_217 : qd cX0_give 217 (.aload_n 0) 1 218 := ⟨by decide +kernel, rfl⟩
theorem D_X0_give_218 : qd cX0_give 218 (.bipush 21) 2 220 := ⟨by decide +kernel, rfl⟩
theorem D_X0_give_220 : qd cX0_give 220 (.aload_n 2) 1 221 := ⟨by decide +kernel, rfl⟩
theorem D_X0_give_221 : qd cX0_give 221 (.iload_n 3) 1 222 := ⟨by decide +kernel, rfl⟩
theorem D_X0_give_222 : qd cX0_give 222 (.iload 5) 2 224 := ⟨by decide +kernel, rfl⟩
theorem D_X0_give_224 : qd cX0_give 224 (.invokevirtual 33) 3 227 := ⟨by decide +kernel, rfl⟩
theorem D_X0_give_227 : qd cX0_give 227 (.iconst 2) 1 228 := ⟨by decide +kernel, rfl⟩
theorem D_X0_give_228 : qd cX0_give 228 (.imul) 1 229 := ⟨by decide +kernel, rfl⟩
theorem D_X0_give_229 : qd cX0_give 229 (.ireturn) 1 230 := ⟨by decide +kernel, rfl⟩
theorem D_X0_give_230 : qd cX0_give 230 (.iconst 0) 1 231 := ⟨by decide +kernel, rfl⟩
theorem D_X0_give_231 : qd cX0_give 231 (.ireturn) 1 232 := ⟨by decide +kernel, rfl⟩
theorem D_X0_init_0 : qd cX0_init 0 (.aload_n 0) 1 1 := ⟨by decide +kernel, rfl⟩
theorem D_X0_init_1 : qd cX0_init 1 (.invokespecial 3) 3 4 := ⟨by decide +kernel, rfl⟩
theorem D_X0_init_4 : qd cX0_init 4 (.aload_n 0) 1 5 := ⟨by decide +kernel, rfl⟩
theorem D_X0_init_5 : qd cX0_init 5 (.bipush 16) 2 7 := ⟨by decide +kernel, rfl⟩
theorem D_X0_init_7 : qd cX0_init 7 (.newarray .int) 2 9 := ⟨by decide +kernel, rfl⟩
theorem D_X0_init_9 : qd cX0_init 9 (.putfield 9) 3 12 := ⟨by decide +kernel, rfl⟩
theorem D_X0_init_12 : qd cX0_init 12 (.return_) 1 13 := ⟨by decide +kernel, rfl⟩
theorem D_X0_kindOf_0 : qd cX0_kindOf 0 (.iload_n 1) 1 1 := ⟨by decide +kernel, rfl⟩
theorem D_X0_kindOf_1 : qj cX0_kindOf 1 (.ifCond .lt 8) (8) 4 9 := ⟨by decide +kernel, rfl, by decide⟩
theorem D_X0_kindOf_4 : qd cX0_kindOf 4 (.iload_n 1) 1 5 := ⟨by decide +kernel, rfl⟩
theorem D_X0_kindOf_5 : qd cX0_kindOf 5 (.iconst 5) 1 6 := ⟨by decide +kernel, rfl⟩
theorem D_X0_kindOf_6 : qj cX0_kindOf 6 (.if_icmp .lt 7) (7) 9 13 := ⟨by decide +kernel, rfl, by decide⟩
theorem D_X0_kindOf_9 : qd cX0_kindOf 9 (.iconst 0) 1 10 := ⟨by decide +kernel, rfl⟩
theorem D_X0_kindOf_10 : qj cX0_kindOf 10 (.goto 9) (9) 13 19 := ⟨by decide +kernel, rfl, by decide⟩
theorem D_X0_kindOf_13 : qd cX0_kindOf 13 (.aload_n 0) 1 14 := ⟨by decide +kernel, rfl⟩
theorem D_X0_kindOf_14 : qd cX0_kindOf 14 (.getfield 40) 3 17 := ⟨by decide +kernel, rfl⟩
theorem D_X0_kindOf_17 : qd cX0_kindOf 17 (.iload_n 1) 1 18 := ⟨by decide +kernel, rfl⟩
theorem D_X0_kindOf_18 : qd cX0_kindOf 18 (.iaload) 1 19 := ⟨by decide +kernel, rfl⟩
theorem D_X0_kindOf_19 : qd cX0_kindOf 19 (.istore_n 2) 1 20 := ⟨by decide +kernel, rfl⟩
theorem D_X0_kindOf_20 : qd cX0_kindOf 20 (.iload_n 2) 1 21 := ⟨by decide +kernel, rfl⟩
theorem D_X0_kindOf_21 : qj cX0_kindOf 21 (.ifCond .lt 8) (8) 24 29 := ⟨by decide +kernel, rfl, by decide⟩
theorem D_X0_kindOf_24 : qd cX0_kindOf 24 (.iload_n 2) 1 25 := ⟨by decide +kernel, rfl⟩
theorem D_X0_kindOf_25 : qd cX0_kindOf 25 (.iconst 5) 1 26 := ⟨by decide +kernel, rfl⟩
theorem D_X0_kindOf_26 : qj cX0_kindOf 26 (.if_icmp .le 7) (7) 29 33 := ⟨by decide +kernel, rfl, by decide⟩
theorem D_X0_kindOf_29 : qd cX0_kindOf 29 (.iconst 0) 1 30 := ⟨by decide +kernel, rfl⟩
theorem D_X0_kindOf_30 : qj cX0_kindOf 30 (.goto 4) (4) 33 34 := ⟨by decide +kernel, rfl, by decide⟩
theorem D_X0_kindOf_33 : qd cX0_kindOf 33 (.iload_n 2) 1 34 := ⟨by decide +kernel, rfl⟩
theorem D_X0_kindOf_34 : qd cX0_kindOf 34 (.ireturn) 1 35 := ⟨by decide +kernel, rfl⟩
theorem D_X0_leave_0 : qd cX0_leave 0 (.aload_n 0) 1 1 := ⟨by decide +kernel, rfl⟩
theorem D_X0_leave_1 : qd cX0_leave 1 (.getfield 15) 3 4 := ⟨by decide +kernel, rfl⟩
theorem D_X0_leave_4 : qd cX0_leave 4 (.bipush 16) 2 6 := ⟨by decide +kernel, rfl⟩
theorem D_X0_leave_6 : qj cX0_leave 6 (.if_icmp .ge 23) (23) 9 29 := ⟨by decide +kernel, rfl, by decide⟩
theorem D_X0_leave_9 : qd cX0_leave 9 (.aload_n 0) 1 10 := ⟨by decide +kernel, rfl⟩
theorem D_X0_leave_10 : qd cX0_leave 10 (.getfield 9) 3 13 := ⟨by decide +kernel, rfl⟩
theorem D_X0_leave_13 : qd cX0_leave 13 (.aload_n 0) 1 14 := ⟨by decide +kernel, rfl⟩
theorem D_X0_leave_14 : qd cX0_leave 14 (.getfield 15) 3 17 := ⟨by decide +kernel, rfl⟩
theorem D_X0_leave_17 : qd cX0_leave 17 (.iload_n 1) 1 18 := ⟨by decide +kernel, rfl⟩
theorem D_X0_leave_18 : qd cX0_leave 18 (.iastore) 1 19 := ⟨by decide +kernel, rfl⟩
theorem D_X0_leave_19 : qd cX0_leave 19 (.aload_n 0) 1 20 := ⟨by decide +kernel, rfl⟩
theorem D_X0_leave_20 : qd cX0_leave 20 (.dup) 1 21 := ⟨by decide +kernel, rfl⟩
theorem D_X0_leave_21 : qd cX0_leave 21 (.getfield 15) 3 24 := ⟨by decide +kernel, rfl⟩
theorem D_X0_leave_24 : qd cX0_leave 24 (.iconst 1) 1 25 := ⟨by decide +kernel, rfl⟩
theorem D_X0_leave_25 : qd cX0_leave 25 (.iadd) 1 26 := ⟨by decide +kernel, rfl⟩
theorem D_X0_leave_26 : qd cX0_leave 26 (.putfield 15) 3 29 := ⟨by decide +kernel, rfl⟩
theorem D_X0_leave_29 : qd cX0_leave 29 (.return_) 1 30 := ⟨by decide +kernel, rfl⟩
theorem D_X0_markOf_0 : qd cX0_markOf 0 (.aload_n 0) 1 1 := ⟨by decide +kernel, rfl⟩
theorem D_X0_markOf_1 : qd cX0_markOf 1 (.getstatic 37) 3 4 := ⟨by decide +kernel, rfl⟩
theorem D_X0_markOf_4 : qd cX0_markOf 4 (.aload_n 1) 1 5 := ⟨by decide +kernel, rfl⟩
theorem D_X0_markOf_5 : qd cX0_markOf 5 (.iload_n 2) 1 6 := ⟨by decide +kernel, rfl⟩
theorem D_X0_markOf_6 : qd cX0_markOf 6 (.invokestatic 29) 3 9 := ⟨by decide +kernel, rfl⟩
theorem D_X0_markOf_9 : qd cX0_markOf 9 (.iaload) 1 10 := ⟨by decide +kernel, rfl⟩
theorem D_X0_markOf_10 : qd cX0_markOf 10 (.aload_n 1) 1 11 := ⟨by decide +kernel, rfl⟩
theorem D_X0_markOf_11 : qd cX0_markOf 11 (.iload_n 2) 1 12 := ⟨by decide +kernel, rfl⟩
theorem D_X0_markOf_12 : qd cX0_markOf 12 (.iload_n 3) 1 13 := ⟨by decide +kernel, rfl⟩
theorem D_X0_markOf_13 : qd cX0_markOf 13 (.invokevirtual 33) 3 16 := ⟨by decide +kernel, rfl⟩
theorem D_X0_markOf_16 : qd cX0_markOf 16 (.ireturn) 1 17 := ⟨by decide +kernel, rfl⟩
theorem D_X0_sizeOf_0 : qd cX0_sizeOf 0 (.aload_n 0) 1 1 := ⟨by decide +kernel, rfl⟩
theorem D_X0_sizeOf_1 : qd cX0_sizeOf 1 (.getstatic 26) 3 4 := ⟨by decide +kernel, rfl⟩
theorem D_X0_sizeOf_4 : qd cX0_sizeOf 4 (.aload_n 1) 1 5 := ⟨by decide +kernel, rfl⟩
theorem D_X0_sizeOf_5 : qd cX0_sizeOf 5 (.iload_n 2) 1 6 := ⟨by decide +kernel, rfl⟩
theorem D_X0_sizeOf_6 : qd cX0_sizeOf 6 (.invokestatic 29) 3 9 := ⟨by decide +kernel, rfl⟩
theorem D_X0_sizeOf_9 : qd cX0_sizeOf 9 (.iaload) 1 10 := ⟨by decide +kernel, rfl⟩
theorem D_X0_sizeOf_10 : qd cX0_sizeOf 10 (.aload_n 1) 1 11 := ⟨by decide +kernel, rfl⟩
theorem D_X0_sizeOf_11 : qd cX0_sizeOf 11 (.iload_n 2) 1 12 := ⟨by decide +kernel, rfl⟩
theorem D_X0_sizeOf_12 : qd cX0_sizeOf 12 (.iload_n 3) 1 13 := ⟨by decide +kernel, rfl⟩
theorem D_X0_sizeOf_13 : qd cX0_sizeOf 13 (.invokevirtual 33) 3 16 := ⟨by decide +kernel, rfl⟩
theorem D_X0_sizeOf_16 : qd cX0_sizeOf 16 (.ireturn) 1 17 := ⟨by decide +kernel, rfl⟩
theorem D_X1_clear_0 : qd cX1_clear 0 (.aload_n 0) 1 1 := ⟨by decide +kernel, rfl⟩
theorem D_X1_clear_1 : qd cX1_clear 1 (.iconst 0) 1 2 := ⟨by decide +kernel, rfl⟩
theorem D_X1_clear_2 : qd cX1_clear 2 (.putfield 18) 3 5 := ⟨by decide +kernel, rfl⟩
theorem D_X1_clear_5 : qd cX1_clear 5 (.aload_n 0) 1 6 := ⟨by decide +kernel, rfl⟩
theorem D_X1_clear_6 : qd cX1_clear 6 (.iconst 0) 1 7 := ⟨by decide +kernel, rfl⟩
theorem D_X1_clear_7 : qd cX1_clear 7 (.putfield 22) 3 10 := ⟨by decide +kernel, rfl⟩
theorem D_X1_clear_10 : qd cX1_clear 10 (.return_) 1 11 := ⟨by decide +kernel, rfl⟩
theorem D_X1_giveBack_0 : qd cX1_giveBack 0 (.aload_n 0) 1 1 := ⟨by decide +kernel, rfl⟩
theorem D_X1_giveBack_1 : qd cX1_giveBack 1 (.getfield 18) 3 4 := ⟨by decide +kernel, rfl⟩
theorem D_X1_giveBack_4 : qd cX1_giveBack 4 (.iconst 1) 1 5 := ⟨by decide +kernel, rfl⟩
theorem D_X1_giveBack_5 : qj cX1_giveBack 5 (.if_icmp .ge 5) (5) 8 10 := ⟨by decide +kernel, rfl, by decide⟩
theorem D_X1_giveBack_8 : qd cX1_giveBack 8 (.iconst 0) 1 9 := ⟨by decide +kernel, rfl⟩
theorem D_X1_giveBack_9 : qd cX1_giveBack 9 (.ireturn) 1 10 := ⟨by decide +kernel, rfl⟩
theorem D_X1_giveBack_10 : qd cX1_giveBack 10 (.aload_n 0) 1 11 := ⟨by decide +kernel, rfl⟩
theorem D_X1_giveBack_11 : qd cX1_giveBack 11 (.dup) 1 12 := ⟨by decide +kernel, rfl⟩
theorem D_X1_giveBack_12 : qd cX1_giveBack 12 (.getfield 18) 3 15 := ⟨by decide +kernel, rfl⟩
theorem D_X1_giveBack_15 : qd cX1_giveBack 15 (.iconst 1) 1 16 := ⟨by decide +kernel, rfl⟩
theorem D_X1_giveBack_16 : qd cX1_giveBack 16 (.isub) 1 17 := ⟨by decide +kernel, rfl⟩
theorem D_X1_giveBack_17 : qd cX1_giveBack 17 (.putfield 18) 3 20 := ⟨by decide +kernel, rfl⟩
theorem D_X1_giveBack_20 : qd cX1_giveBack 20 (.aload_n 1) 1 21 := ⟨by decide +kernel, rfl⟩
theorem D_X1_giveBack_21 : qd cX1_giveBack 21 (.aload_n 0) 1 22 := ⟨by decide +kernel, rfl⟩
theorem D_X1_giveBack_22 : qd cX1_giveBack 22 (.getfield 11) 3 25 := ⟨by decide +kernel, rfl⟩
theorem D_X1_giveBack_25 : qd cX1_giveBack 25 (.aload_n 0) 1 26 := ⟨by decide +kernel, rfl⟩
theorem D_X1_giveBack_26 : qd cX1_giveBack 26 (.getfield 22) 3 29 := ⟨by decide +kernel, rfl⟩
theorem D_X1_giveBack_29 : qd cX1_giveBack 29 (.aload_n 0) 1 30 := ⟨by decide +kernel, rfl⟩
theorem D_X1_giveBack_30 : qd cX1_giveBack 30 (.getfield 18) 3 33 := ⟨by decide +kernel, rfl⟩
theorem D_X1_giveBack_33 : qd cX1_giveBack 33 (.iadd) 1 34 := ⟨by decide +kernel, rfl⟩
theorem D_X1_giveBack_34 : qd cX1_giveBack 34 (.bipush 24) 2 36 := ⟨by decide +kernel, rfl⟩
theorem D_X1_giveBack_36 : qd cX1_giveBack 36 (.irem) 1 37 := ⟨by decide +kernel, rfl⟩
theorem D_X1_giveBack_37 : qd cX1_giveBack 37 (.aaload) 1 38 := ⟨by decide +kernel, rfl⟩
theorem D_X1_giveBack_38 : qd cX1_giveBack 38 (.invokevirtual 25) 3 41 := ⟨by decide +kernel, rfl⟩
theorem D_X1_giveBack_41 : qd cX1_giveBack 41 (.iconst 1) 1 42 := ⟨by decide +kernel, rfl⟩
theorem D_X1_giveBack_42 : qd cX1_giveBack 42 (.ireturn) 1 43 := ⟨by decide +kernel, rfl⟩
theorem D_X1_init_0 : qd cX1_init 0 (.aload_n 0) 1 1 := ⟨by decide +kernel, rfl⟩
theorem D_X1_init_1 : qd cX1_init 1 (.invokespecial 3) 3 4 := ⟨by decide +kernel, rfl⟩
theorem D_X1_init_4 : qd cX1_init 4 (.aload_n 0) 1 5 := ⟨by decide +kernel, rfl⟩
theorem D_X1_init_5 : qd cX1_init 5 (.bipush 24) 2 7 := ⟨by decide +kernel, rfl⟩
theorem D_X1_init_7 : qd cX1_init 7 (.anewarray 9) 3 10 := ⟨by decide +kernel, rfl⟩
theorem D_X1_init_10 : qd cX1_init 10 (.putfield 11) 3 13 := ⟨by decide +kernel, rfl⟩
theorem D_X1_init_13 : qd cX1_init 13 (.iconst 0) 1 14 := ⟨by decide +kernel, rfl⟩
theorem D_X1_init_14 : qd cX1_init 14 (.istore_n 1) 1 15 := ⟨by decide +kernel, rfl⟩
theorem D_X1_init_15 : qd cX1_init 15 (.iload_n 1) 1 16 := ⟨by decide +kernel, rfl⟩
theorem D_X1_init_16 : qd cX1_init 16 (.bipush 24) 2 18 := ⟨by decide +kernel, rfl⟩
theorem D_X1_init_18 : qj cX1_init 18 (.if_icmp .ge 22) (22) 21 40 := ⟨by decide +kernel, rfl, by decide⟩
theorem D_X1_init_21 : qd cX1_init 21 (.aload_n 0) 1 22 := ⟨by decide +kernel, rfl⟩
theorem D_X1_init_22 : qd cX1_init 22 (.getfield 11) 3 25 := ⟨by decide +kernel, rfl⟩
theorem D_X1_init_25 : qd cX1_init 25 (.iload_n 1) 1 26 := ⟨by decide +kernel, rfl⟩
theorem D_X1_init_26 : qd cX1_init 26 (.new 9) 3 29 := ⟨by decide +kernel, rfl⟩
theorem D_X1_init_29 : qd cX1_init 29 (.dup) 1 30 := ⟨by decide +kernel, rfl⟩
theorem D_X1_init_30 : qd cX1_init 30 (.invokespecial 17) 3 33 := ⟨by decide +kernel, rfl⟩
theorem D_X1_init_33 : qd cX1_init 33 (.aastore) 1 34 := ⟨by decide +kernel, rfl⟩
theorem D_X1_init_34 : qd cX1_init 34 (.iinc 1 1) 3 37 := ⟨by decide +kernel, rfl⟩
theorem D_X1_init_37 : qj cX1_init 37 (.goto (-22)) (-22) 40 15 := ⟨by decide +kernel, rfl, by decide⟩
theorem D_X1_init_40 : qd cX1_init 40 (.return_) 1 41 := ⟨by decide +kernel, rfl⟩
theorem D_X1_keep_0 : qd cX1_keep 0 (.aload_n 0) 1 1 := ⟨by decide +kernel, rfl⟩
theorem D_X1_keep_1 : qd cX1_keep 1 (.getfield 11) 3 4 := ⟨by decide +kernel, rfl⟩
theorem D_X1_keep_4 : qd cX1_keep 4 (.aload_n 0) 1 5 := ⟨by decide +kernel, rfl⟩
theorem D_X1_keep_5 : qd cX1_keep 5 (.getfield 22) 3 8 := ⟨by decide +kernel, rfl⟩
theorem D_X1_keep_8 : qd cX1_keep 8 (.aload_n 0) 1 9 := ⟨by decide +kernel, rfl⟩
theorem D_X1_keep_9 : qd cX1_keep 9 (.getfield 18) 3 12 := ⟨by decide +kernel, rfl⟩
theorem D_X1_keep_12 : qd cX1_keep 12 (.iadd) 1 13 := ⟨by decide +kernel, rfl⟩
theorem D_X1_keep_13 : qd cX1_keep 13 (.bipush 24) 2 15 := ⟨by decide +kernel, rfl⟩
theorem D_X1_keep_15 : qd cX1_keep 15 (.irem) 1 16 := ⟨by decide +kernel, rfl⟩
theorem D_X1_keep_16 : qd cX1_keep 16 (.aaload) 1 17 := ⟨by decide +kernel, rfl⟩
theorem D_X1_keep_17 : qd cX1_keep 17 (.aload_n 1) 1 18 := ⟨by decide +kernel, rfl⟩
theorem D_X1_keep_18 : qd cX1_keep 18 (.invokevirtual 25) 3 21 := ⟨by decide +kernel, rfl⟩
theorem D_X1_keep_21 : qd cX1_keep 21 (.aload_n 0) 1 22 := ⟨by decide +kernel, rfl⟩
theorem D_X1_keep_22 : qd cX1_keep 22 (.getfield 18) 3 25 := ⟨by decide +kernel, rfl⟩
theorem D_X1_keep_25 : qd cX1_keep 25 (.bipush 24) 2 27 := ⟨by decide +kernel, rfl⟩
theorem D_X1_keep_27 : qj cX1_keep 27 (.if_icmp .ge 16) (16) 30 43 := ⟨by decide +kernel, rfl, by decide⟩
theorem D_X1_keep_30 : qd cX1_keep 30 (.aload_n 0) 1 31 := ⟨by decide +kernel, rfl⟩
theorem D_X1_keep_31 : qd cX1_keep 31 (.dup) 1 32 := ⟨by decide +kernel, rfl⟩
theorem D_X1_keep_32 : qd cX1_keep 32 (.getfield 18) 3 35 := ⟨by decide +kernel, rfl⟩
theorem D_X1_keep_35 : qd cX1_keep 35 (.iconst 1) 1 36 := ⟨by decide +kernel, rfl⟩
theorem D_X1_keep_36 : qd cX1_keep 36 (.iadd) 1 37 := ⟨by decide +kernel, rfl⟩
theorem D_X1_keep_37 : qd cX1_keep 37 (.putfield 18) 3 40 := ⟨by decide +kernel, rfl⟩
theorem D_X1_keep_40 : qj cX1_keep 40 (.goto 16) (16) 43 56 := ⟨by decide +kernel, rfl, by decide⟩
theorem D_X1_keep_43 : qd cX1_keep 43 (.aload_n 0) 1 44 := ⟨by decide +kernel, rfl⟩
theorem D_X1_keep_44 : qd cX1_keep 44 (.aload_n 0) 1 45 := ⟨by decide +kernel, rfl⟩
theorem D_X1_keep_45 : qd cX1_keep 45 (.getfield 22) 3 48 := ⟨by decide +kernel, rfl⟩
theorem D_X1_keep_48 : qd cX1_keep 48 (.iconst 1) 1 49 := ⟨by decide +kernel, rfl⟩
theorem D_X1_keep_49 : qd cX1_keep 49 (.iadd) 1 50 := ⟨by decide +kernel, rfl⟩
theorem D_X1_keep_50 : qd cX1_keep 50 (.bipush 24) 2 52 := ⟨by decide +kernel, rfl⟩
theorem D_X1_keep_52 : qd cX1_keep 52 (.irem) 1 53 := ⟨by decide +kernel, rfl⟩
theorem D_X1_keep_53 : qd cX1_keep 53 (.putfield 22) 3 56 := ⟨by decide +kernel, rfl⟩
theorem D_X1_keep_56 : qd cX1_keep 56 (.return_) 1 57 := ⟨by decide +kernel, rfl⟩
theorem D_X2_findingAt_0 : qd cX2_findingAt 0 (.aload_n 0) 1 1 := ⟨by decide +kernel, rfl⟩
theorem D_X2_findingAt_1 : qd cX2_findingAt 1 (.invokevirtual 28) 3 4 := ⟨by decide +kernel, rfl⟩
theorem D_X2_findingAt_4 : qj cX2_findingAt 4 (.ifCond .eq 5) (5) 7 9 := ⟨by decide +kernel, rfl, by decide⟩
theorem D_X2_findingAt_7 : qd cX2_findingAt 7 (.iconst 1) 1 8 := ⟨by decide +kernel, rfl⟩
theorem D_X2_findingAt_8 : qd cX2_findingAt 8 (.ireturn) 1 9 := ⟨by decide +kernel, rfl⟩
theorem D_X2_findingAt_9 : qd cX2_findingAt 9 (.aload_n 0) 1 10 := ⟨by decide +kernel, rfl⟩
theorem D_X2_findingAt_10 : qd cX2_findingAt 10 (.iload_n 1) 1 11 := ⟨by decide +kernel, rfl⟩
theorem D_X2_findingAt_11 : qd cX2_findingAt 11 (.iload_n 2) 1 12 := ⟨by decide +kernel, rfl⟩
theorem D_X2_findingAt_12 : qd cX2_findingAt 12 (.invokevirtual 32) 3 15 := ⟨by decide +kernel, rfl⟩
theorem D_X2_findingAt_15 : qj cX2_findingAt 15 (.ifCond .eq 7) (7) 18 22 := ⟨by decide +kernel, rfl, by decide⟩
theorem D_X2_findingAt_18 : qd cX2_findingAt 18 (.iconst 0) 1 19 := ⟨by decide +kernel, rfl⟩
theorem D_X2_findingAt_19 : qj cX2_findingAt 19 (.goto 4) (4) 22 23 := ⟨by decide +kernel, rfl, by decide⟩
theorem D_X2_findingAt_22 : qd cX2_findingAt 22 (.iconst 2) 1 23 := ⟨by decide +kernel, rfl⟩
theorem D_X2_findingAt_23 : qd cX2_findingAt 23 (.ireturn) 1 24 := ⟨by decide +kernel, rfl⟩
theorem D_X2_holds_0 : qd cX2_holds 0 (.iload_n 1) 1 1 := ⟨by decide +kernel, rfl⟩
theorem D_X2_holds_1 : qj cX2_holds 1 (.ifCond .lt 29) (29) 4 30 := ⟨by decide +kernel, rfl, by decide⟩
theorem D_X2_holds_4 : qd cX2_holds 4 (.iload_n 2) 1 5 := ⟨by decide +kernel, rfl⟩
theorem D_X2_holds_5 : qj cX2_holds 5 (.ifCond .lt 25) (25) 8 30 := ⟨by decide +kernel, rfl, by decide⟩
theorem D_X2_holds_8 : qd cX2_holds 8 (.iload_n 2) 1 9 := ⟨by decide +kernel, rfl⟩
theorem D_X2_holds_9 : qd cX2_holds 9 (.aload_n 0) 1 10 := ⟨by decide +kernel, rfl⟩
theorem D_X2_holds_10 : qd cX2_holds 10 (.getfield 19) 3 13 := ⟨by decide +kernel, rfl⟩
theorem D_X2_holds_13 : qj cX2_holds 13 (.if_icmp .gt 17) (17) 16 30 := ⟨by decide +kernel, rfl, by decide⟩
theorem D_X2_holds_16 : qd cX2_holds 16 (.iload_n 1) 1 17 := ⟨by decide +kernel, rfl⟩
theorem D_X2_holds_17 : qd cX2_holds 17 (.aload_n 0) 1 18 := ⟨by decide +kernel, rfl⟩
theorem D_X2_holds_18 : qd cX2_holds 18 (.getfield 19) 3 21 := ⟨by decide +kernel, rfl⟩
theorem D_X2_holds_21 : qd cX2_holds 21 (.iload_n 2) 1 22 := ⟨by decide +kernel, rfl⟩
theorem D_X2_holds_22 : qd cX2_holds 22 (.isub) 1 23 := ⟨by decide +kernel, rfl⟩
theorem D_X2_holds_23 : qj cX2_holds 23 (.if_icmp .gt 7) (7) 26 30 := ⟨by decide +kernel, rfl, by decide⟩
theorem D_X2_holds_26 : qd cX2_holds 26 (.iconst 1) 1 27 := ⟨by decide +kernel, rfl⟩
theorem D_X2_holds_27 : qj cX2_holds 27 (.goto 4) (4) 30 31 := ⟨by decide +kernel, rfl, by decide⟩
theorem D_X2_holds_30 : qd cX2_holds 30 (.iconst 0) 1 31 := ⟨by decide +kernel, rfl⟩
theorem D_X2_holds_31 : qd cX2_holds 31 (.ireturn) 1 32 := ⟨by decide +kernel, rfl⟩
theorem D_X2_init_0 : qd cX2_init 0 (.aload_n 0) 1 1 := ⟨by decide +kernel, rfl⟩
theorem D_X2_init_1 : qd cX2_init 1 (.invokespecial 3) 3 4 := ⟨by decide +kernel, rfl⟩
theorem D_X2_init_4 : qd cX2_init 4 (.aload_n 0) 1 5 := ⟨by decide +kernel, rfl⟩
theorem D_X2_init_5 : qd cX2_init 5 (.iconst (-1)) 1 6 := ⟨by decide +kernel, rfl⟩
theorem D_X2_init_6 : qd cX2_init 6 (.putfield 9) 3 9 := ⟨by decide +kernel, rfl⟩
theorem D_X2_init_9 : qd cX2_init 9 (.aload_n 0) 1 10 := ⟨by decide +kernel, rfl⟩
theorem D_X2_init_10 : qd cX2_init 10 (.bipush 40) 2 12 := ⟨by decide +kernel, rfl⟩
theorem D_X2_init_12 : qd cX2_init 12 (.newarray .int) 2 14 := ⟨by decide +kernel, rfl⟩
theorem D_X2_init_14 : qd cX2_init 14 (.putfield 15) 3 17 := ⟨by decide +kernel, rfl⟩
theorem D_X2_init_17 : qd cX2_init 17 (.return_) 1 18 := ⟨by decide +kernel, rfl⟩
theorem D_X2_isMissing_0 : qd cX2_isMissing 0 (.aload_n 0) 1 1 := ⟨by decide +kernel, rfl⟩
theorem D_X2_isMissing_1 : qd cX2_isMissing 1 (.getfield 9) 3 4 := ⟨by decide +kernel, rfl⟩
theorem D_X2_isMissing_4 : qd cX2_isMissing 4 (.iconst (-1)) 1 5 := ⟨by decide +kernel, rfl⟩
theorem D_X2_isMissing_5 : qj cX2_isMissing 5 (.if_icmp .ne 7) (7) 8 12 := ⟨by decide +kernel, rfl, by decide⟩
theorem D_X2_isMissing_8 : qd cX2_isMissing 8 (.iconst 1) 1 9 := ⟨by decide +kernel, rfl⟩
theorem D_X2_isMissing_9 : qj cX2_isMissing 9 (.goto 4) (4) 12 13 := ⟨by decide +kernel, rfl, by decide⟩
theorem D_X2_isMissing_12 : qd cX2_isMissing 12 (.iconst 0) 1 13 := ⟨by decide +kernel, rfl⟩
theorem D_X2_isMissing_13 : qd cX2_isMissing 13 (.ireturn) 1 14 := ⟨by decide +kernel, rfl⟩
theorem D_X2_lay_0 : qd cX2_lay 0 (.aload_n 0) 1 1 := ⟨by decide +kernel, rfl⟩
theorem D_X2_lay_1 : qd cX2_lay 1 (.iload_n 1) 1 2 := ⟨by decide +kernel, rfl⟩
theorem D_X2_lay_2 : qd cX2_lay 2 (.putfield 9) 3 5 := ⟨by decide +kernel, rfl⟩
theorem D_X2_lay_5 : qd cX2_lay 5 (.aload_n 0) 1 6 := ⟨by decide +kernel, rfl⟩
theorem D_X2_lay_6 : qd cX2_lay 6 (.iload_n 2) 1 7 := ⟨by decide +kernel, rfl⟩
theorem D_X2_lay_7 : qd cX2_lay 7 (.putfield 19) 3 10 := ⟨by decide +kernel, rfl⟩
theorem D_X2_lay_10 : qd cX2_lay 10 (.aload_n 0) 1 11 := ⟨by decide +kernel, rfl⟩
theorem D_X2_lay_11 : qd cX2_lay 11 (.getfield 15) 3 14 := ⟨by decide +kernel, rfl⟩
theorem D_X2_lay_14 : qd cX2_lay 14 (.iconst 0) 1 15 := ⟨by decide +kernel, rfl⟩
theorem D_X2_lay_15 : qd cX2_lay 15 (.invokestatic 22) 3 18 := ⟨by decide +kernel, rfl⟩
theorem D_X2_lay_18 : qd cX2_lay 18 (.return_) 1 19 := ⟨by decide +kernel, rfl⟩
theorem D_X2_put_0 : qd cX2_put 0 (.aload_n 0) 1 1 := ⟨by decide +kernel, rfl⟩
theorem D_X2_put_1 : qd cX2_put 1 (.getfield 9) 3 4 := ⟨by decide +kernel, rfl⟩
theorem D_X2_put_4 : qj cX2_put 4 (.ifCond .ne 8) (8) 7 12 := ⟨by decide +kernel, rfl, by decide⟩
theorem D_X2_put_7 : qd cX2_put 7 (.iload_n 2) 1 8 := ⟨by decide +kernel, rfl⟩
theorem D_X2_put_8 : qd cX2_put 8 (.i2b) 1 9 := ⟨by decide +kernel, rfl⟩
theorem D_X2_put_9 : qj cX2_put 9 (.goto 17) (17) 12 26 := ⟨by decide +kernel, rfl, by decide⟩
theorem D_X2_put_12 : qd cX2_put 12 (.aload_n 0) 1 13 := ⟨by decide +kernel, rfl⟩
theorem D_X2_put_13 : qd cX2_put 13 (.getfield 9) 3 16 := ⟨by decide +kernel, rfl⟩
theorem D_X2_put_16 : qd cX2_put 16 (.iconst 1) 1 17 := ⟨by decide +kernel, rfl⟩
theorem D_X2_put_17 : qj cX2_put 17 (.if_icmp .ne 8) (8) 20 25 := ⟨by decide +kernel, rfl, by decide⟩
theorem D_X2_put_20 : qd cX2_put 20 (.iload_n 2) 1 21 := ⟨by decide +kernel, rfl⟩
theorem D_X2_put_21 : qd cX2_put 21 (.i2s) 1 22 := ⟨by decide +kernel, rfl⟩
theorem D_X2_put_22 : qj cX2_put 22 (.goto 4) (4) 25 26 := ⟨by decide +kernel, rfl, by decide⟩
theorem D_X2_put_25 : qd cX2_put 25 (.iload_n 2) 1 26 := ⟨by decide +kernel, rfl⟩
theorem D_X2_put_26 : qd cX2_put 26 (.istore_n 3) 1 27 := ⟨by decide +kernel, rfl⟩
theorem D_X2_put_27 : qd cX2_put 27 (.aload_n 0) 1 28 := ⟨by decide +kernel, rfl⟩
theorem D_X2_put_28 : qd cX2_put 28 (.getfield 15) 3 31 := ⟨by decide +kernel, rfl⟩
theorem D_X2_put_31 : qd cX2_put 31 (.iload_n 1) 1 32 := ⟨by decide +kernel, rfl⟩
theorem D_X2_put_32 : qd cX2_put 32 (.iload_n 3) 1 33 := ⟨by decide +kernel, rfl⟩
theorem D_X2_put_33 : qd cX2_put 33 (.iastore) 1 34 := ⟨by decide +kernel, rfl⟩
theorem D_X2_put_34 : qd cX2_put 34 (.iload_n 3) 1 35 := ⟨by decide +kernel, rfl⟩
theorem D_X2_put_35 : qd cX2_put 35 (.ireturn) 1 36 := ⟨by decide +kernel, rfl⟩
theorem D_X3_chanceOfKeeping_0 : qd cX3_chanceOfKeeping 0 (.lconst 1) 1 1 := ⟨by decide +kernel, rfl⟩
theorem D_X3_chanceOfKeeping_1 : qd cX3_chanceOfKeeping 1 (.lstore 5) 2 3 := ⟨by decide +kernel, rfl⟩
theorem D_X3_chanceOfKeeping_3 : qd cX3_chanceOfKeeping 3 (.lconst 1) 1 4 := ⟨by decide +kernel, rfl⟩
theorem D_X3_chanceOfKeeping_4 : qd cX3_chanceOfKeeping 4 (.lstore 7) 2 6 := ⟨by decide +kernel, rfl⟩
theorem D_X3_chanceOfKeeping_6 : qd cX3_chanceOfKeeping 6 (.aload_n 1) 1 7 := ⟨by decide +kernel, rfl⟩
theorem D_X3_chanceOfKeeping_7 : qd cX3_chanceOfKeeping 7 (.getfield 36) 3 10 := ⟨by decide +kernel, rfl⟩
theorem D_X3_chanceOfKeeping_10 : qd cX3_chanceOfKeeping 10 (.iload_n 2) 1 11 := ⟨by decide +kernel, rfl⟩
theorem D_X3_chanceOfKeeping_11 : qd cX3_chanceOfKeeping 11 (.invokestatic 40) 3 14 := ⟨by decide +kernel, rfl⟩
theorem D_X3_chanceOfKeeping_14 : qj cX3_chanceOfKeeping 14 (.ifCond .eq 44) (44) 17 58 := ⟨by decide +kernel, rfl, by decide⟩
theorem D_X3_chanceOfKeeping_17 : qd cX3_chanceOfKeeping 17 (.aload_n 1) 1 18 := ⟨by decide +kernel, rfl⟩
theorem D_X3_chanceOfKeeping_18 : qd cX3_chanceOfKeeping 18 (.iload_n 2) 1 19 := ⟨by decide +kernel, rfl⟩
theorem D_X3_chanceOfKeeping_19 : qd cX3_chanceOfKeeping 19 (.invokevirtual 115) 3 22 := ⟨by decide +kernel, rfl⟩
theorem D_X3_chanceOfKeeping_22 : qd cX3_chanceOfKeeping 22 (.invokestatic 74) 3 25 := ⟨by decide +kernel, rfl⟩
theorem D_X3_chanceOfKeeping_25 : qd cX3_chanceOfKeeping 25 (.istore 9) 2 27 := ⟨by decide +kernel, rfl⟩
theorem D_X3_chanceOfKeeping_27 : qd cX3_chanceOfKeeping 27 (.iconst 0) 1 28 := ⟨by decide +kernel, rfl⟩
theorem D_X3_chanceOfKeeping_28 : qd cX3_chanceOfKeeping 28 (.istore 10) 2 30 := ⟨by decide +kernel, rfl⟩
theorem D_X3_chanceOfKeeping_30 : qd cX3_chanceOfKeeping 30 (.iload 10) 2 32 := ⟨by decide +kernel, rfl⟩
theorem D_X3_chanceOfKeeping_32 : qd cX3_chanceOfKeeping 32 (.iload 9) 2 34 := ⟨by decide +kernel, rfl⟩
theorem D_X3_chanceOfKeeping_34 : qj cX3_chanceOfKeeping 34 (.if_icmp .ge 24) (24) 37 58 := ⟨by decide +kernel, rfl, by decide⟩
theorem D_X3_chanceOfKeeping_37 : qd cX3_chanceOfKeeping 37 (.lload 5) 2 39 := ⟨by decide +kernel, rfl⟩
theorem D_X3_chanceOfKeeping_39 : qd cX3_chanceOfKeeping 39 (.ldc2_w 118) 3 42 := ⟨by decide +kernel, rfl⟩
theorem D_X3_chanceOfKeeping_42 : qd cX3_chanceOfKeeping 42 (.lmul) 1 43 := ⟨by decide +kernel, rfl⟩
theorem D_X3_chanceOfKeeping_43 : qd cX3_chanceOfKeeping 43 (.lstore 5) 2 45 := ⟨by decide +kernel, rfl⟩
theorem D_X3_chanceOfKeeping_45 : qd cX3_chanceOfKeeping 45 (.lload 7) 2 47 := ⟨by decide +kernel, rfl⟩
theorem D_X3_chanceOfKeeping_47 : qd cX3_chanceOfKeeping 47 (.iload_n 3) 1 48 := ⟨by decide +kernel, rfl⟩
theorem D_X3_chanceOfKeeping_48 : qd cX3_chanceOfKeeping 48 (.i2l) 1 49 := ⟨by decide +kernel, rfl⟩
theorem D_X3_chanceOfKeeping_49 : qd cX3_chanceOfKeeping 49 (.lmul) 1 50 := ⟨by decide +kernel, rfl⟩
theorem D_X3_chanceOfKeeping_50 : qd cX3_chanceOfKeeping 50 (.lstore 7) 2 52 := ⟨by decide +kernel, rfl⟩
theorem D_X3_chanceOfKeeping_52 : qd cX3_chanceOfKeeping 52 (.iinc 10 1) 3 55 := ⟨by decide +kernel, rfl⟩
theorem D_X3_chanceOfKeeping_55 : qj cX3_chanceOfKeeping 55 (.goto (-25)) (-25) 58 30 := ⟨by decide +kernel, rfl, by decide⟩
theorem D_X3_chanceOfKeeping_58 : qd cX3_chanceOfKeeping 58 (.lload 5) 2 60 := ⟨by decide +kernel, rfl⟩
theorem D_X3_chanceOfKeeping_60 : qd cX3_chanceOfKeeping 60 (.lload 5) 2 62 := ⟨by decide +kernel, rfl⟩
theorem D_X3_chanceOfKeeping_62 : qd cX3_chanceOfKeeping 62 (.lload 7) 2 64 := ⟨by decide +kernel, rfl⟩
theorem D_X3_chanceOfKeeping_64 : qd cX3_chanceOfKeeping 64 (.lsub) 1 65 := ⟨by decide +kernel, rfl⟩
theorem D_X3_chanceOfKeeping_65 : qd cX3_chanceOfKeeping 65 (.invokestatic 120) 3 68 := ⟨by decide +kernel, rfl⟩
theorem D_X3_chanceOfKeeping_68 : qd cX3_chanceOfKeeping 68 (.lstore 9) 2 70 := ⟨by decide +kernel, rfl⟩
theorem D_X3_chanceOfKeeping_70 : qd cX3_chanceOfKeeping 70 (.iload 4) 2 72 := ⟨by decide +kernel, rfl⟩
theorem D_X3_chanceOfKeeping_72 : qj cX3_chanceOfKeeping 72 (.ifCond .eq 11) (11) 75 83 := ⟨by decide +kernel, rfl, by decide⟩
theorem D_X3_chanceOfKeeping_75 : qd cX3_chanceOfKeeping 75 (.lload 5) 2 77 := ⟨by decide +kernel, rfl⟩
theorem D_X3_chanceOfKeeping_77 : qd cX3_chanceOfKeeping 77 (.lload 7) 2 79 := ⟨by decide +kernel, rfl⟩
theorem D_X3_chanceOfKeeping_79 : qd cX3_chanceOfKeeping 79 (.lsub) 1 80 := ⟨by decide +kernel, rfl⟩
theorem D_X3_chanceOfKeeping_80 : qj cX3_chanceOfKeeping 80 (.goto 5) (5) 83 85 := ⟨by decide +kernel, rfl, by decide⟩
theorem D_X3_chanceOfKeeping_83 : qd cX3_chanceOfKeeping 83 (.lload 5) 2 85 := ⟨by decide +kernel, rfl⟩
theorem D_X3_chanceOfKeeping_85 : qd cX3_chanceOfKeeping 85 (.lload 9) 2 87 := ⟨by decide +kernel, rfl⟩
theorem D_X3_chanceOfKeeping_87 : qd cX3_chanceOfKeeping 87 (.ldiv) 1 88 := ⟨by decide +kernel, rfl⟩
theorem D_X3_chanceOfKeeping_88 : qd cX3_chanceOfKeeping 88 (.lreturn) 1 89 := ⟨by decide +kernel, rfl⟩
theorem D_X3_commonDivisor_0 : qd cX3_commonDivisor 0 (.lload_n 0) 1 1 := ⟨by decide +kernel, rfl⟩
theorem D_X3_commonDivisor_1 : qd cX3_commonDivisor 1 (.lstore 4) 2 3 := ⟨by decide +kernel, rfl⟩
theorem D_X3_commonDivisor_3 : qd cX3_commonDivisor 3 (.lload_n 2) 1 4 := ⟨by decide +kernel, rfl⟩
theorem D_X3_commonDivisor_4 : qd cX3_commonDivisor 4 (.lstore 6) 2 6 := ⟨by decide +kernel, rfl⟩
theorem D_X3_commonDivisor_6 : qd cX3_commonDivisor 6 (.iconst 0) 1 7 := ⟨by decide +kernel, rfl⟩
theorem D_X3_commonDivisor_7 : qd cX3_commonDivisor 7 (.istore 8) 2 9 := ⟨by decide +kernel, rfl⟩
theorem D_X3_commonDivisor_9 : qd cX3_commonDivisor 9 (.iload 8) 2 11 := ⟨by decide +kernel, rfl⟩
theorem D_X3_commonDivisor_11 : qd cX3_commonDivisor 11 (.bipush 64) 2 13 := ⟨by decide +kernel, rfl⟩
theorem D_X3_commonDivisor_13 : qj cX3_commonDivisor 13 (.if_icmp .ge 31) (31) 16 44 := ⟨by decide +kernel, rfl, by decide⟩
theorem D_X3_commonDivisor_16 : qd cX3_commonDivisor 16 (.lload 6) 2 18 := ⟨by decide +kernel, rfl⟩
theorem D_X3_commonDivisor_18 : qd cX3_commonDivisor 18 (.lconst 0) 1 19 := ⟨by decide +kernel, rfl⟩
theorem D_X3_commonDivisor_19 : qd cX3_commonDivisor 19 (.lcmp) 1 20 := ⟨by decide +kernel, rfl⟩
theorem D_X3_commonDivisor_20 : qj cX3_commonDivisor 20 (.ifCond .eq 24) (24) 23 44 := ⟨by decide +kernel, rfl, by decide⟩
theorem D_X3_commonDivisor_23 : qd cX3_commonDivisor 23 (.lload 4) 2 25 := ⟨by decide +kernel, rfl⟩
theorem D_X3_commonDivisor_25 : qd cX3_commonDivisor 25 (.lload 6) 2 27 := ⟨by decide +kernel, rfl⟩
theorem D_X3_commonDivisor_27 : qd cX3_commonDivisor 27 (.lrem) 1 28 := ⟨by decide +kernel, rfl⟩
theorem D_X3_commonDivisor_28 : qd cX3_commonDivisor 28 (.lstore 9) 2 30 := ⟨by decide +kernel, rfl⟩
theorem D_X3_commonDivisor_30 : qd cX3_commonDivisor 30 (.lload 6) 2 32 := ⟨by decide +kernel, rfl⟩
theorem D_X3_commonDivisor_32 : qd cX3_commonDivisor 32 (.lstore 4) 2 34 := ⟨by decide +kernel, rfl⟩
theorem D_X3_commonDivisor_34 : qd cX3_commonDivisor 34 (.lload 9) 2 36 := ⟨by decide +kernel, rfl⟩
theorem D_X3_commonDivisor_36 : qd cX3_commonDivisor 36 (.lstore 6) 2 38 := ⟨by decide +kernel, rfl⟩
theorem D_X3_commonDivisor_38 : qd cX3_commonDivisor 38 (.iinc 8 1) 3 41 := ⟨by decide +kernel, rfl⟩
theorem D_X3_commonDivisor_41 : qj cX3_commonDivisor 41 (.goto (-32)) (-32) 44 9 := ⟨by decide +kernel, rfl, by decide⟩
theorem D_X3_commonDivisor_44 : qd cX3_commonDivisor 44 (.lload 4) 2 46 := ⟨by decide +kernel, rfl⟩
theorem D_X3_commonDivisor_46 : qd cX3_commonDivisor 46 (.lconst 1) 1 47 := ⟨by decide +kernel, rfl⟩
theorem D_X3_commonDivisor_47 : qd cX3_commonDivisor 47 (.lcmp) 1 48 := ⟨by decide +kernel, rfl⟩
theorem D_X3_commonDivisor_48 : qj cX3_commonDivisor 48 (.ifCond .ge 7) (7) 51 55 := ⟨by decide +kernel, rfl, by decide⟩
theorem D_X3_commonDivisor_51 : qd cX3_commonDivisor 51 (.lconst 1) 1 52 := ⟨by decide +kernel, rfl⟩
theorem D_X3_commonDivisor_52 : qj cX3_commonDivisor 52 (.goto 5) (5) 55 57 := ⟨by decide +kernel, rfl, by decide⟩
theorem D_X3_commonDivisor_55 : qd cX3_commonDivisor 55 (.lload 4) 2 57 := ⟨by decide +kernel, rfl⟩
theorem D_X3_commonDivisor_57 : qd cX3_commonDivisor 57 (.lreturn) 1 58 := ⟨by decide +kernel, rfl⟩
theorem D_X3_copyOf_0 : qd cX3_copyOf 0 (.aload_n 0) 1 1 := ⟨by decide +kernel, rfl⟩
theorem D_X3_copyOf_1 : qd cX3_copyOf 1 (.getfield 20) 3 4 := ⟨by decide +kernel, rfl⟩
theorem D_X3_copyOf_4 : qd cX3_copyOf 4 (.iconst 0) 1 5 := ⟨by decide +kernel, rfl⟩
theorem D_X3_copyOf_5 : qd cX3_copyOf 5 (.aaload) 1 6 := ⟨by decide +kernel, rfl⟩
theorem D_X3_copyOf_6 : qd cX3_copyOf 6 (.aload_n 1) 1 7 := ⟨by decide +kernel, rfl⟩
theorem D_X3_copyOf_7 : qd cX3_copyOf 7 (.invokevirtual 25) 3 10 := ⟨by decide +kernel, rfl⟩
theorem D_X3_copyOf_10 : qd cX3_copyOf 10 (.aload_n 0) 1 11 := ⟨by decide +kernel, rfl⟩
theorem D_X3_copyOf_11 : qd cX3_copyOf 11 (.getfield 20) 3 14 := ⟨by decide +kernel, rfl⟩
theorem D_X3_copyOf_14 : qd cX3_copyOf 14 (.iconst 0) 1 15 := ⟨by decide +kernel, rfl⟩
theorem D_X3_copyOf_15 : qd cX3_copyOf 15 (.aaload) 1 16 := ⟨by decide +kernel, rfl⟩
theorem D_X3_copyOf_16 : qd cX3_copyOf 16 (.areturn) 1 17 := ⟨by decide +kernel, rfl⟩
theorem D_X3_findFewestSuppers_0 : qd cX3_findFewestSuppers 0 (.aload_n 0) 1 1 := ⟨by decide +kernel, rfl⟩
theorem D_X3_findFewestSuppers_1 : qd cX3_findFewestSuppers 1 (.bipush 16) 2 3 := ⟨by decide +kernel, rfl⟩
theorem D_X3_findFewestSuppers_3 : qd cX3_findFewestSuppers 3 (.putfield 58) 3 6 := ⟨by decide +kernel, rfl⟩
theorem D_X3_findFewestSuppers_6 : qd cX3_findFewestSuppers 6 (.aload_n 0) 1 7 := ⟨by decide +kernel, rfl⟩
theorem D_X3_findFewestSuppers_7 : qd cX3_findFewestSuppers 7 (.aload_n 1) 1 8 := ⟨by decide +kernel, rfl⟩
theorem D_X3_findFewestSuppers_8 : qd cX3_findFewestSuppers 8 (.invokevirtual 29) 3 11 := ⟨by decide +kernel, rfl⟩
theorem D_X3_findFewestSuppers_11 : qd cX3_findFewestSuppers 11 (.pop) 1 12 := ⟨by decide +kernel, rfl⟩
theorem D_X3_findFewestSuppers_12 : qd cX3_findFewestSuppers 12 (.aload_n 0) 1 13 := ⟨by decide +kernel, rfl⟩
theorem D_X3_findFewestSuppers_13 : qd cX3_findFewestSuppers 13 (.iconst 0) 1 14 := ⟨by decide +kernel, rfl⟩
theorem D_X3_findFewestSuppers_14 : qd cX3_findFewestSuppers 14 (.iload_n 3) 1 15 := ⟨by decide +kernel, rfl⟩
theorem D_X3_findFewestSuppers_15 : qd cX3_findFewestSuppers 15 (.iload_n 2) 1 16 := ⟨by decide +kernel, rfl⟩
theorem D_X3_findFewestSuppers_16 : qd cX3_findFewestSuppers 16 (.iconst 0) 1 17 := ⟨by decide +kernel, rfl⟩
theorem D_X3_findFewestSuppers_17 : qd cX3_findFewestSuppers 17 (.invokevirtual 61) 3 20 := ⟨by decide +kernel, rfl⟩
theorem D_X3_findFewestSuppers_20 : qd cX3_findFewestSuppers 20 (.aload_n 0) 1 21 := ⟨by decide +kernel, rfl⟩
theorem D_X3_findFewestSuppers_21 : qd cX3_findFewestSuppers 21 (.getfield 58) 3 24 := ⟨by decide +kernel, rfl⟩
theorem D_X3_findFewestSuppers_24 : qd cX3_findFewestSuppers 24 (.bipush 16) 2 26 := ⟨by decide +kernel, rfl⟩
theorem D_X3_findFewestSuppers_26 : qj cX3_findFewestSuppers 26 (.if_icmp .ge 7) (7) 29 33 := ⟨by decide +kernel, rfl, by decide⟩
theorem D_X3_findFewestSuppers_29 : qd cX3_findFewestSuppers 29 (.iconst 1) 1 30 := ⟨by decide +kernel, rfl⟩
theorem D_X3_findFewestSuppers_30 : qj cX3_findFewestSuppers 30 (.goto 4) (4) 33 34 := ⟨by decide +kernel, rfl, by decide⟩
theorem D_X3_findFewestSuppers_33 : qd cX3_findFewestSuppers 33 (.iconst 0) 1 34 := ⟨by decide +kernel, rfl⟩
theorem D_X3_findFewestSuppers_34 : qd cX3_findFewestSuppers 34 (.ireturn) 1 35 := ⟨by decide +kernel, rfl⟩
theorem D_X3_firstOf_0 : qd cX3_firstOf 0 (.iconst 0) 1 1 := ⟨by decide +kernel, rfl⟩
theorem D_X3_firstOf_1 : qd cX3_firstOf 1 (.istore_n 1) 1 2 := ⟨by decide +kernel, rfl⟩
theorem D_X3_firstOf_2 : qd cX3_firstOf 2 (.iload_n 1) 1 3 := ⟨by decide +kernel, rfl⟩
theorem D_X3_firstOf_3 : qd cX3_firstOf 3 (.bipush 6) 2 5 := ⟨by decide +kernel, rfl⟩
theorem D_X3_firstOf_5 : qj cX3_firstOf 5 (.if_icmp .ge 19) (19) 8 24 := ⟨by decide +kernel, rfl, by decide⟩
theorem D_X3_firstOf_8 : qd cX3_firstOf 8 (.iload_n 0) 1 9 := ⟨by decide +kernel, rfl⟩
theorem D_X3_firstOf_9 : qd cX3_firstOf 9 (.iload_n 1) 1 10 := ⟨by decide +kernel, rfl⟩
theorem D_X3_firstOf_10 : qd cX3_firstOf 10 (.invokestatic 40) 3 13 := ⟨by decide +kernel, rfl⟩
theorem D_X3_firstOf_13 : qj cX3_firstOf 13 (.ifCond .eq 5) (5) 16 18 := ⟨by decide +kernel, rfl, by decide⟩
theorem D_X3_firstOf_16 : qd cX3_firstOf 16 (.iload_n 1) 1 17 := ⟨by decide +kernel, rfl⟩
theorem D_X3_firstOf_17 : qd cX3_firstOf 17 (.ireturn) 1 18 := ⟨by decide +kernel, rfl⟩
theorem D_X3_firstOf_18 : qd cX3_firstOf 18 (.iinc 1 1) 3 21 := ⟨by decide +kernel, rfl⟩
theorem D_X3_firstOf_21 : qj cX3_firstOf 21 (.goto (-19)) (-19) 24 2 := ⟨by decide +kernel, rfl, by decide⟩
theorem D_X3_firstOf_24 : qd cX3_firstOf 24 (.ldc 54) 2 26 := ⟨by decide +kernel, rfl⟩
theorem D_X3_firstOf_26 : qd cX3_firstOf 26 (.ireturn) 1 27 := ⟨by decide +kernel, rfl⟩
theorem D_X3_goesAsTold_0 : qd cX3_goesAsTold 0 (.aload_n 1) 1 1 := ⟨by decide +kernel, rfl⟩
theorem D_X3_goesAsTold_1 : qd cX3_goesAsTold 1 (.iload_n 2) 1 2 := ⟨by decide +kernel, rfl⟩
theorem D_X3_goesAsTold_2 : qd cX3_goesAsTold 2 (.iload_n 3) 1 3 := ⟨by decide +kernel, rfl⟩
theorem D_X3_goesAsTold_3 : qd cX3_goesAsTold 3 (.invokevirtual 103) 3 6 := ⟨by decide +kernel, rfl⟩
theorem D_X3_goesAsTold_6 : qj cX3_goesAsTold 6 (.ifCond .ne 5) (5) 9 11 := ⟨by decide +kernel, rfl, by decide⟩
theorem D_X3_goesAsTold_9 : qd cX3_goesAsTold 9 (.iconst 0) 1 10 := ⟨by decide +kernel, rfl⟩
theorem D_X3_goesAsTold_10 : qd cX3_goesAsTold 10 (.ireturn) 1 11 := ⟨by decide +kernel, rfl⟩
theorem D_X3_goesAsTold_11 : qd cX3_goesAsTold 11 (.iconst 0) 1 12 := ⟨by decide +kernel, rfl⟩
theorem D_X3_goesAsTold_12 : qd cX3_goesAsTold 12 (.istore 4) 2 14 := ⟨by decide +kernel, rfl⟩
theorem D_X3_goesAsTold_14 : qd cX3_goesAsTold 14 (.iload 4) 2 16 := ⟨by decide +kernel, rfl⟩
theorem D_X3_goesAsTold_16 : qd cX3_goesAsTold 16 (.iload_n 3) 1 17 := ⟨by decide +kernel, rfl⟩
theorem D_X3_goesAsTold_17 : qj cX3_goesAsTold 17 (.if_icmp .ge 31) (31) 20 48 := ⟨by decide +kernel, rfl, by decide⟩
theorem D_X3_goesAsTold_20 : qd cX3_goesAsTold 20 (.aload_n 0) 1 21 := ⟨by decide +kernel, rfl⟩
theorem D_X3_goesAsTold_21 : qd cX3_goesAsTold 21 (.invokevirtual 33) 3 24 := ⟨by decide +kernel, rfl⟩
theorem D_X3_goesAsTold_24 : qd cX3_goesAsTold 24 (.aload_n 0) 1 25 := ⟨by decide +kernel, rfl⟩
theorem D_X3_goesAsTold_25 : qd cX3_goesAsTold 25 (.getfield 36) 3 28 := ⟨by decide +kernel, rfl⟩
theorem D_X3_goesAsTold_28 : qd cX3_goesAsTold 28 (.aload_n 1) 1 29 := ⟨by decide +kernel, rfl⟩
theorem D_X3_goesAsTold_29 : qd cX3_goesAsTold 29 (.getfield 108) 3 32 := ⟨by decide +kernel, rfl⟩
theorem D_X3_goesAsTold_32 : qd cX3_goesAsTold 32 (.iload_n 2) 1 33 := ⟨by decide +kernel, rfl⟩
theorem D_X3_goesAsTold_33 : qd cX3_goesAsTold 33 (.iload 4) 2 35 := ⟨by decide +kernel, rfl⟩
theorem D_X3_goesAsTold_35 : qd cX3_goesAsTold 35 (.iadd) 1 36 := ⟨by decide +kernel, rfl⟩
theorem D_X3_goesAsTold_36 : qd cX3_goesAsTold 36 (.iaload) 1 37 := ⟨by decide +kernel, rfl⟩
theorem D_X3_goesAsTold_37 : qj cX3_goesAsTold 37 (.if_icmp .eq 5) (5) 40 42 := ⟨by decide +kernel, rfl, by decide⟩
theorem D_X3_goesAsTold_40 : qd cX3_goesAsTold 40 (.iconst 0) 1 41 := ⟨by decide +kernel, rfl⟩
theorem D_X3_goesAsTold_41 : qd cX3_goesAsTold 41 (.ireturn) 1 42 := ⟨by decide +kernel, rfl⟩
theorem D_X3_goesAsTold_42 : qd cX3_goesAsTold 42 (.iinc 4 1) 3 45 := ⟨by decide +kernel, rfl⟩
theorem D_X3_goesAsTold_45 : qj cX3_goesAsTold 45 (.goto (-31)) (-31) 48 14 := ⟨by decide +kernel, rfl, by decide⟩
theorem D_X3_goesAsTold_48 : qd cX3_goesAsTold 48 (.iconst 1) 1 49 := ⟨by decide +kernel, rfl⟩
theorem D_X3_goesAsTold_49 : qd cX3_goesAsTold 49 (.ireturn) 1 50 := ⟨by decide +kernel, rfl⟩
theorem D_X3_graveDugFirst_0 : qd cX3_graveDugFirst 0 (.aload_n 0) 1 1 := ⟨by decide +kernel, rfl⟩
theorem D_X3_graveDugFirst_1 : qd cX3_graveDugFirst 1 (.aload_n 1) 1 2 := ⟨by decide +kernel, rfl⟩
theorem D_X3_graveDugFirst_2 : qd cX3_graveDugFirst 2 (.invokevirtual 29) 3 5 := ⟨by decide +kernel, rfl⟩
theorem D_X3_graveDugFirst_5 : qd cX3_graveDugFirst 5 (.astore_n 2) 1 6 := ⟨by decide +kernel, rfl⟩
theorem D_X3_graveDugFirst_6 : qd cX3_graveDugFirst 6 (.iconst 0) 1 7 := ⟨by decide +kernel, rfl⟩
theorem D_X3_graveDugFirst_7 : qd cX3_graveDugFirst 7 (.istore_n 3) 1 8 := ⟨by decide +kernel, rfl⟩
theorem D_X3_graveDugFirst_8 : qd cX3_graveDugFirst 8 (.iload_n 3) 1 9 := ⟨by decide +kernel, rfl⟩
theorem D_X3_graveDugFirst_9 : qd cX3_graveDugFirst 9 (.bipush 40) 2 11 := ⟨by decide +kernel, rfl⟩
theorem D_X3_graveDugFirst_11 : qj cX3_graveDugFirst 11 (.if_icmp .ge 39) (39) 14 50 := ⟨by decide +kernel, rfl, by decide⟩
theorem D_X3_graveDugFirst_14 : qd cX3_graveDugFirst 14 (.aload_n 2) 1 15 := ⟨by decide +kernel, rfl⟩
theorem D_X3_graveDugFirst_15 : qd cX3_graveDugFirst 15 (.invokevirtual 33) 3 18 := ⟨by decide +kernel, rfl⟩
theorem D_X3_graveDugFirst_18 : qd cX3_graveDugFirst 18 (.aload_n 2) 1 19 := ⟨by decide +kernel, rfl⟩
theorem D_X3_graveDugFirst_19 : qd cX3_graveDugFirst 19 (.getfield 36) 3 22 := ⟨by decide +kernel, rfl⟩
theorem D_X3_graveDugFirst_22 : qd cX3_graveDugFirst 22 (.aload_n 1) 1 23 := ⟨by decide +kernel, rfl⟩
theorem D_X3_graveDugFirst_23 : qd cX3_graveDugFirst 23 (.getfield 36) 3 26 := ⟨by decide +kernel, rfl⟩
theorem D_X3_graveDugFirst_26 : qj cX3_graveDugFirst 26 (.if_icmp .eq 18) (18) 29 44 := ⟨by decide +kernel, rfl, by decide⟩
theorem D_X3_graveDugFirst_29 : qd cX3_graveDugFirst 29 (.aload_n 1) 1 30 := ⟨by decide +kernel, rfl⟩
theorem D_X3_graveDugFirst_30 : qd cX3_graveDugFirst 30 (.getfield 36) 3 33 := ⟨by decide +kernel, rfl⟩
theorem D_X3_graveDugFirst_33 : qd cX3_graveDugFirst 33 (.aload_n 2) 1 34 := ⟨by decide +kernel, rfl⟩
theorem D_X3_graveDugFirst_34 : qd cX3_graveDugFirst 34 (.getfield 36) 3 37 := ⟨by decide +kernel, rfl⟩
theorem D_X3_graveDugFirst_37 : qd cX3_graveDugFirst 37 (.iconst (-1)) 1 38 := ⟨by decide +kernel, rfl⟩
theorem D_X3_graveDugFirst_38 : qd cX3_graveDugFirst 38 (.ixor) 1 39 := ⟨by decide +kernel, rfl⟩
theorem D_X3_graveDugFirst_39 : qd cX3_graveDugFirst 39 (.iand) 1 40 := ⟨by decide +kernel, rfl⟩
theorem D_X3_graveDugFirst_40 : qd cX3_graveDugFirst 40 (.invokestatic 55) 3 43 := ⟨by decide +kernel, rfl⟩
theorem D_X3_graveDugFirst_43 : qd cX3_graveDugFirst 43 (.ireturn) 1 44 := ⟨by decide +kernel, rfl⟩
theorem D_X3_graveDugFirst_44 : qd cX3_graveDugFirst 44 (.iinc 3 1) 3 47 := ⟨by decide +kernel, rfl⟩
theorem D_X3_graveDugFirst_47 : qj cX3_graveDugFirst 47 (.goto (-39)) (-39) 50 8 := ⟨by decide +kernel, rfl, by decide⟩
theorem D_X3_graveDugFirst_50 : qd cX3_graveDugFirst 50 (.ldc 54) 2 52 := ⟨by decide +kernel, rfl⟩
theorem D_X3_graveDugFirst_52 : qd cX3_graveDugFirst 52 (.ireturn) 1 53 := ⟨by decide +kernel, rfl⟩
theorem D_X3_init_0 : qd cX3_init 0 (.aload_n 0) 1 1 := ⟨by decide +kernel, rfl⟩
theorem D_X3_init_1 : qd cX3_init 1 (.invokespecial 3) 3 4 := ⟨by decide +kernel, rfl⟩
theorem D_X3_init_4 : qd cX3_init 4 (.aload_n 0) 1 5 := ⟨by decide +kernel, rfl⟩
theorem D_X3_init_5 : qd cX3_init 5 (.iconst 3) 1 6 := ⟨by decide +kernel, rfl⟩
theorem D_X3_init_6 : qd cX3_init 6 (.newarray .int) 2 8 := ⟨by decide +kernel, rfl⟩
theorem D_X3_init_8 : qd cX3_init 8 (.putfield 9) 3 11 := ⟨by decide +kernel, rfl⟩
theorem D_X3_init_11 : qd cX3_init 11 (.aload_n 0) 1 12 := ⟨by decide +kernel, rfl⟩
theorem D_X3_init_12 : qd cX3_init 12 (.iconst 3) 1 13 := ⟨by decide +kernel, rfl⟩
theorem D_X3_init_13 : qd cX3_init 13 (.newarray .int) 2 15 := ⟨by decide +kernel, rfl⟩
theorem D_X3_init_15 : qd cX3_init 15 (.putfield 15) 3 18 := ⟨by decide +kernel, rfl⟩
theorem D_X3_init_18 : qd cX3_init 18 (.aload_n 0) 1 19 := ⟨by decide +kernel, rfl⟩
theorem D_X3_init_19 : qd cX3_init 19 (.iconst 3) 1 20 := ⟨by decide +kernel, rfl⟩
theorem D_X3_init_20 : qd cX3_init 20 (.anewarray 18) 3 23 := ⟨by decide +kernel, rfl⟩
theorem D_X3_init_23 : qd cX3_init 23 (.putfield 20) 3 26 := ⟨by decide +kernel, rfl⟩
theorem D_X3_init_26 : qd cX3_init 26 (.iconst 0) 1 27 := ⟨by decide +kernel, rfl⟩
theorem D_X3_init_27 : qd cX3_init 27 (.istore_n 1) 1 28 := ⟨by decide +kernel, rfl⟩
theorem D_X3_init_28 : qd cX3_init 28 (.iload_n 1) 1 29 := ⟨by decide +kernel, rfl⟩
theorem D_X3_init_29 : qd cX3_init 29 (.iconst 3) 1 30 := ⟨by decide +kernel, rfl⟩
theorem D_X3_init_30 : qj cX3_init 30 (.if_icmp .ge 22) (22) 33 52 := ⟨by decide +kernel, rfl, by decide⟩
theorem D_X3_init_33 : qd cX3_init 33 (.aload_n 0) 1 34 := ⟨by decide +kernel, rfl⟩
theorem D_X3_init_34 : qd cX3_init 34 (.getfield 20) 3 37 := ⟨by decide +kernel, rfl⟩
theorem D_X3_init_37 : qd cX3_init 37 (.iload_n 1) 1 38 := ⟨by decide +kernel, rfl⟩
theorem D_X3_init_38 : qd cX3_init 38 (.new 18) 3 41 := ⟨by decide +kernel, rfl⟩
theorem D_X3_init_41 : qd cX3_init 41 (.dup) 1 42 := ⟨by decide +kernel, rfl⟩
theorem D_X3_init_42 : qd cX3_init 42 (.invokespecial 24) 3 45 := ⟨by decide +kernel, rfl⟩
theorem D_X3_init_45 : qd cX3_init 45 (.aastore) 1 46 := ⟨by decide +kernel, rfl⟩
theorem D_X3_init_46 : qd cX3_init 46 (.iinc 1 1) 3 49 := ⟨by decide +kernel, rfl⟩
theorem D_X3_init_49 : qj cX3_init 49 (.goto (-21)) (-21) 52 28 := ⟨by decide +kernel, rfl, by decide⟩
theorem D_X3_init_52 : qd cX3_init 52 (.return_) 1 53 := ⟨by decide +kernel, rfl⟩
theorem D_X3_keptBehind_0 : qd cX3_keptBehind 0 (.aload_n 0) 1 1 := ⟨by decide +kernel, rfl⟩
theorem D_X3_keptBehind_1 : qd cX3_keptBehind 1 (.aload_n 1) 1 2 := ⟨by decide +kernel, rfl⟩
theorem D_X3_keptBehind_2 : qd cX3_keptBehind 2 (.invokevirtual 29) 3 5 := ⟨by decide +kernel, rfl⟩
theorem D_X3_keptBehind_5 : qd cX3_keptBehind 5 (.astore_n 3) 1 6 := ⟨by decide +kernel, rfl⟩
theorem D_X3_keptBehind_6 : qd cX3_keptBehind 6 (.iconst 0) 1 7 := ⟨by decide +kernel, rfl⟩
theorem D_X3_keptBehind_7 : qd cX3_keptBehind 7 (.istore 4) 2 9 := ⟨by decide +kernel, rfl⟩
theorem D_X3_keptBehind_9 : qd cX3_keptBehind 9 (.iload 4) 2 11 := ⟨by decide +kernel, rfl⟩
theorem D_X3_keptBehind_11 : qd cX3_keptBehind 11 (.iload_n 2) 1 12 := ⟨by decide +kernel, rfl⟩
theorem D_X3_keptBehind_12 : qj cX3_keptBehind 12 (.if_icmp .ge 13) (13) 15 25 := ⟨by decide +kernel, rfl, by decide⟩
theorem D_X3_keptBehind_15 : qd cX3_keptBehind 15 (.aload_n 3) 1 16 := ⟨by decide +kernel, rfl⟩
theorem D_X3_keptBehind_16 : qd cX3_keptBehind 16 (.invokevirtual 33) 3 19 := ⟨by decide +kernel, rfl⟩
theorem D_X3_keptBehind_19 : qd cX3_keptBehind 19 (.iinc 4 1) 3 22 := ⟨by decide +kernel, rfl⟩
theorem D_X3_keptBehind_22 : qj cX3_keptBehind 22 (.goto (-13)) (-13) 25 9 := ⟨by decide +kernel, rfl, by decide⟩
theorem D_X3_keptBehind_25 : qd cX3_keptBehind 25 (.aload_n 3) 1 26 := ⟨by decide +kernel, rfl⟩
theorem D_X3_keptBehind_26 : qd cX3_keptBehind 26 (.getfield 36) 3 29 := ⟨by decide +kernel, rfl⟩
theorem D_X3_keptBehind_29 : qd cX3_keptBehind 29 (.ireturn) 1 30 := ⟨by decide +kernel, rfl⟩
theorem D_X3_kindsBy_0 : qd cX3_kindsBy 0 (.iconst 0) 1 1 := ⟨by decide +kernel, rfl⟩
theorem D_X3_kindsBy_1 : qd cX3_kindsBy 1 (.istore 6) 2 3 := ⟨by decide +kernel, rfl⟩
theorem D_X3_kindsBy_3 : qd cX3_kindsBy 3 (.iload_n 2) 1 4 := ⟨by decide +kernel, rfl⟩
theorem D_X3_kindsBy_4 : qj cX3_kindsBy 4 (.ifCond .lt 8) (8) 7 12 := ⟨by decide +kernel, rfl, by decide⟩
theorem D_X3_kindsBy_7 : qd cX3_kindsBy 7 (.iload_n 2) 1 8 := ⟨by decide +kernel, rfl⟩
theorem D_X3_kindsBy_8 : qd cX3_kindsBy 8 (.iconst 5) 1 9 := ⟨by decide +kernel, rfl⟩
theorem D_X3_kindsBy_9 : qj cX3_kindsBy 9 (.if_icmp .lt 6) (6) 12 15 := ⟨by decide +kernel, rfl, by decide⟩
theorem D_X3_kindsBy_12 : qd cX3_kindsBy 12 (.iload 6) 2 14 := ⟨by decide +kernel, rfl⟩
theorem D_X3_kindsBy_14 : qd cX3_kindsBy 14 (.ireturn) 1 15 := ⟨by decide +kernel, rfl⟩
theorem D_X3_kindsBy_15 : qd cX3_kindsBy 15 (.iconst 1) 1 16 := ⟨by decide +kernel, rfl⟩
theorem D_X3_kindsBy_16 : qd cX3_kindsBy 16 (.istore 7) 2 18 := ⟨by decide +kernel, rfl⟩
theorem D_X3_kindsBy_18 : qd cX3_kindsBy 18 (.iload 7) 2 20 := ⟨by decide +kernel, rfl⟩
theorem D_X3_kindsBy_20 : qd cX3_kindsBy 20 (.iconst 5) 1 21 := ⟨by decide +kernel, rfl⟩
theorem D_X3_kindsBy_21 : qj cX3_kindsBy 21 (.if_icmp .gt 48) (48) 24 69 := ⟨by decide +kernel, rfl, by decide⟩
theorem D_X3_kindsBy_24 : qd cX3_kindsBy 24 (.aload_n 0) 1 25 := ⟨by decide +kernel, rfl⟩
theorem D_X3_kindsBy_25 : qd cX3_kindsBy 25 (.aload_n 1) 1 26 := ⟨by decide +kernel, rfl⟩
theorem D_X3_kindsBy_26 : qd cX3_kindsBy 26 (.invokevirtual 29) 3 29 := ⟨by decide +kernel, rfl⟩
theorem D_X3_kindsBy_29 : qd cX3_kindsBy 29 (.astore 8) 2 31 := ⟨by decide +kernel, rfl⟩
theorem D_X3_kindsBy_31 : qd cX3_kindsBy 31 (.aload 8) 2 33 := ⟨by decide +kernel, rfl⟩
theorem D_X3_kindsBy_33 : qd cX3_kindsBy 33 (.getfield 92) 3 36 := ⟨by decide +kernel, rfl⟩
theorem D_X3_kindsBy_36 : qd cX3_kindsBy 36 (.iload_n 2) 1 37 := ⟨by decide +kernel, rfl⟩
theorem D_X3_kindsBy_37 : qd cX3_kindsBy 37 (.iload 7) 2 39 := ⟨by decide +kernel, rfl⟩
theorem D_X3_kindsBy_39 : qd cX3_kindsBy 39 (.iastore) 1 40 := ⟨by decide +kernel, rfl⟩
theorem D_X3_kindsBy_40 : qd cX3_kindsBy 40 (.aload 8) 2 42 := ⟨by decide +kernel, rfl⟩
theorem D_X3_kindsBy_42 : qd cX3_kindsBy 42 (.aload_n 3) 1 43 := ⟨by decide +kernel, rfl⟩
theorem D_X3_kindsBy_43 : qd cX3_kindsBy 43 (.iload 4) 2 45 := ⟨by decide +kernel, rfl⟩
theorem D_X3_kindsBy_45 : qd cX3_kindsBy 45 (.iload 5) 2 47 := ⟨by decide +kernel, rfl⟩
theorem D_X3_kindsBy_47 : qd cX3_kindsBy 47 (.invokestatic 95) 3 50 := ⟨by decide +kernel, rfl⟩
theorem D_X3_kindsBy_50 : qj cX3_kindsBy 50 (.ifCond .eq 13) (13) 53 63 := ⟨by decide +kernel, rfl, by decide⟩
theorem D_X3_kindsBy_53 : qd cX3_kindsBy 53 (.iload 6) 2 55 := ⟨by decide +kernel, rfl⟩
theorem D_X3_kindsBy_55 : qd cX3_kindsBy 55 (.iload 7) 2 57 := ⟨by decide +kernel, rfl⟩
theorem D_X3_kindsBy_57 : qd cX3_kindsBy 57 (.invokestatic 47) 3 60 := ⟨by decide +kernel, rfl⟩
theorem D_X3_kindsBy_60 : qd cX3_kindsBy 60 (.ior) 1 61 := ⟨by decide +kernel, rfl⟩
theorem D_X3_kindsBy_61 : qd cX3_kindsBy 61 (.istore 6) 2 63 := ⟨by decide +kernel, rfl⟩
theorem D_X3_kindsBy_63 : qd cX3_kindsBy 63 (.iinc 7 1) 3 66 := ⟨by decide +kernel, rfl⟩
theorem D_X3_kindsBy_66 : qj cX3_kindsBy 66 (.goto (-48)) (-48) 69 18 := ⟨by decide +kernel, rfl, by decide⟩
theorem D_X3_kindsBy_69 : qd cX3_kindsBy 69 (.iload 6) 2 71 := ⟨by decide +kernel, rfl⟩
theorem D_X3_kindsBy_71 : qd cX3_kindsBy 71 (.ireturn) 1 72 := ⟨by decide +kernel, rfl⟩
theorem D_X3_suppersNeeded_0 : qd cX3_suppersNeeded 0 (.aload_n 0) 1 1 := ⟨by decide +kernel, rfl⟩
theorem D_X3_suppersNeeded_1 : qd cX3_suppersNeeded 1 (.aload_n 1) 1 2 := ⟨by decide +kernel, rfl⟩
theorem D_X3_suppersNeeded_2 : qd cX3_suppersNeeded 2 (.invokevirtual 29) 3 5 := ⟨by decide +kernel, rfl⟩
theorem D_X3_suppersNeeded_5 : qd cX3_suppersNeeded 5 (.astore_n 3) 1 6 := ⟨by decide +kernel, rfl⟩
theorem D_X3_suppersNeeded_6 : qd cX3_suppersNeeded 6 (.iconst 0) 1 7 := ⟨by decide +kernel, rfl⟩
theorem D_X3_suppersNeeded_7 : qd cX3_suppersNeeded 7 (.istore 4) 2 9 := ⟨by decide +kernel, rfl⟩
theorem D_X3_suppersNeeded_9 : qd cX3_suppersNeeded 9 (.iconst 0) 1 10 := ⟨by decide +kernel, rfl⟩
theorem D_X3_suppersNeeded_10 : qd cX3_suppersNeeded 10 (.istore 5) 2 12 := ⟨by decide +kernel, rfl⟩
theorem D_X3_suppersNeeded_12 : qd cX3_suppersNeeded 12 (.iload 5) 2 14 := ⟨by decide +kernel, rfl⟩
theorem D_X3_suppersNeeded_14 : qd cX3_suppersNeeded 14 (.iload_n 2) 1 15 := ⟨by decide +kernel, rfl⟩
theorem D_X3_suppersNeeded_15 : qj cX3_suppersNeeded 15 (.if_icmp .ge 33) (33) 18 48 := ⟨by decide +kernel, rfl, by decide⟩
theorem D_X3_suppersNeeded_18 : qd cX3_suppersNeeded 18 (.aload_n 3) 1 19 := ⟨by decide +kernel, rfl⟩
theorem D_X3_suppersNeeded_19 : qd cX3_suppersNeeded 19 (.aload_n 3) 1 20 := ⟨by decide +kernel, rfl⟩
theorem D_X3_suppersNeeded_20 : qd cX3_suppersNeeded 20 (.invokevirtual 111) 3 23 := ⟨by decide +kernel, rfl⟩
theorem D_X3_suppersNeeded_23 : qd cX3_suppersNeeded 23 (.putfield 51) 3 26 := ⟨by decide +kernel, rfl⟩
theorem D_X3_suppersNeeded_26 : qd cX3_suppersNeeded 26 (.iload 4) 2 28 := ⟨by decide +kernel, rfl⟩
theorem D_X3_suppersNeeded_28 : qd cX3_suppersNeeded 28 (.aload_n 3) 1 29 := ⟨by decide +kernel, rfl⟩
theorem D_X3_suppersNeeded_29 : qd cX3_suppersNeeded 29 (.getfield 51) 3 32 := ⟨by decide +kernel, rfl⟩
theorem D_X3_suppersNeeded_32 : qd cX3_suppersNeeded 32 (.invokestatic 74) 3 35 := ⟨by decide +kernel, rfl⟩
theorem D_X3_suppersNeeded_35 : qd cX3_suppersNeeded 35 (.iadd) 1 36 := ⟨by decide +kernel, rfl⟩
theorem D_X3_suppersNeeded_36 : qd cX3_suppersNeeded 36 (.istore 4) 2 38 := ⟨by decide +kernel, rfl⟩
theorem D_X3_suppersNeeded_38 : qd cX3_suppersNeeded 38 (.aload_n 3) 1 39 := ⟨by decide +kernel, rfl⟩
theorem D_X3_suppersNeeded_39 : qd cX3_suppersNeeded 39 (.invokevirtual 33) 3 42 := ⟨by decide +kernel, rfl⟩
theorem D_X3_suppersNeeded_42 : qd cX3_suppersNeeded 42 (.iinc 5 1) 3 45 := ⟨by decide +kernel, rfl⟩
theorem D_X3_suppersNeeded_45 : qj cX3_suppersNeeded 45 (.goto (-33)) (-33) 48 12 := ⟨by decide +kernel, rfl, by decide⟩
theorem D_X3_suppersNeeded_48 : qd cX3_suppersNeeded 48 (.iload 4) 2 50 := ⟨by decide +kernel, rfl⟩
theorem D_X3_suppersNeeded_50 : qd cX3_suppersNeeded 50 (.ireturn) 1 51 := ⟨by decide +kernel, rfl⟩
theorem D_X3_tryYear_0 : qd cX3_tryYear 0 (.iload_n 1) 1 1 := ⟨by decide +kernel, rfl⟩
theorem D_X3_tryYear_1 : qj cX3_tryYear 1 (.ifCond .lt 13) (13) 4 14 := ⟨by decide +kernel, rfl, by decide⟩
theorem D_X3_tryYear_4 : qd cX3_tryYear 4 (.iload_n 1) 1 5 := ⟨by decide +kernel, rfl⟩
theorem D_X3_tryYear_5 : qd cX3_tryYear 5 (.iload_n 2) 1 6 := ⟨by decide +kernel, rfl⟩
theorem D_X3_tryYear_6 : qj cX3_tryYear 6 (.if_icmp .ge 8) (8) 9 14 := ⟨by decide +kernel, rfl, by decide⟩
theorem D_X3_tryYear_9 : qd cX3_tryYear 9 (.iload_n 2) 1 10 := ⟨by decide +kernel, rfl⟩
theorem D_X3_tryYear_10 : qd cX3_tryYear 10 (.iconst 3) 1 11 := ⟨by decide +kernel, rfl⟩
theorem D_X3_tryYear_11 : qj cX3_tryYear 11 (.if_icmp .le 4) (4) 14 15 := ⟨by decide +kernel, rfl, by decide⟩
theorem D_X3_tryYear_14 : qd cX3_tryYear 14 (.return_) 1 15 := ⟨by decide +kernel, rfl⟩
theorem D_X3_tryYear_15 : qd cX3_tryYear 15 (.aload_n 0) 1 16 := ⟨by decide +kernel, rfl⟩
theorem D_X3_tryYear_16 : qd cX3_tryYear 16 (.getfield 20) 3 19 := ⟨by decide +kernel, rfl⟩
theorem D_X3_tryYear_19 : qd cX3_tryYear 19 (.iload_n 1) 1 20 := ⟨by decide +kernel, rfl⟩
theorem D_X3_tryYear_20 : qd cX3_tryYear 20 (.aaload) 1 21 := ⟨by decide +kernel, rfl⟩
theorem D_X3_tryYear_21 : qd cX3_tryYear 21 (.astore 5) 2 23 := ⟨by decide +kernel, rfl⟩
theorem D_X3_tryYear_23 : qd cX3_tryYear 23 (.aload 5) 2 25 := ⟨by decide +kernel, rfl⟩
theorem D_X3_tryYear_25 : qd cX3_tryYear 25 (.invokevirtual 65) 3 28 := ⟨by decide +kernel, rfl⟩
theorem D_X3_tryYear_28 : qd cX3_tryYear 28 (.iload_n 3) 1 29 := ⟨by decide +kernel, rfl⟩
theorem D_X3_tryYear_29 : qd cX3_tryYear 29 (.aload 5) 2 31 := ⟨by decide +kernel, rfl⟩
theorem D_X3_tryYear_31 : qd cX3_tryYear 31 (.getfield 36) 3 34 := ⟨by decide +kernel, rfl⟩
theorem D_X3_tryYear_34 : qd cX3_tryYear 34 (.iconst (-1)) 1 35 := ⟨by decide +kernel, rfl⟩
theorem D_X3_tryYear_35 : qd cX3_tryYear 35 (.ixor) 1 36 := ⟨by decide +kernel, rfl⟩
theorem D_X3_tryYear_36 : qd cX3_tryYear 36 (.iand) 1 37 := ⟨by decide +kernel, rfl⟩
theorem D_X3_tryYear_37 : qj cX3_tryYear 37 (.ifCond .eq 4) (4) 40 41 := ⟨by decide +kernel, rfl, by decide⟩
theorem D_X3_tryYear_40 : qd cX3_tryYear 40 (.return_) 1 41 := ⟨by decide +kernel, rfl⟩
theorem D_X3_tryYear_41 : qd cX3_tryYear 41 (.aload_n 0) 1 42 := ⟨by decide +kernel, rfl⟩
theorem D_X3_tryYear_42 : qd cX3_tryYear 42 (.getfield 15) 3 45 := ⟨by decide +kernel, rfl⟩
theorem D_X3_tryYear_45 : qd cX3_tryYear 45 (.iload_n 1) 1 46 := ⟨by decide +kernel, rfl⟩
theorem D_X3_tryYear_46 : qd cX3_tryYear 46 (.iconst 0) 1 47 := ⟨by decide +kernel, rfl⟩
theorem D_X3_tryYear_47 : qd cX3_tryYear 47 (.iastore) 1 48 := ⟨by decide +kernel, rfl⟩
theorem D_X3_tryYear_48 : qd cX3_tryYear 48 (.iload_n 1) 1 49 := ⟨by decide +kernel, rfl⟩
theorem D_X3_tryYear_49 : qd cX3_tryYear 49 (.iload_n 2) 1 50 := ⟨by decide +kernel, rfl⟩
theorem D_X3_tryYear_50 : qd cX3_tryYear 50 (.iconst 1) 1 51 := ⟨by decide +kernel, rfl⟩
theorem D_X3_tryYear_51 : qd cX3_tryYear 51 (.isub) 1 52 := ⟨by decide +kernel, rfl⟩
theorem D_X3_tryYear_52 : qj cX3_tryYear 52 (.if_icmp .ne 24) (24) 55 76 := ⟨by decide +kernel, rfl, by decide⟩
theorem D_X3_tryYear_55 : qd cX3_tryYear 55 (.aload_n 0) 1 56 := ⟨by decide +kernel, rfl⟩
theorem D_X3_tryYear_56 : qd cX3_tryYear 56 (.iload 4) 2 58 := ⟨by decide +kernel, rfl⟩
theorem D_X3_tryYear_58 : qd cX3_tryYear 58 (.putfield 58) 3 61 := ⟨by decide +kernel, rfl⟩
theorem D_X3_tryYear_61 : qd cX3_tryYear 61 (.aload_n 0) 1 62 := ⟨by decide +kernel, rfl⟩
theorem D_X3_tryYear_62 : qd cX3_tryYear 62 (.getfield 15) 3 65 := ⟨by decide +kernel, rfl⟩
theorem D_X3_tryYear_65 : qd cX3_tryYear 65 (.iconst 0) 1 66 := ⟨by decide +kernel, rfl⟩
theorem D_X3_tryYear_66 : qd cX3_tryYear 66 (.aload_n 0) 1 67 := ⟨by decide +kernel, rfl⟩
theorem D_X3_tryYear_67 : qd cX3_tryYear 67 (.getfield 9) 3 70 := ⟨by decide +kernel, rfl⟩
theorem D_X3_tryYear_70 : qd cX3_tryYear 70 (.iconst 0) 1 71 := ⟨by decide +kernel, rfl⟩
theorem D_X3_tryYear_71 : qd cX3_tryYear 71 (.iconst 3) 1 72 := ⟨by decide +kernel, rfl⟩
theorem D_X3_tryYear_72 : qd cX3_tryYear 72 (.invokestatic 68) 3 75 := ⟨by decide +kernel, rfl⟩
theorem D_X3_tryYear_75 : qd cX3_tryYear 75 (.return_) 1 76 := ⟨by decide +kernel, rfl⟩
theorem D_X3_tryYear_76 : qd cX3_tryYear 76 (.iconst 0) 1 77 := ⟨by decide +kernel, rfl⟩
theorem D_X3_tryYear_77 : qd cX3_tryYear 77 (.istore 6) 2 79 := ⟨by decide +kernel, rfl⟩
theorem D_X3_tryYear_79 : qd cX3_tryYear 79 (.iload 6) 2 81 := ⟨by decide +kernel, rfl⟩
theorem D_X3_tryYear_81 : qd cX3_tryYear 81 (.aload 5) 2 83 := ⟨by decide +kernel, rfl⟩
theorem D_X3_tryYear_83 : qd cX3_tryYear 83 (.getfield 44) 3 86 := ⟨by decide +kernel, rfl⟩
theorem D_X3_tryYear_86 : qd cX3_tryYear 86 (.invokestatic 47) 3 89 := ⟨by decide +kernel, rfl⟩
theorem D_X3_tryYear_89 : qj cX3_tryYear 89 (.if_icmp .ge 100) (100) 92 189 := ⟨by decide +kernel, rfl, by decide⟩
theorem D_X3_tryYear_92 : qd cX3_tryYear 92 (.iload 4) 2 94 := ⟨by decide +kernel, rfl⟩
theorem D_X3_tryYear_94 : qd cX3_tryYear 94 (.iload 6) 2 96 := ⟨by decide +kernel, rfl⟩
theorem D_X3_tryYear_96 : qd cX3_tryYear 96 (.invokestatic 74) 3 99 := ⟨by decide +kernel, rfl⟩
theorem D_X3_tryYear_99 : qd cX3_tryYear 99 (.iadd) 1 100 := ⟨by decide +kernel, rfl⟩
theorem D_X3_tryYear_100 : qd cX3_tryYear 100 (.istore 7) 2 102 := ⟨by decide +kernel, rfl⟩
theorem D_X3_tryYear_102 : qd cX3_tryYear 102 (.iload 7) 2 104 := ⟨by decide +kernel, rfl⟩
theorem D_X3_tryYear_104 : qd cX3_tryYear 104 (.aload_n 0) 1 105 := ⟨by decide +kernel, rfl⟩
theorem D_X3_tryYear_105 : qd cX3_tryYear 105 (.getfield 58) 3 108 := ⟨by decide +kernel, rfl⟩
theorem D_X3_tryYear_108 : qj cX3_tryYear 108 (.if_icmp .ge 75) (75) 111 183 := ⟨by decide +kernel, rfl, by decide⟩
theorem D_X3_tryYear_111 : qd cX3_tryYear 111 (.iload 6) 2 113 := ⟨by decide +kernel, rfl⟩
theorem D_X3_tryYear_113 : qd cX3_tryYear 113 (.aload 5) 2 115 := ⟨by decide +kernel, rfl⟩
theorem D_X3_tryYear_115 : qd cX3_tryYear 115 (.getfield 51) 3 118 := ⟨by decide +kernel, rfl⟩
theorem D_X3_tryYear_118 : qd cX3_tryYear 118 (.iand) 1 119 := ⟨by decide +kernel, rfl⟩
theorem D_X3_tryYear_119 : qj cX3_tryYear 119 (.ifCond .ne 64) (64) 122 183 := ⟨by decide +kernel, rfl, by decide⟩
theorem D_X3_tryYear_122 : qd cX3_tryYear 122 (.aload_n 0) 1 123 := ⟨by decide +kernel, rfl⟩
theorem D_X3_tryYear_123 : qd cX3_tryYear 123 (.getfield 15) 3 126 := ⟨by decide +kernel, rfl⟩
theorem D_X3_tryYear_126 : qd cX3_tryYear 126 (.iload_n 1) 1 127 := ⟨by decide +kernel, rfl⟩
theorem D_X3_tryYear_127 : qd cX3_tryYear 127 (.iload 6) 2 129 := ⟨by decide +kernel, rfl⟩
theorem D_X3_tryYear_129 : qd cX3_tryYear 129 (.iastore) 1 130 := ⟨by decide +kernel, rfl⟩
theorem D_X3_tryYear_130 : qd cX3_tryYear 130 (.aload_n 0) 1 131 := ⟨by decide +kernel, rfl⟩
theorem D_X3_tryYear_131 : qd cX3_tryYear 131 (.getfield 20) 3 134 := ⟨by decide +kernel, rfl⟩
theorem D_X3_tryYear_134 : qd cX3_tryYear 134 (.iload_n 1) 1 135 := ⟨by decide +kernel, rfl⟩
theorem D_X3_tryYear_135 : qd cX3_tryYear 135 (.iconst 1) 1 136 := ⟨by decide +kernel, rfl⟩
theorem D_X3_tryYear_136 : qd cX3_tryYear 136 (.iadd) 1 137 := ⟨by decide +kernel, rfl⟩
theorem D_X3_tryYear_137 : qd cX3_tryYear 137 (.aaload) 1 138 := ⟨by decide +kernel, rfl⟩
theorem D_X3_tryYear_138 : qd cX3_tryYear 138 (.aload 5) 2 140 := ⟨by decide +kernel, rfl⟩
theorem D_X3_tryYear_140 : qd cX3_tryYear 140 (.invokevirtual 25) 3 143 := ⟨by decide +kernel, rfl⟩
theorem D_X3_tryYear_143 : qd cX3_tryYear 143 (.aload_n 0) 1 144 := ⟨by decide +kernel, rfl⟩
theorem D_X3_tryYear_144 : qd cX3_tryYear 144 (.getfield 20) 3 147 := ⟨by decide +kernel, rfl⟩
theorem D_X3_tryYear_147 : qd cX3_tryYear 147 (.iload_n 1) 1 148 := ⟨by decide +kernel, rfl⟩
theorem D_X3_tryYear_148 : qd cX3_tryYear 148 (.iconst 1) 1 149 := ⟨by decide +kernel, rfl⟩
theorem D_X3_tryYear_149 : qd cX3_tryYear 149 (.iadd) 1 150 := ⟨by decide +kernel, rfl⟩
theorem D_X3_tryYear_150 : qd cX3_tryYear 150 (.aaload) 1 151 := ⟨by decide +kernel, rfl⟩
theorem D_X3_tryYear_151 : qd cX3_tryYear 151 (.dup) 1 152 := ⟨by decide +kernel, rfl⟩
theorem D_X3_tryYear_152 : qd cX3_tryYear 152 (.getfield 51) 3 155 := ⟨by decide +kernel, rfl⟩
theorem D_X3_tryYear_155 : qd cX3_tryYear 155 (.iload 6) 2 157 := ⟨by decide +kernel, rfl⟩
theorem D_X3_tryYear_157 : qd cX3_tryYear 157 (.ior) 1 158 := ⟨by decide +kernel, rfl⟩
theorem D_X3_tryYear_158 : qd cX3_tryYear 158 (.putfield 51) 3 161 := ⟨by decide +kernel, rfl⟩
theorem D_X3_tryYear_161 : qd cX3_tryYear 161 (.aload_n 0) 1 162 := ⟨by decide +kernel, rfl⟩
theorem D_X3_tryYear_162 : qd cX3_tryYear 162 (.getfield 20) 3 165 := ⟨by decide +kernel, rfl⟩
theorem D_X3_tryYear_165 : qd cX3_tryYear 165 (.iload_n 1) 1 166 := ⟨by decide +kernel, rfl⟩
theorem D_X3_tryYear_166 : qd cX3_tryYear 166 (.iconst 1) 1 167 := ⟨by decide +kernel, rfl⟩
theorem D_X3_tryYear_167 : qd cX3_tryYear 167 (.iadd) 1 168 := ⟨by decide +kernel, rfl⟩
theorem D_X3_tryYear_168 : qd cX3_tryYear 168 (.aaload) 1 169 := ⟨by decide +kernel, rfl⟩
theorem D_X3_tryYear_169 : qd cX3_tryYear 169 (.invokevirtual 79) 3 172 := ⟨by decide +kernel, rfl⟩
theorem D_X3_tryYear_172 : qd cX3_tryYear 172 (.aload_n 0) 1 173 := ⟨by decide +kernel, rfl⟩
theorem D_X3_tryYear_173 : qd cX3_tryYear 173 (.iload_n 1) 1 174 := ⟨by decide +kernel, rfl⟩
theorem D_X3_tryYear_174 : qd cX3_tryYear 174 (.iconst 1) 1 175 := ⟨by decide +kernel, rfl⟩
theorem D_X3_tryYear_175 : qd cX3_tryYear 175 (.iadd) 1 176 := ⟨by decide +kernel, rfl⟩
theorem D_X3_tryYear_176 : qd cX3_tryYear 176 (.iload_n 2) 1 177 := ⟨by decide +kernel, rfl⟩
theorem D_X3_tryYear_177 : qd cX3_tryYear 177 (.iload_n 3) 1 178 := ⟨by decide +kernel, rfl⟩
theorem D_X3_tryYear_178 : qd cX3_tryYear 178 (.iload 7) 2 180 := ⟨by decide +kernel, rfl⟩
theorem D_X3_tryYear_180 : qd cX3_tryYear 180 (.invokevirtual 61) 3 183 := ⟨by decide +kernel, rfl⟩
theorem D_X3_tryYear_183 : qd cX3_tryYear 183 (.iinc 6 1) 3 186 := ⟨by decide +kernel, rfl⟩
theorem D_X3_tryYear_186 : qj cX3_tryYear 186 (.goto (-107)) (-107) 189 79 := ⟨by decide +kernel, rfl, by decide⟩
theorem D_X3_tryYear_189 : qd cX3_tryYear 189 (.return_) 1 190 := ⟨by decide +kernel, rfl⟩
theorem D_X3_whisperersBy_0 : qd cX3_whisperersBy 0 (.iconst 0) 1 1 := ⟨by decide +kernel, rfl⟩
theorem D_X3_whisperersBy_1 : qd cX3_whisperersBy 1 (.istore 6) 2 3 := ⟨by decide +kernel, rfl⟩
theorem D_X3_whisperersBy_3 : qd cX3_whisperersBy 3 (.iconst 0) 1 4 := ⟨by decide +kernel, rfl⟩
theorem D_X3_whisperersBy_4 : qd cX3_whisperersBy 4 (.istore 7) 2 6 := ⟨by decide +kernel, rfl⟩
theorem D_X3_whisperersBy_6 : qd cX3_whisperersBy 6 (.iload 7) 2 8 := ⟨by decide +kernel, rfl⟩
theorem D_X3_whisperersBy_8 : qd cX3_whisperersBy 8 (.aload_n 1) 1 9 := ⟨by decide +kernel, rfl⟩
theorem D_X3_whisperersBy_9 : qd cX3_whisperersBy 9 (.getfield 44) 3 12 := ⟨by decide +kernel, rfl⟩
theorem D_X3_whisperersBy_12 : qj cX3_whisperersBy 12 (.if_icmp .ge 49) (49) 15 61 := ⟨by decide +kernel, rfl, by decide⟩
theorem D_X3_whisperersBy_15 : qd cX3_whisperersBy 15 (.aload_n 0) 1 16 := ⟨by decide +kernel, rfl⟩
theorem D_X3_whisperersBy_16 : qd cX3_whisperersBy 16 (.aload_n 1) 1 17 := ⟨by decide +kernel, rfl⟩
theorem D_X3_whisperersBy_17 : qd cX3_whisperersBy 17 (.invokevirtual 29) 3 20 := ⟨by decide +kernel, rfl⟩
theorem D_X3_whisperersBy_20 : qd cX3_whisperersBy 20 (.astore 8) 2 22 := ⟨by decide +kernel, rfl⟩
theorem D_X3_whisperersBy_22 : qd cX3_whisperersBy 22 (.aload 8) 2 24 := ⟨by decide +kernel, rfl⟩
theorem D_X3_whisperersBy_24 : qd cX3_whisperersBy 24 (.iload 7) 2 26 := ⟨by decide +kernel, rfl⟩
theorem D_X3_whisperersBy_26 : qd cX3_whisperersBy 26 (.iload_n 2) 1 27 := ⟨by decide +kernel, rfl⟩
theorem D_X3_whisperersBy_27 : qd cX3_whisperersBy 27 (.bipush 27) 2 29 := ⟨by decide +kernel, rfl⟩
theorem D_X3_whisperersBy_29 : qd cX3_whisperersBy 29 (.invokevirtual 99) 3 32 := ⟨by decide +kernel, rfl⟩
theorem D_X3_whisperersBy_32 : qd cX3_whisperersBy 32 (.aload 8) 2 34 := ⟨by decide +kernel, rfl⟩
theorem D_X3_whisperersBy_34 : qd cX3_whisperersBy 34 (.aload_n 3) 1 35 := ⟨by decide +kernel, rfl⟩
theorem D_X3_whisperersBy_35 : qd cX3_whisperersBy 35 (.iload 4) 2 37 := ⟨by decide +kernel, rfl⟩
theorem D_X3_whisperersBy_37 : qd cX3_whisperersBy 37 (.iload 5) 2 39 := ⟨by decide +kernel, rfl⟩
theorem D_X3_whisperersBy_39 : qd cX3_whisperersBy 39 (.invokestatic 95) 3 42 := ⟨by decide +kernel, rfl⟩
theorem D_X3_whisperersBy_42 : qj cX3_whisperersBy 42 (.ifCond .eq 13) (13) 45 55 := ⟨by decide +kernel, rfl, by decide⟩
theorem D_X3_whisperersBy_45 : qd cX3_whisperersBy 45 (.iload 6) 2 47 := ⟨by decide +kernel, rfl⟩
theorem D_X3_whisperersBy_47 : qd cX3_whisperersBy 47 (.iload 7) 2 49 := ⟨by decide +kernel, rfl⟩
theorem D_X3_whisperersBy_49 : qd cX3_whisperersBy 49 (.invokestatic 47) 3 52 := ⟨by decide +kernel, rfl⟩
theorem D_X3_whisperersBy_52 : qd cX3_whisperersBy 52 (.ior) 1 53 := ⟨by decide +kernel, rfl⟩
theorem D_X3_whisperersBy_53 : qd cX3_whisperersBy 53 (.istore 6) 2 55 := ⟨by decide +kernel, rfl⟩
theorem D_X3_whisperersBy_55 : qd cX3_whisperersBy 55 (.iinc 7 1) 3 58 := ⟨by decide +kernel, rfl⟩
theorem D_X3_whisperersBy_58 : qj cX3_whisperersBy 58 (.goto (-52)) (-52) 61 6 := ⟨by decide +kernel, rfl, by decide⟩
theorem D_X3_whisperersBy_61 : qd cX3_whisperersBy 61 (.iload 6) 2 63 := ⟨by decide +kernel, rfl⟩
theorem D_X3_whisperersBy_63 : qd cX3_whisperersBy 63 (.ireturn) 1 64 := ⟨by decide +kernel, rfl⟩
theorem D_X3_yearsByDraws_0 : qd cX3_yearsByDraws 0 (.aload_n 0) 1 1 := ⟨by decide +kernel, rfl⟩
theorem D_X3_yearsByDraws_1 : qd cX3_yearsByDraws 1 (.aload_n 1) 1 2 := ⟨by decide +kernel, rfl⟩
theorem D_X3_yearsByDraws_2 : qd cX3_yearsByDraws 2 (.invokevirtual 29) 3 5 := ⟨by decide +kernel, rfl⟩
theorem D_X3_yearsByDraws_5 : qd cX3_yearsByDraws 5 (.astore 4) 2 7 := ⟨by decide +kernel, rfl⟩
theorem D_X3_yearsByDraws_7 : qd cX3_yearsByDraws 7 (.iload_n 3) 1 8 := ⟨by decide +kernel, rfl⟩
theorem D_X3_yearsByDraws_8 : qd cX3_yearsByDraws 8 (.i2l) 1 9 := ⟨by decide +kernel, rfl⟩
theorem D_X3_yearsByDraws_9 : qd cX3_yearsByDraws 9 (.lstore 5) 2 11 := ⟨by decide +kernel, rfl⟩
theorem D_X3_yearsByDraws_11 : qd cX3_yearsByDraws 11 (.iconst 0) 1 12 := ⟨by decide +kernel, rfl⟩
theorem D_X3_yearsByDraws_12 : qd cX3_yearsByDraws 12 (.istore 7) 2 14 := ⟨by decide +kernel, rfl⟩
theorem D_X3_yearsByDraws_14 : qd cX3_yearsByDraws 14 (.iload 7) 2 16 := ⟨by decide +kernel, rfl⟩
theorem D_X3_yearsByDraws_16 : qd cX3_yearsByDraws 16 (.iload_n 2) 1 17 := ⟨by decide +kernel, rfl⟩
theorem D_X3_yearsByDraws_17 : qj cX3_yearsByDraws 17 (.if_icmp .ge 102) (102) 20 119 := ⟨by decide +kernel, rfl, by decide⟩
theorem D_X3_yearsByDraws_20 : qd cX3_yearsByDraws 20 (.aload 4) 2 22 := ⟨by decide +kernel, rfl⟩
theorem D_X3_yearsByDraws_22 : qd cX3_yearsByDraws 22 (.getfield 44) 3 25 := ⟨by decide +kernel, rfl⟩
theorem D_X3_yearsByDraws_25 : qj cX3_yearsByDraws 25 (.ifCond .le 94) (94) 28 119 := ⟨by decide +kernel, rfl, by decide⟩
theorem D_X3_yearsByDraws_28 : qd cX3_yearsByDraws 28 (.lload 5) 2 30 := ⟨by decide +kernel, rfl⟩
theorem D_X3_yearsByDraws_30 : qd cX3_yearsByDraws 30 (.ldc2_w 124) 3 33 := ⟨by decide +kernel, rfl⟩
theorem D_X3_yearsByDraws_33 : qd cX3_yearsByDraws 33 (.lmul) 1 34 := ⟨by decide +kernel, rfl⟩
theorem D_X3_yearsByDraws_34 : qd cX3_yearsByDraws 34 (.ldc2_w 126) 3 37 := ⟨by decide +kernel, rfl⟩
theorem D_X3_yearsByDraws_37 : qd cX3_yearsByDraws 37 (.lrem) 1 38 := ⟨by decide +kernel, rfl⟩
theorem D_X3_yearsByDraws_38 : qd cX3_yearsByDraws 38 (.lstore 5) 2 40 := ⟨by decide +kernel, rfl⟩
theorem D_X3_yearsByDraws_40 : qd cX3_yearsByDraws 40 (.aload 4) 2 42 := ⟨by decide +kernel, rfl⟩
theorem D_X3_yearsByDraws_42 : qd cX3_yearsByDraws 42 (.dup) 1 43 := ⟨by decide +kernel, rfl⟩
theorem D_X3_yearsByDraws_43 : qd cX3_yearsByDraws 43 (.getfield 51) 3 46 := ⟨by decide +kernel, rfl⟩
theorem D_X3_yearsByDraws_46 : qd cX3_yearsByDraws 46 (.lload 5) 2 48 := ⟨by decide +kernel, rfl⟩
theorem D_X3_yearsByDraws_48 : qd cX3_yearsByDraws 48 (.aload 4) 2 50 := ⟨by decide +kernel, rfl⟩
theorem D_X3_yearsByDraws_50 : qd cX3_yearsByDraws 50 (.getfield 44) 3 53 := ⟨by decide +kernel, rfl⟩
theorem D_X3_yearsByDraws_53 : qd cX3_yearsByDraws 53 (.i2l) 1 54 := ⟨by decide +kernel, rfl⟩
theorem D_X3_yearsByDraws_54 : qd cX3_yearsByDraws 54 (.lrem) 1 55 := ⟨by decide +kernel, rfl⟩
theorem D_X3_yearsByDraws_55 : qd cX3_yearsByDraws 55 (.l2i) 1 56 := ⟨by decide +kernel, rfl⟩
theorem D_X3_yearsByDraws_56 : qd cX3_yearsByDraws 56 (.invokestatic 47) 3 59 := ⟨by decide +kernel, rfl⟩
theorem D_X3_yearsByDraws_59 : qd cX3_yearsByDraws 59 (.ior) 1 60 := ⟨by decide +kernel, rfl⟩
theorem D_X3_yearsByDraws_60 : qd cX3_yearsByDraws 60 (.putfield 51) 3 63 := ⟨by decide +kernel, rfl⟩
theorem D_X3_yearsByDraws_63 : qd cX3_yearsByDraws 63 (.lload 5) 2 65 := ⟨by decide +kernel, rfl⟩
theorem D_X3_yearsByDraws_65 : qd cX3_yearsByDraws 65 (.ldc2_w 128) 3 68 := ⟨by decide +kernel, rfl⟩
theorem D_X3_yearsByDraws_68 : qd cX3_yearsByDraws 68 (.lrem) 1 69 := ⟨by decide +kernel, rfl⟩
theorem D_X3_yearsByDraws_69 : qd cX3_yearsByDraws 69 (.l2i) 1 70 := ⟨by decide +kernel, rfl⟩
theorem D_X3_yearsByDraws_70 : qd cX3_yearsByDraws 70 (.istore 8) 2 72 := ⟨by decide +kernel, rfl⟩
theorem D_X3_yearsByDraws_72 : qd cX3_yearsByDraws 72 (.lload 5) 2 74 := ⟨by decide +kernel, rfl⟩
theorem D_X3_yearsByDraws_74 : qd cX3_yearsByDraws 74 (.ldc2_w 130) 3 77 := ⟨by decide +kernel, rfl⟩
theorem D_X3_yearsByDraws_77 : qd cX3_yearsByDraws 77 (.lrem) 1 78 := ⟨by decide +kernel, rfl⟩
theorem D_X3_yearsByDraws_78 : qd cX3_yearsByDraws 78 (.lconst 0) 1 79 := ⟨by decide +kernel, rfl⟩
theorem D_X3_yearsByDraws_79 : qd cX3_yearsByDraws 79 (.lcmp) 1 80 := ⟨by decide +kernel, rfl⟩
theorem D_X3_yearsByDraws_80 : qj cX3_yearsByDraws 80 (.ifCond .ne 28) (28) 83 108 := ⟨by decide +kernel, rfl, by decide⟩
theorem D_X3_yearsByDraws_83 : qd cX3_yearsByDraws 83 (.iload 8) 2 85 := ⟨by decide +kernel, rfl⟩
theorem D_X3_yearsByDraws_85 : qd cX3_yearsByDraws 85 (.aload 4) 2 87 := ⟨by decide +kernel, rfl⟩
theorem D_X3_yearsByDraws_87 : qd cX3_yearsByDraws 87 (.getfield 44) 3 90 := ⟨by decide +kernel, rfl⟩
theorem D_X3_yearsByDraws_90 : qj cX3_yearsByDraws 90 (.if_icmp .ge 18) (18) 93 108 := ⟨by decide +kernel, rfl, by decide⟩
theorem D_X3_yearsByDraws_93 : qd cX3_yearsByDraws 93 (.aload 4) 2 95 := ⟨by decide +kernel, rfl⟩
theorem D_X3_yearsByDraws_95 : qd cX3_yearsByDraws 95 (.dup) 1 96 := ⟨by decide +kernel, rfl⟩
theorem D_X3_yearsByDraws_96 : qd cX3_yearsByDraws 96 (.getfield 132) 3 99 := ⟨by decide +kernel, rfl⟩
theorem D_X3_yearsByDraws_99 : qd cX3_yearsByDraws 99 (.iload 8) 2 101 := ⟨by decide +kernel, rfl⟩
theorem D_X3_yearsByDraws_101 : qd cX3_yearsByDraws 101 (.invokestatic 47) 3 104 := ⟨by decide +kernel, rfl⟩
theorem D_X3_yearsByDraws_104 : qd cX3_yearsByDraws 104 (.ior) 1 105 := ⟨by decide +kernel, rfl⟩
theorem D_X3_yearsByDraws_105 : qd cX3_yearsByDraws 105 (.putfield 132) 3 108 := ⟨by decide +kernel, rfl⟩
theorem D_X3_yearsByDraws_108 : qd cX3_yearsByDraws 108 (.aload 4) 2 110 := ⟨by decide +kernel, rfl⟩
theorem D_X3_yearsByDraws_110 : qd cX3_yearsByDraws 110 (.invokevirtual 33) 3 113 := ⟨by decide +kernel, rfl⟩
theorem D_X3_yearsByDraws_113 : qd cX3_yearsByDraws 113 (.iinc 7 1) 3 116 := ⟨by decide +kernel, rfl⟩
theorem D_X3_yearsByDraws_116 : qj cX3_yearsByDraws 116 (.goto (-102)) (-102) 119 14 := ⟨by decide +kernel, rfl, by decide⟩
theorem D_X3_yearsByDraws_119 : qd cX3_yearsByDraws 119 (.aload 4) 2 121 := ⟨by decide +kernel, rfl⟩
theorem D_X3_yearsByDraws_121 : qd cX3_yearsByDraws 121 (.areturn) 1 122 := ⟨by decide +kernel, rfl⟩
theorem D_X3_yearsTillDug_0 : qd cX3_yearsTillDug 0 (.aload_n 0) 1 1 := ⟨by decide +kernel, rfl⟩
theorem D_X3_yearsTillDug_1 : qd cX3_yearsTillDug 1 (.aload_n 1) 1 2 := ⟨by decide +kernel, rfl⟩
theorem D_X3_yearsTillDug_2 : qd cX3_yearsTillDug 2 (.invokevirtual 29) 3 5 := ⟨by decide +kernel, rfl⟩
theorem D_X3_yearsTillDug_5 : qd cX3_yearsTillDug 5 (.astore 4) 2 7 := ⟨by decide +kernel, rfl⟩
theorem D_X3_yearsTillDug_7 : qd cX3_yearsTillDug 7 (.iconst 0) 1 8 := ⟨by decide +kernel, rfl⟩
theorem D_X3_yearsTillDug_8 : qd cX3_yearsTillDug 8 (.istore 5) 2 10 := ⟨by decide +kernel, rfl⟩
theorem D_X3_yearsTillDug_10 : qd cX3_yearsTillDug 10 (.iload 5) 2 12 := ⟨by decide +kernel, rfl⟩
theorem D_X3_yearsTillDug_12 : qd cX3_yearsTillDug 12 (.bipush 40) 2 14 := ⟨by decide +kernel, rfl⟩
theorem D_X3_yearsTillDug_14 : qj cX3_yearsTillDug 14 (.if_icmp .gt 48) (48) 17 62 := ⟨by decide +kernel, rfl, by decide⟩
theorem D_X3_yearsTillDug_17 : qd cX3_yearsTillDug 17 (.aload 4) 2 19 := ⟨by decide +kernel, rfl⟩
theorem D_X3_yearsTillDug_19 : qd cX3_yearsTillDug 19 (.getfield 36) 3 22 := ⟨by decide +kernel, rfl⟩
theorem D_X3_yearsTillDug_22 : qd cX3_yearsTillDug 22 (.iload_n 2) 1 23 := ⟨by decide +kernel, rfl⟩
theorem D_X3_yearsTillDug_23 : qd cX3_yearsTillDug 23 (.invokestatic 40) 3 26 := ⟨by decide +kernel, rfl⟩
theorem D_X3_yearsTillDug_26 : qj cX3_yearsTillDug 26 (.ifCond .ne 6) (6) 29 32 := ⟨by decide +kernel, rfl, by decide⟩
theorem D_X3_yearsTillDug_29 : qd cX3_yearsTillDug 29 (.iload 5) 2 31 := ⟨by decide +kernel, rfl⟩
theorem D_X3_yearsTillDug_31 : qd cX3_yearsTillDug 31 (.ireturn) 1 32 := ⟨by decide +kernel, rfl⟩
theorem D_X3_yearsTillDug_32 : qd cX3_yearsTillDug 32 (.iload_n 3) 1 33 := ⟨by decide +kernel, rfl⟩
theorem D_X3_yearsTillDug_33 : qj cX3_yearsTillDug 33 (.ifCond .eq 18) (18) 36 51 := ⟨by decide +kernel, rfl, by decide⟩
theorem D_X3_yearsTillDug_36 : qd cX3_yearsTillDug 36 (.aload 4) 2 38 := ⟨by decide +kernel, rfl⟩
theorem D_X3_yearsTillDug_38 : qd cX3_yearsTillDug 38 (.aload 4) 2 40 := ⟨by decide +kernel, rfl⟩
theorem D_X3_yearsTillDug_40 : qd cX3_yearsTillDug 40 (.getfield 44) 3 43 := ⟨by decide +kernel, rfl⟩
theorem D_X3_yearsTillDug_43 : qd cX3_yearsTillDug 43 (.invokestatic 47) 3 46 := ⟨by decide +kernel, rfl⟩
theorem D_X3_yearsTillDug_46 : qd cX3_yearsTillDug 46 (.iconst 1) 1 47 := ⟨by decide +kernel, rfl⟩
theorem D_X3_yearsTillDug_47 : qd cX3_yearsTillDug 47 (.isub) 1 48 := ⟨by decide +kernel, rfl⟩
theorem D_X3_yearsTillDug_48 : qd cX3_yearsTillDug 48 (.putfield 51) 3 51 := ⟨by decide +kernel, rfl⟩
theorem D_X3_yearsTillDug_51 : qd cX3_yearsTillDug 51 (.aload 4) 2 53 := ⟨by decide +kernel, rfl⟩
theorem D_X3_yearsTillDug_53 : qd cX3_yearsTillDug 53 (.invokevirtual 33) 3 56 := ⟨by decide +kernel, rfl⟩
theorem D_X3_yearsTillDug_56 : qd cX3_yearsTillDug 56 (.iinc 5 1) 3 59 := ⟨by decide +kernel, rfl⟩
theorem D_X3_yearsTillDug_59 : qj cX3_yearsTillDug 59 (.goto (-49)) (-49) 62 10 := ⟨by decide +kernel, rfl, by decide⟩
theorem D_X3_yearsTillDug_62 : qd cX3_yearsTillDug 62 (.ldc 54) 2 64 := ⟨by decide +kernel, rfl⟩
theorem D_X3_yearsTillDug_64 : qd cX3_yearsTillDug 64 (.ireturn) 1 65 := ⟨by decide +kernel, rfl⟩
theorem D_X3_yearsTillForgotten_0 : qd cX3_yearsTillForgotten 0 (.aload_n 1) 1 1 := ⟨by decide +kernel, rfl⟩
theorem D_X3_yearsTillForgotten_1 : qd cX3_yearsTillForgotten 1 (.iload_n 2) 1 2 := ⟨by decide +kernel, rfl⟩
theorem D_X3_yearsTillForgotten_2 : qd cX3_yearsTillForgotten 2 (.iload_n 3) 1 3 := ⟨by decide +kernel, rfl⟩
theorem D_X3_yearsTillForgotten_3 : qd cX3_yearsTillForgotten 3 (.invokevirtual 82) 3 6 := ⟨by decide +kernel, rfl⟩
theorem D_X3_yearsTillForgotten_6 : qd cX3_yearsTillForgotten 6 (.istore 4) 2 8 := ⟨by decide +kernel, rfl⟩
theorem D_X3_yearsTillForgotten_8 : qd cX3_yearsTillForgotten 8 (.iconst 0) 1 9 := ⟨by decide +kernel, rfl⟩
theorem D_X3_yearsTillForgotten_9 : qd cX3_yearsTillForgotten 9 (.istore 5) 2 11 := ⟨by decide +kernel, rfl⟩
theorem D_X3_yearsTillForgotten_11 : qd cX3_yearsTillForgotten 11 (.iload 5) 2 13 := ⟨by decide +kernel, rfl⟩
theorem D_X3_yearsTillForgotten_13 : qd cX3_yearsTillForgotten 13 (.bipush 40) 2 15 := ⟨by decide +kernel, rfl⟩
theorem D_X3_yearsTillForgotten_15 : qj cX3_yearsTillForgotten 15 (.if_icmp .gt 29) (29) 18 44 := ⟨by decide +kernel, rfl, by decide⟩
theorem D_X3_yearsTillForgotten_18 : qd cX3_yearsTillForgotten 18 (.iload 4) 2 20 := ⟨by decide +kernel, rfl⟩
theorem D_X3_yearsTillForgotten_20 : qd cX3_yearsTillForgotten 20 (.aload_n 1) 1 21 := ⟨by decide +kernel, rfl⟩
theorem D_X3_yearsTillForgotten_21 : qd cX3_yearsTillForgotten 21 (.getfield 86) 3 24 := ⟨by decide +kernel, rfl⟩
theorem D_X3_yearsTillForgotten_24 : qj cX3_yearsTillForgotten 24 (.if_icmp .ge 6) (6) 27 30 := ⟨by decide +kernel, rfl, by decide⟩
theorem D_X3_yearsTillForgotten_27 : qd cX3_yearsTillForgotten 27 (.iload 5) 2 29 := ⟨by decide +kernel, rfl⟩
theorem D_X3_yearsTillForgotten_29 : qd cX3_yearsTillForgotten 29 (.ireturn) 1 30 := ⟨by decide +kernel, rfl⟩
theorem D_X3_yearsTillForgotten_30 : qd cX3_yearsTillForgotten 30 (.aload_n 1) 1 31 := ⟨by decide +kernel, rfl⟩
theorem D_X3_yearsTillForgotten_31 : qd cX3_yearsTillForgotten 31 (.iload 4) 2 33 := ⟨by decide +kernel, rfl⟩
theorem D_X3_yearsTillForgotten_33 : qd cX3_yearsTillForgotten 33 (.invokevirtual 89) 3 36 := ⟨by decide +kernel, rfl⟩
theorem D_X3_yearsTillForgotten_36 : qd cX3_yearsTillForgotten 36 (.istore 4) 2 38 := ⟨by decide +kernel, rfl⟩
theorem D_X3_yearsTillForgotten_38 : qd cX3_yearsTillForgotten 38 (.iinc 5 1) 3 41 := ⟨by decide +kernel, rfl⟩
theorem D_X3_yearsTillForgotten_41 : qj cX3_yearsTillForgotten 41 (.goto (-30)) (-30) 44 11 := ⟨by decide +kernel, rfl, by decide⟩
theorem D_X3_yearsTillForgotten_44 : qd cX3_yearsTillForgotten 44 (.ldc 54) 2 46 := ⟨by decide +kernel, rfl⟩
theorem D_X3_yearsTillForgotten_46 : qd cX3_yearsTillForgotten 46 (.ireturn) 1 47 := ⟨by decide +kernel, rfl⟩
end
section
theorem D_X4_add_0 : qd cX4_add 0 (.aload_n 0) 1 1 := ⟨by decide +kernel, rfl⟩
theorem D_X4_add_1 : qd cX4_add 1 (.getfield 22) 3 4 := ⟨by decide +kernel, rfl⟩
theorem D_X4_add_4 : qd cX4_add 4 (.bipush 120) 2 6 := ⟨by decide +kernel, rfl⟩
theorem D_X4_add_6 : qj cX4_add 6 (.if_icmp .lt 5) (5) 9 11 := ⟨by decide +kernel, rfl, by decide⟩
theorem D_X4_add_9 : qd cX4_add 9 (.iconst 0) 1 10 := ⟨by decide +kernel, rfl⟩
theorem D_X4_add_10 : qd cX4_add 10 (.ireturn) 1 11 := ⟨by decide +kernel, rfl⟩
theorem D_X4_add_11 : qd cX4_add 11 (.aload_n 0) 1 12 := ⟨by decide +kernel, rfl⟩
theorem D_X4_add_12 : qd cX4_add 12 (.getfield 18) 3 15 := ⟨by decide +kernel, rfl⟩
theorem D_X4_add_15 : qd cX4_add 15 (.aload_n 0) 1 16 := ⟨by decide +kernel, rfl⟩
theorem D_X4_add_16 : qd cX4_add 16 (.getfield 22) 3 19 := ⟨by decide +kernel, rfl⟩
theorem D_X4_add_19 : qd cX4_add 19 (.iload_n 1) 1 20 := ⟨by decide +kernel, rfl⟩
theorem D_X4_add_20 : qd cX4_add 20 (.iastore) 1 21 := ⟨by decide +kernel, rfl⟩
theorem D_X4_add_21 : qd cX4_add 21 (.aload_n 0) 1 22 := ⟨by decide +kernel, rfl⟩
theorem D_X4_add_22 : qd cX4_add 22 (.dup) 1 23 := ⟨by decide +kernel, rfl⟩
theorem D_X4_add_23 : qd cX4_add 23 (.getfield 22) 3 26 := ⟨by decide +kernel, rfl⟩
theorem D_X4_add_26 : qd cX4_add 26 (.iconst 1) 1 27 := ⟨by decide +kernel, rfl⟩
theorem D_X4_add_27 : qd cX4_add 27 (.iadd) 1 28 := ⟨by decide +kernel, rfl⟩
theorem D_X4_add_28 : qd cX4_add 28 (.putfield 22) 3 31 := ⟨by decide +kernel, rfl⟩
theorem D_X4_add_31 : qd cX4_add 31 (.iconst 1) 1 32 := ⟨by decide +kernel, rfl⟩
theorem D_X4_add_32 : qd cX4_add 32 (.ireturn) 1 33 := ⟨by decide +kernel, rfl⟩
theorem D_X4_fail_0 : qd cX4_fail 0 (.aload_n 0) 1 1 := ⟨by decide +kernel, rfl⟩
theorem D_X4_fail_1 : qd cX4_fail 1 (.iload_n 1) 1 2 := ⟨by decide +kernel, rfl⟩
theorem D_X4_fail_2 : qd cX4_fail 2 (.putfield 94) 3 5 := ⟨by decide +kernel, rfl⟩
theorem D_X4_fail_5 : qd cX4_fail 5 (.iconst 0) 1 6 := ⟨by decide +kernel, rfl⟩
theorem D_X4_fail_6 : qd cX4_fail 6 (.ireturn) 1 7 := ⟨by decide +kernel, rfl⟩
theorem D_X4_init_0 : qd cX4_init 0 (.aload_n 0) 1 1 := ⟨by decide +kernel, rfl⟩
theorem D_X4_init_1 : qd cX4_init 1 (.invokespecial 3) 3 4 := ⟨by decide +kernel, rfl⟩
theorem D_X4_init_4 : qd cX4_init 4 (.aload_n 0) 1 5 := ⟨by decide +kernel, rfl⟩
theorem D_X4_init_5 : qd cX4_init 5 (.new 9) 3 8 := ⟨by decide +kernel, rfl⟩
theorem D_X4_init_8 : qd cX4_init 8 (.dup) 1 9 := ⟨by decide +kernel, rfl⟩
theorem D_X4_init_9 : qd cX4_init 9 (.invokespecial 11) 3 12 := ⟨by decide +kernel, rfl⟩
theorem D_X4_init_12 : qd cX4_init 12 (.putfield 12) 3 15 := ⟨by decide +kernel, rfl⟩
theorem D_X4_init_15 : qd cX4_init 15 (.aload_n 0) 1 16 := ⟨by decide +kernel, rfl⟩
theorem D_X4_init_16 : qd cX4_init 16 (.bipush 120) 2 18 := ⟨by decide +kernel, rfl⟩
theorem D_X4_init_18 : qd cX4_init 18 (.newarray .int) 2 20 := ⟨by decide +kernel, rfl⟩
theorem D_X4_init_20 : qd cX4_init 20 (.putfield 18) 3 23 := ⟨by decide +kernel, rfl⟩
theorem D_X4_init_23 : qd cX4_init 23 (.return_) 1 24 := ⟨by decide +kernel, rfl⟩
theorem D_X4_isFigure_0 : qd cX4_isFigure 0 (.iload_n 0) 1 1 := ⟨by decide +kernel, rfl⟩
theorem D_X4_isFigure_1 : qd cX4_isFigure 1 (.bipush 48) 2 3 := ⟨by decide +kernel, rfl⟩
theorem D_X4_isFigure_3 : qj cX4_isFigure 3 (.if_icmp .lt 13) (13) 6 16 := ⟨by decide +kernel, rfl, by decide⟩
theorem D_X4_isFigure_6 : qd cX4_isFigure 6 (.iload_n 0) 1 7 := ⟨by decide +kernel, rfl⟩
theorem D_X4_isFigure_7 : qd cX4_isFigure 7 (.bipush 57) 2 9 := ⟨by decide +kernel, rfl⟩
theorem D_X4_isFigure_9 : qj cX4_isFigure 9 (.if_icmp .gt 7) (7) 12 16 := ⟨by decide +kernel, rfl, by decide⟩
theorem D_X4_isFigure_12 : qd cX4_isFigure 12 (.iconst 1) 1 13 := ⟨by decide +kernel, rfl⟩
theorem D_X4_isFigure_13 : qj cX4_isFigure 13 (.goto 4) (4) 16 17 := ⟨by decide +kernel, rfl, by decide⟩
theorem D_X4_isFigure_16 : qd cX4_isFigure 16 (.iconst 0) 1 17 := ⟨by decide +kernel, rfl⟩
theorem D_X4_isFigure_17 : qd cX4_isFigure 17 (.ireturn) 1 18 := ⟨by decide +kernel, rfl⟩
theorem D_X4_kindTold_0 : qd cX4_kindTold 0 (.iload_n 0) 1 1 := ⟨by decide +kernel, rfl⟩
theorem D_X4_kindTold_1 : qd cX4_kindTold 1 (.lookupswitch 61 #[(100, 51), (109, 59), (115, 57), (116, 53), (119, 55)]) 51 52 := ⟨by decide +kernel, rfl⟩
theorem D_X4_kindTold_52 : qd cX4_kindTold 52 (.iconst 1) 1 53 := ⟨by decide +kernel, rfl⟩
theorem D_X4_kindTold_53 : qd cX4_kindTold 53 (.ireturn) 1 54 := ⟨by decide +kernel, rfl⟩
theorem D_X4_kindTold_54 : qd cX4_kindTold 54 (.iconst 2) 1 55 := ⟨by decide +kernel, rfl⟩
theorem D_X4_kindTold_55 : qd cX4_kindTold 55 (.ireturn) 1 56 := ⟨by decide +kernel, rfl⟩
theorem D_X4_kindTold_56 : qd cX4_kindTold 56 (.iconst 3) 1 57 := ⟨by decide +kernel, rfl⟩
theorem D_X4_kindTold_57 : qd cX4_kindTold 57 (.ireturn) 1 58 := ⟨by decide +kernel, rfl⟩
theorem D_X4_kindTold_58 : qd cX4_kindTold 58 (.iconst 4) 1 59 := ⟨by decide +kernel, rfl⟩
theorem D_X4_kindTold_59 : qd cX4_kindTold 59 (.ireturn) 1 60 := ⟨by decide +kernel, rfl⟩
theorem D_X4_kindTold_60 : qd cX4_kindTold 60 (.iconst 5) 1 61 := ⟨by decide +kernel, rfl⟩
theorem D_X4_kindTold_61 : qd cX4_kindTold 61 (.ireturn) 1 62 := ⟨by decide +kernel, rfl⟩
theorem D_X4_kindTold_62 : qd cX4_kindTold 62 (.iconst 0) 1 63 := ⟨by decide +kernel, rfl⟩
theorem D_X4_kindTold_63 : qd cX4_kindTold 63 (.ireturn) 1 64 := ⟨by decide +kernel, rfl⟩
theorem D_X4_nextToken_0 : qd cX4_nextToken 0 (.aload_n 0) 1 1 := ⟨by decide +kernel, rfl⟩
theorem D_X4_nextToken_1 : qd cX4_nextToken 1 (.aload_n 0) 1 2 := ⟨by decide +kernel, rfl⟩
theorem D_X4_nextToken_2 : qd cX4_nextToken 2 (.getfield 29) 3 5 := ⟨by decide +kernel, rfl⟩
theorem D_X4_nextToken_5 : qd cX4_nextToken 5 (.putfield 42) 3 8 := ⟨by decide +kernel, rfl⟩
theorem D_X4_nextToken_8 : qd cX4_nextToken 8 (.aload_n 0) 1 9 := ⟨by decide +kernel, rfl⟩
theorem D_X4_nextToken_9 : qd cX4_nextToken 9 (.getfield 42) 3 12 := ⟨by decide +kernel, rfl⟩
theorem D_X4_nextToken_12 : qd cX4_nextToken 12 (.aload_n 0) 1 13 := ⟨by decide +kernel, rfl⟩
theorem D_X4_nextToken_13 : qd cX4_nextToken 13 (.getfield 22) 3 16 := ⟨by decide +kernel, rfl⟩
theorem D_X4_nextToken_16 : qj cX4_nextToken 16 (.if_icmp .lt 9) (9) 19 25 := ⟨by decide +kernel, rfl, by decide⟩
theorem D_X4_nextToken_19 : qd cX4_nextToken 19 (.aload_n 0) 1 20 := ⟨by decide +kernel, rfl⟩
theorem D_X4_nextToken_20 : qd cX4_nextToken 20 (.iconst (-1)) 1 21 := ⟨by decide +kernel, rfl⟩
theorem D_X4_nextToken_21 : qd cX4_nextToken 21 (.putfield 72) 3 24 := ⟨by decide +kernel, rfl⟩
theorem D_X4_nextToken_24 : qd cX4_nextToken 24 (.return_) 1 25 := ⟨by decide +kernel, rfl⟩
theorem D_X4_nextToken_25 : qd cX4_nextToken 25 (.aload_n 0) 1 26 := ⟨by decide +kernel, rfl⟩
theorem D_X4_nextToken_26 : qd cX4_nextToken 26 (.getfield 18) 3 29 := ⟨by decide +kernel, rfl⟩
theorem D_X4_nextToken_29 : qd cX4_nextToken 29 (.aload_n 0) 1 30 := ⟨by decide +kernel, rfl⟩
theorem D_X4_nextToken_30 : qd cX4_nextToken 30 (.getfield 42) 3 33 := ⟨by decide +kernel, rfl⟩
theorem D_X4_nextToken_33 : qd cX4_nextToken 33 (.iaload) 1 34 := ⟨by decide +kernel, rfl⟩
theorem D_X4_nextToken_34 : qd cX4_nextToken 34 (.istore_n 1) 1 35 := ⟨by decide +kernel, rfl⟩
theorem D_X4_nextToken_35 : qd cX4_nextToken 35 (.iload_n 1) 1 36 := ⟨by decide +kernel, rfl⟩
theorem D_X4_nextToken_36 : qd cX4_nextToken 36 (.invokestatic 100) 3 39 := ⟨by decide +kernel, rfl⟩
theorem D_X4_nextToken_39 : qj cX4_nextToken 39 (.ifCond .eq 8) (8) 42 47 := ⟨by decide +kernel, rfl, by decide⟩
theorem D_X4_nextToken_42 : qd cX4_nextToken 42 (.aload_n 0) 1 43 := ⟨by decide +kernel, rfl⟩
theorem D_X4_nextToken_43 : qd cX4_nextToken 43 (.invokevirtual 103) 3 46 := ⟨by decide +kernel, rfl⟩
theorem D_X4_nextToken_46 : qd cX4_nextToken 46 (.return_) 1 47 := ⟨by decide +kernel, rfl⟩
theorem D_X4_nextToken_47 : qd cX4_nextToken 47 (.aload_n 0) 1 48 := ⟨by decide +kernel, rfl⟩
theorem D_X4_nextToken_48 : qd cX4_nextToken 48 (.aload_n 0) 1 49 := ⟨by decide +kernel, rfl⟩
theorem D_X4_nextToken_49 : qd cX4_nextToken 49 (.getfield 42) 3 52 := ⟨by decide +kernel, rfl⟩
theorem D_X4_nextToken_52 : qd cX4_nextToken 52 (.iconst 1) 1 53 := ⟨by decide +kernel, rfl⟩
theorem D_X4_nextToken_53 : qd cX4_nextToken 53 (.iadd) 1 54 := ⟨by decide +kernel, rfl⟩
theorem D_X4_nextToken_54 : qd cX4_nextToken 54 (.putfield 29) 3 57 := ⟨by decide +kernel, rfl⟩
theorem D_X4_nextToken_57 : qd cX4_nextToken 57 (.aload_n 0) 1 58 := ⟨by decide +kernel, rfl⟩
theorem D_X4_nextToken_58 : qd cX4_nextToken 58 (.iload_n 1) 1 59 := ⟨by decide +kernel, rfl⟩
theorem D_X4_nextToken_59 : qd cX4_nextToken 59 (.bipush 97) 2 61 := ⟨by decide +kernel, rfl⟩
theorem D_X4_nextToken_61 : qj cX4_nextToken 61 (.if_icmp .lt 9) (9) 64 70 := ⟨by decide +kernel, rfl, by decide⟩
theorem D_X4_nextToken_64 : qd cX4_nextToken 64 (.iload_n 1) 1 65 := ⟨by decide +kernel, rfl⟩
theorem D_X4_nextToken_65 : qd cX4_nextToken 65 (.bipush 122) 2 67 := ⟨by decide +kernel, rfl⟩
theorem D_X4_nextToken_67 : qj cX4_nextToken 67 (.if_icmp .le 15) (15) 70 82 := ⟨by decide +kernel, rfl, by decide⟩
theorem D_X4_nextToken_70 : qd cX4_nextToken 70 (.iload_n 1) 1 71 := ⟨by decide +kernel, rfl⟩
theorem D_X4_nextToken_71 : qd cX4_nextToken 71 (.bipush 44) 2 73 := ⟨by decide +kernel, rfl⟩
theorem D_X4_nextToken_73 : qj cX4_nextToken 73 (.if_icmp .eq 9) (9) 76 82 := ⟨by decide +kernel, rfl, by decide⟩
theorem D_X4_nextToken_76 : qd cX4_nextToken 76 (.iload_n 1) 1 77 := ⟨by decide +kernel, rfl⟩
theorem D_X4_nextToken_77 : qd cX4_nextToken 77 (.bipush 59) 2 79 := ⟨by decide +kernel, rfl⟩
theorem D_X4_nextToken_79 : qj cX4_nextToken 79 (.if_icmp .ne 7) (7) 82 86 := ⟨by decide +kernel, rfl, by decide⟩
theorem D_X4_nextToken_82 : qd cX4_nextToken 82 (.iload_n 1) 1 83 := ⟨by decide +kernel, rfl⟩
theorem D_X4_nextToken_83 : qj cX4_nextToken 83 (.goto 5) (5) 86 88 := ⟨by decide +kernel, rfl, by decide⟩
theorem D_X4_nextToken_86 : qd cX4_nextToken 86 (.bipush (-3)) 2 88 := ⟨by decide +kernel, rfl⟩
theorem D_X4_nextToken_88 : qd cX4_nextToken 88 (.putfield 72) 3 91 := ⟨by decide +kernel, rfl⟩
theorem D_X4_nextToken_91 : qd cX4_nextToken 91 (.return_) 1 92 := ⟨by decide +kernel, rfl⟩
theorem D_X4_read_0 : qd cX4_read 0 (.aload_n 0) 1 1 := ⟨by decide +kernel, rfl⟩
theorem D_X4_read_1 : qd cX4_read 1 (.getfield 12) 3 4 := ⟨by decide +kernel, rfl⟩
theorem D_X4_read_4 : qd cX4_read 4 (.invokevirtual 26) 3 7 := ⟨by decide +kernel, rfl⟩
theorem D_X4_read_7 : qd cX4_read 7 (.aload_n 0) 1 8 := ⟨by decide +kernel, rfl⟩
theorem D_X4_read_8 : qd cX4_read 8 (.iconst 0) 1 9 := ⟨by decide +kernel, rfl⟩
theorem D_X4_read_9 : qd cX4_read 9 (.putfield 29) 3 12 := ⟨by decide +kernel, rfl⟩
theorem D_X4_read_12 : qd cX4_read 12 (.aload_n 0) 1 13 := ⟨by decide +kernel, rfl⟩
theorem D_X4_read_13 : qd cX4_read 13 (.invokevirtual 32) 3 16 := ⟨by decide +kernel, rfl⟩
theorem D_X4_read_16 : qd cX4_read 16 (.aload_n 0) 1 17 := ⟨by decide +kernel, rfl⟩
theorem D_X4_read_17 : qd cX4_read 17 (.invokevirtual 35) 3 20 := ⟨by decide +kernel, rfl⟩
theorem D_X4_read_20 : qj cX4_read 20 (.ifCond .eq 14) (14) 23 34 := ⟨by decide +kernel, rfl, by decide⟩
theorem D_X4_read_23 : qd cX4_read 23 (.aload_n 0) 1 24 := ⟨by decide +kernel, rfl⟩
theorem D_X4_read_24 : qd cX4_read 24 (.invokevirtual 39) 3 27 := ⟨by decide +kernel, rfl⟩
theorem D_X4_read_27 : qj cX4_read 27 (.ifCond .eq 7) (7) 30 34 := ⟨by decide +kernel, rfl, by decide⟩
theorem D_X4_read_30 : qd cX4_read 30 (.iconst 1) 1 31 := ⟨by decide +kernel, rfl⟩
theorem D_X4_read_31 : qj cX4_read 31 (.goto 4) (4) 34 35 := ⟨by decide +kernel, rfl, by decide⟩
theorem D_X4_read_34 : qd cX4_read 34 (.iconst 0) 1 35 := ⟨by decide +kernel, rfl⟩
theorem D_X4_read_35 : qd cX4_read 35 (.istore_n 1) 1 36 := ⟨by decide +kernel, rfl⟩
theorem D_X4_read_36 : qd cX4_read 36 (.aload_n 0) 1 37 := ⟨by decide +kernel, rfl⟩
theorem D_X4_read_37 : qd cX4_read 37 (.iconst 0) 1 38 := ⟨by decide +kernel, rfl⟩
theorem D_X4_read_38 : qd cX4_read 38 (.putfield 22) 3 41 := ⟨by decide +kernel, rfl⟩
theorem D_X4_read_41 : qd cX4_read 41 (.iload_n 1) 1 42 := ⟨by decide +kernel, rfl⟩
theorem D_X4_read_42 : qj cX4_read 42 (.ifCond .eq 7) (7) 45 49 := ⟨by decide +kernel, rfl, by decide⟩
theorem D_X4_read_45 : qd cX4_read 45 (.iconst (-1)) 1 46 := ⟨by decide +kernel, rfl⟩
theorem D_X4_read_46 : qj cX4_read 46 (.goto 7) (7) 49 53 := ⟨by decide +kernel, rfl, by decide⟩
theorem D_X4_read_49 : qd cX4_read 49 (.aload_n 0) 1 50 := ⟨by decide +kernel, rfl⟩
theorem D_X4_read_50 : qd cX4_read 50 (.getfield 42) 3 53 := ⟨by decide +kernel, rfl⟩
theorem D_X4_read_53 : qd cX4_read 53 (.ireturn) 1 54 := ⟨by decide +kernel, rfl⟩
theorem D_X4_readLaw_0 : qd cX4_readLaw 0 (.aload_n 0) 1 1 := ⟨by decide +kernel, rfl⟩
theorem D_X4_readLaw_1 : qd cX4_readLaw 1 (.bipush 103) 2 3 := ⟨by decide +kernel, rfl⟩
theorem D_X4_readLaw_3 : qd cX4_readLaw 3 (.invokevirtual 45) 3 6 := ⟨by decide +kernel, rfl⟩
theorem D_X4_readLaw_6 : qj cX4_readLaw 6 (.ifCond .eq 13) (13) 9 19 := ⟨by decide +kernel, rfl, by decide⟩
theorem D_X4_readLaw_9 : qd cX4_readLaw 9 (.aload_n 0) 1 10 := ⟨by decide +kernel, rfl⟩
theorem D_X4_readLaw_10 : qd cX4_readLaw 10 (.iconst 1) 1 11 := ⟨by decide +kernel, rfl⟩
theorem D_X4_readLaw_11 : qd cX4_readLaw 11 (.bipush 6) 2 13 := ⟨by decide +kernel, rfl⟩
theorem D_X4_readLaw_13 : qd cX4_readLaw 13 (.invokevirtual 49) 3 16 := ⟨by decide +kernel, rfl⟩
theorem D_X4_readLaw_16 : qj cX4_readLaw 16 (.ifCond .ne 5) (5) 19 21 := ⟨by decide +kernel, rfl, by decide⟩
theorem D_X4_readLaw_19 : qd cX4_readLaw 19 (.iconst 0) 1 20 := ⟨by decide +kernel, rfl⟩
theorem D_X4_readLaw_20 : qd cX4_readLaw 20 (.ireturn) 1 21 := ⟨by decide +kernel, rfl⟩
theorem D_X4_readLaw_21 : qd cX4_readLaw 21 (.aload_n 0) 1 22 := ⟨by decide +kernel, rfl⟩
theorem D_X4_readLaw_22 : qd cX4_readLaw 22 (.getfield 12) 3 25 := ⟨by decide +kernel, rfl⟩
theorem D_X4_readLaw_25 : qd cX4_readLaw 25 (.aload_n 0) 1 26 := ⟨by decide +kernel, rfl⟩
theorem D_X4_readLaw_26 : qd cX4_readLaw 26 (.getfield 53) 3 29 := ⟨by decide +kernel, rfl⟩
theorem D_X4_readLaw_29 : qd cX4_readLaw 29 (.putfield 56) 3 32 := ⟨by decide +kernel, rfl⟩
theorem D_X4_readLaw_32 : qd cX4_readLaw 32 (.aload_n 0) 1 33 := ⟨by decide +kernel, rfl⟩
theorem D_X4_readLaw_33 : qd cX4_readLaw 33 (.getfield 12) 3 36 := ⟨by decide +kernel, rfl⟩
theorem D_X4_readLaw_36 : qd cX4_readLaw 36 (.aload_n 0) 1 37 := ⟨by decide +kernel, rfl⟩
theorem D_X4_readLaw_37 : qd cX4_readLaw 37 (.getfield 53) 3 40 := ⟨by decide +kernel, rfl⟩
theorem D_X4_readLaw_40 : qd cX4_readLaw 40 (.invokestatic 59) 3 43 := ⟨by decide +kernel, rfl⟩
theorem D_X4_readLaw_43 : qd cX4_readLaw 43 (.iconst 1) 1 44 := ⟨by decide +kernel, rfl⟩
theorem D_X4_readLaw_44 : qd cX4_readLaw 44 (.isub) 1 45 := ⟨by decide +kernel, rfl⟩
theorem D_X4_readLaw_45 : qd cX4_readLaw 45 (.putfield 63) 3 48 := ⟨by decide +kernel, rfl⟩
theorem D_X4_readLaw_48 : qd cX4_readLaw 48 (.aload_n 0) 1 49 := ⟨by decide +kernel, rfl⟩
theorem D_X4_readLaw_49 : qd cX4_readLaw 49 (.bipush 44) 2 51 := ⟨by decide +kernel, rfl⟩
theorem D_X4_readLaw_51 : qd cX4_readLaw 51 (.invokevirtual 45) 3 54 := ⟨by decide +kernel, rfl⟩
theorem D_X4_readLaw_54 : qj cX4_readLaw 54 (.ifCond .eq 13) (13) 57 67 := ⟨by decide +kernel, rfl, by decide⟩
theorem D_X4_readLaw_57 : qd cX4_readLaw 57 (.aload_n 0) 1 58 := ⟨by decide +kernel, rfl⟩
theorem D_X4_readLaw_58 : qd cX4_readLaw 58 (.iconst 1) 1 59 := ⟨by decide +kernel, rfl⟩
theorem D_X4_readLaw_59 : qd cX4_readLaw 59 (.bipush 9) 2 61 := ⟨by decide +kernel, rfl⟩
theorem D_X4_readLaw_61 : qd cX4_readLaw 61 (.invokevirtual 49) 3 64 := ⟨by decide +kernel, rfl⟩
theorem D_X4_readLaw_64 : qj cX4_readLaw 64 (.ifCond .ne 5) (5) 67 69 := ⟨by decide +kernel, rfl, by decide⟩
theorem D_X4_readLaw_67 : qd cX4_readLaw 67 (.iconst 0) 1 68 := ⟨by decide +kernel, rfl⟩
theorem D_X4_readLaw_68 : qd cX4_readLaw 68 (.ireturn) 1 69 := ⟨by decide +kernel, rfl⟩
theorem D_X4_readLaw_69 : qd cX4_readLaw 69 (.aload_n 0) 1 70 := ⟨by decide +kernel, rfl⟩
theorem D_X4_readLaw_70 : qd cX4_readLaw 70 (.getfield 12) 3 73 := ⟨by decide +kernel, rfl⟩
theorem D_X4_readLaw_73 : qd cX4_readLaw 73 (.aload_n 0) 1 74 := ⟨by decide +kernel, rfl⟩
theorem D_X4_readLaw_74 : qd cX4_readLaw 74 (.getfield 53) 3 77 := ⟨by decide +kernel, rfl⟩
theorem D_X4_readLaw_77 : qd cX4_readLaw 77 (.putfield 66) 3 80 := ⟨by decide +kernel, rfl⟩
theorem D_X4_readLaw_80 : qd cX4_readLaw 80 (.aload_n 0) 1 81 := ⟨by decide +kernel, rfl⟩
theorem D_X4_readLaw_81 : qd cX4_readLaw 81 (.bipush 44) 2 83 := ⟨by decide +kernel, rfl⟩
theorem D_X4_readLaw_83 : qd cX4_readLaw 83 (.invokevirtual 45) 3 86 := ⟨by decide +kernel, rfl⟩
theorem D_X4_readLaw_86 : qj cX4_readLaw 86 (.ifCond .eq 13) (13) 89 99 := ⟨by decide +kernel, rfl, by decide⟩
theorem D_X4_readLaw_89 : qd cX4_readLaw 89 (.aload_n 0) 1 90 := ⟨by decide +kernel, rfl⟩
theorem D_X4_readLaw_90 : qd cX4_readLaw 90 (.iconst 2) 1 91 := ⟨by decide +kernel, rfl⟩
theorem D_X4_readLaw_91 : qd cX4_readLaw 91 (.bipush 9) 2 93 := ⟨by decide +kernel, rfl⟩
theorem D_X4_readLaw_93 : qd cX4_readLaw 93 (.invokevirtual 49) 3 96 := ⟨by decide +kernel, rfl⟩
theorem D_X4_readLaw_96 : qj cX4_readLaw 96 (.ifCond .ne 5) (5) 99 101 := ⟨by decide +kernel, rfl, by decide⟩
theorem D_X4_readLaw_99 : qd cX4_readLaw 99 (.iconst 0) 1 100 := ⟨by decide +kernel, rfl⟩
theorem D_X4_readLaw_100 : qd cX4_readLaw 100 (.ireturn) 1 101 := ⟨by decide +kernel, rfl⟩
theorem D_X4_readLaw_101 : qd cX4_readLaw 101 (.aload_n 0) 1 102 := ⟨by decide +kernel, rfl⟩
theorem D_X4_readLaw_102 : qd cX4_readLaw 102 (.getfield 12) 3 105 := ⟨by decide +kernel, rfl⟩
theorem D_X4_readLaw_105 : qd cX4_readLaw 105 (.aload_n 0) 1 106 := ⟨by decide +kernel, rfl⟩
theorem D_X4_readLaw_106 : qd cX4_readLaw 106 (.getfield 53) 3 109 := ⟨by decide +kernel, rfl⟩
theorem D_X4_readLaw_109 : qd cX4_readLaw 109 (.putfield 69) 3 112 := ⟨by decide +kernel, rfl⟩
theorem D_X4_readLaw_112 : qd cX4_readLaw 112 (.aload_n 0) 1 113 := ⟨by decide +kernel, rfl⟩
theorem D_X4_readLaw_113 : qd cX4_readLaw 113 (.bipush 59) 2 115 := ⟨by decide +kernel, rfl⟩
theorem D_X4_readLaw_115 : qd cX4_readLaw 115 (.invokevirtual 45) 3 118 := ⟨by decide +kernel, rfl⟩
theorem D_X4_readLaw_118 : qd cX4_readLaw 118 (.ireturn) 1 119 := ⟨by decide +kernel, rfl⟩
theorem D_X4_readSleeper_0 : qd cX4_readSleeper 0 (.aload_n 0) 1 1 := ⟨by decide +kernel, rfl⟩
theorem D_X4_readSleeper_1 : qd cX4_readSleeper 1 (.getfield 72) 3 4 := ⟨by decide +kernel, rfl⟩
theorem D_X4_readSleeper_4 : qd cX4_readSleeper 4 (.invokestatic 78) 3 7 := ⟨by decide +kernel, rfl⟩
theorem D_X4_readSleeper_7 : qd cX4_readSleeper 7 (.istore_n 2) 1 8 := ⟨by decide +kernel, rfl⟩
theorem D_X4_readSleeper_8 : qd cX4_readSleeper 8 (.iload_n 2) 1 9 := ⟨by decide +kernel, rfl⟩
theorem D_X4_readSleeper_9 : qj cX4_readSleeper 9 (.ifCond .ne 9) (9) 12 18 := ⟨by decide +kernel, rfl, by decide⟩
theorem D_X4_readSleeper_12 : qd cX4_readSleeper 12 (.aload_n 0) 1 13 := ⟨by decide +kernel, rfl⟩
theorem D_X4_readSleeper_13 : qd cX4_readSleeper 13 (.iconst 1) 1 14 := ⟨by decide +kernel, rfl⟩
theorem D_X4_readSleeper_14 : qd cX4_readSleeper 14 (.invokevirtual 81) 3 17 := ⟨by decide +kernel, rfl⟩
theorem D_X4_readSleeper_17 : qd cX4_readSleeper 17 (.ireturn) 1 18 := ⟨by decide +kernel, rfl⟩
theorem D_X4_readSleeper_18 : qd cX4_readSleeper 18 (.aload_n 0) 1 19 := ⟨by decide +kernel, rfl⟩
theorem D_X4_readSleeper_19 : qd cX4_readSleeper 19 (.invokevirtual 32) 3 22 := ⟨by decide +kernel, rfl⟩
theorem D_X4_readSleeper_22 : qd cX4_readSleeper 22 (.aload_n 0) 1 23 := ⟨by decide +kernel, rfl⟩
theorem D_X4_readSleeper_23 : qd cX4_readSleeper 23 (.getfield 12) 3 26 := ⟨by decide +kernel, rfl⟩
theorem D_X4_readSleeper_26 : qd cX4_readSleeper 26 (.getfield 84) 3 29 := ⟨by decide +kernel, rfl⟩
theorem D_X4_readSleeper_29 : qd cX4_readSleeper 29 (.iload_n 1) 1 30 := ⟨by decide +kernel, rfl⟩
theorem D_X4_readSleeper_30 : qd cX4_readSleeper 30 (.iload_n 2) 1 31 := ⟨by decide +kernel, rfl⟩
theorem D_X4_readSleeper_31 : qd cX4_readSleeper 31 (.iastore) 1 32 := ⟨by decide +kernel, rfl⟩
theorem D_X4_readSleeper_32 : qd cX4_readSleeper 32 (.aload_n 0) 1 33 := ⟨by decide +kernel, rfl⟩
theorem D_X4_readSleeper_33 : qd cX4_readSleeper 33 (.getfield 12) 3 36 := ⟨by decide +kernel, rfl⟩
theorem D_X4_readSleeper_36 : qd cX4_readSleeper 36 (.iload_n 1) 1 37 := ⟨by decide +kernel, rfl⟩
theorem D_X4_readSleeper_37 : qd cX4_readSleeper 37 (.iconst 1) 1 38 := ⟨by decide +kernel, rfl⟩
theorem D_X4_readSleeper_38 : qd cX4_readSleeper 38 (.iadd) 1 39 := ⟨by decide +kernel, rfl⟩
theorem D_X4_readSleeper_39 : qd cX4_readSleeper 39 (.putfield 87) 3 42 := ⟨by decide +kernel, rfl⟩
theorem D_X4_readSleeper_42 : qd cX4_readSleeper 42 (.iconst 0) 1 43 := ⟨by decide +kernel, rfl⟩
theorem D_X4_readSleeper_43 : qd cX4_readSleeper 43 (.istore_n 3) 1 44 := ⟨by decide +kernel, rfl⟩
theorem D_X4_readSleeper_44 : qd cX4_readSleeper 44 (.iload_n 3) 1 45 := ⟨by decide +kernel, rfl⟩
theorem D_X4_readSleeper_45 : qd cX4_readSleeper 45 (.aload_n 0) 1 46 := ⟨by decide +kernel, rfl⟩
theorem D_X4_readSleeper_46 : qd cX4_readSleeper 46 (.getfield 12) 3 49 := ⟨by decide +kernel, rfl⟩
theorem D_X4_readSleeper_49 : qd cX4_readSleeper 49 (.getfield 56) 3 52 := ⟨by decide +kernel, rfl⟩
theorem D_X4_readSleeper_52 : qj cX4_readSleeper 52 (.if_icmp .ge 49) (49) 55 101 := ⟨by decide +kernel, rfl, by decide⟩
theorem D_X4_readSleeper_55 : qd cX4_readSleeper 55 (.iload_n 3) 1 56 := ⟨by decide +kernel, rfl⟩
theorem D_X4_readSleeper_56 : qj cX4_readSleeper 56 (.ifCond .le 14) (14) 59 70 := ⟨by decide +kernel, rfl, by decide⟩
theorem D_X4_readSleeper_59 : qd cX4_readSleeper 59 (.aload_n 0) 1 60 := ⟨by decide +kernel, rfl⟩
theorem D_X4_readSleeper_60 : qd cX4_readSleeper 60 (.bipush 44) 2 62 := ⟨by decide +kernel, rfl⟩
theorem D_X4_readSleeper_62 : qd cX4_readSleeper 62 (.invokevirtual 45) 3 65 := ⟨by decide +kernel, rfl⟩
theorem D_X4_readSleeper_65 : qj cX4_readSleeper 65 (.ifCond .ne 5) (5) 68 70 := ⟨by decide +kernel, rfl, by decide⟩
theorem D_X4_readSleeper_68 : qd cX4_readSleeper 68 (.iconst 0) 1 69 := ⟨by decide +kernel, rfl⟩
theorem D_X4_readSleeper_69 : qd cX4_readSleeper 69 (.ireturn) 1 70 := ⟨by decide +kernel, rfl⟩
theorem D_X4_readSleeper_70 : qd cX4_readSleeper 70 (.aload_n 0) 1 71 := ⟨by decide +kernel, rfl⟩
theorem D_X4_readSleeper_71 : qd cX4_readSleeper 71 (.iconst 0) 1 72 := ⟨by decide +kernel, rfl⟩
theorem D_X4_readSleeper_72 : qd cX4_readSleeper 72 (.bipush 27) 2 74 := ⟨by decide +kernel, rfl⟩
theorem D_X4_readSleeper_74 : qd cX4_readSleeper 74 (.invokevirtual 49) 3 77 := ⟨by decide +kernel, rfl⟩
theorem D_X4_readSleeper_77 : qj cX4_readSleeper 77 (.ifCond .ne 5) (5) 80 82 := ⟨by decide +kernel, rfl, by decide⟩
theorem D_X4_readSleeper_80 : qd cX4_readSleeper 80 (.iconst 0) 1 81 := ⟨by decide +kernel, rfl⟩
theorem D_X4_readSleeper_81 : qd cX4_readSleeper 81 (.ireturn) 1 82 := ⟨by decide +kernel, rfl⟩
theorem D_X4_readSleeper_82 : qd cX4_readSleeper 82 (.aload_n 0) 1 83 := ⟨by decide +kernel, rfl⟩
theorem D_X4_readSleeper_83 : qd cX4_readSleeper 83 (.getfield 12) 3 86 := ⟨by decide +kernel, rfl⟩
theorem D_X4_readSleeper_86 : qd cX4_readSleeper 86 (.iload_n 1) 1 87 := ⟨by decide +kernel, rfl⟩
theorem D_X4_readSleeper_87 : qd cX4_readSleeper 87 (.iload_n 3) 1 88 := ⟨by decide +kernel, rfl⟩
theorem D_X4_readSleeper_88 : qd cX4_readSleeper 88 (.aload_n 0) 1 89 := ⟨by decide +kernel, rfl⟩
theorem D_X4_readSleeper_89 : qd cX4_readSleeper 89 (.getfield 53) 3 92 := ⟨by decide +kernel, rfl⟩
theorem D_X4_readSleeper_92 : qd cX4_readSleeper 92 (.invokevirtual 90) 3 95 := ⟨by decide +kernel, rfl⟩
theorem D_X4_readSleeper_95 : qd cX4_readSleeper 95 (.iinc 3 1) 3 98 := ⟨by decide +kernel, rfl⟩
theorem D_X4_readSleeper_98 : qj cX4_readSleeper 98 (.goto (-54)) (-54) 101 44 := ⟨by decide +kernel, rfl, by decide⟩
theorem D_X4_readSleeper_101 : qd cX4_readSleeper 101 (.aload_n 0) 1 102 := ⟨by decide +kernel, rfl⟩
theorem D_X4_readSleeper_102 : qd cX4_readSleeper 102 (.bipush 59) 2 104 := ⟨by decide +kernel, rfl⟩
theorem D_X4_readSleeper_104 : qd cX4_readSleeper 104 (.invokevirtual 45) 3 107 := ⟨by decide +kernel, rfl⟩
theorem D_X4_readSleeper_107 : qd cX4_readSleeper 107 (.ireturn) 1 108 := ⟨by decide +kernel, rfl⟩
theorem D_X4_readSleepers_0 : qd cX4_readSleepers 0 (.iconst 0) 1 1 := ⟨by decide +kernel, rfl⟩
theorem D_X4_readSleepers_1 : qd cX4_readSleepers 1 (.istore_n 1) 1 2 := ⟨by decide +kernel, rfl⟩
theorem D_X4_readSleepers_2 : qd cX4_readSleepers 2 (.iload_n 1) 1 3 := ⟨by decide +kernel, rfl⟩
theorem D_X4_readSleepers_3 : qd cX4_readSleepers 3 (.iconst 5) 1 4 := ⟨by decide +kernel, rfl⟩
theorem D_X4_readSleepers_4 : qj cX4_readSleepers 4 (.if_icmp .ge 33) (33) 7 37 := ⟨by decide +kernel, rfl, by decide⟩
theorem D_X4_readSleepers_7 : qd cX4_readSleepers 7 (.iload_n 1) 1 8 := ⟨by decide +kernel, rfl⟩
theorem D_X4_readSleepers_8 : qj cX4_readSleepers 8 (.ifCond .le 13) (13) 11 21 := ⟨by decide +kernel, rfl, by decide⟩
theorem D_X4_readSleepers_11 : qd cX4_readSleepers 11 (.aload_n 0) 1 12 := ⟨by decide +kernel, rfl⟩
theorem D_X4_readSleepers_12 : qd cX4_readSleepers 12 (.getfield 72) 3 15 := ⟨by decide +kernel, rfl⟩
theorem D_X4_readSleepers_15 : qd cX4_readSleepers 15 (.iconst (-1)) 1 16 := ⟨by decide +kernel, rfl⟩
theorem D_X4_readSleepers_16 : qj cX4_readSleepers 16 (.if_icmp .ne 5) (5) 19 21 := ⟨by decide +kernel, rfl, by decide⟩
theorem D_X4_readSleepers_19 : qd cX4_readSleepers 19 (.iconst 1) 1 20 := ⟨by decide +kernel, rfl⟩
theorem D_X4_readSleepers_20 : qd cX4_readSleepers 20 (.ireturn) 1 21 := ⟨by decide +kernel, rfl⟩
theorem D_X4_readSleepers_21 : qd cX4_readSleepers 21 (.aload_n 0) 1 22 := ⟨by decide +kernel, rfl⟩
theorem D_X4_readSleepers_22 : qd cX4_readSleepers 22 (.iload_n 1) 1 23 := ⟨by decide +kernel, rfl⟩
theorem D_X4_readSleepers_23 : qd cX4_readSleepers 23 (.invokevirtual 75) 3 26 := ⟨by decide +kernel, rfl⟩
theorem D_X4_readSleepers_26 : qj cX4_readSleepers 26 (.ifCond .ne 5) (5) 29 31 := ⟨by decide +kernel, rfl, by decide⟩
theorem D_X4_readSleepers_29 : qd cX4_readSleepers 29 (.iconst 0) 1 30 := ⟨by decide +kernel, rfl⟩
theorem D_X4_readSleepers_30 : qd cX4_readSleepers 30 (.ireturn) 1 31 := ⟨by decide +kernel, rfl⟩
theorem D_X4_readSleepers_31 : qd cX4_readSleepers 31 (.iinc 1 1) 3 34 := ⟨by decide +kernel, rfl⟩
theorem D_X4_readSleepers_34 : qj cX4_readSleepers 34 (.goto (-32)) (-32) 37 2 := ⟨by decide +kernel, rfl, by decide⟩
theorem D_X4_readSleepers_37 : qd cX4_readSleepers 37 (.aload_n 0) 1 38 := ⟨by decide +kernel, rfl⟩
theorem D_X4_readSleepers_38 : qd cX4_readSleepers 38 (.getfield 72) 3 41 := ⟨by decide +kernel, rfl⟩
theorem D_X4_readSleepers_41 : qd cX4_readSleepers 41 (.iconst (-1)) 1 42 := ⟨by decide +kernel, rfl⟩
theorem D_X4_readSleepers_42 : qj cX4_readSleepers 42 (.if_icmp .eq 25) (25) 45 67 := ⟨by decide +kernel, rfl, by decide⟩
theorem D_X4_readSleepers_45 : qd cX4_readSleepers 45 (.aload_n 0) 1 46 := ⟨by decide +kernel, rfl⟩
theorem D_X4_readSleepers_46 : qd cX4_readSleepers 46 (.aload_n 0) 1 47 := ⟨by decide +kernel, rfl⟩
theorem D_X4_readSleepers_47 : qd cX4_readSleepers 47 (.getfield 72) 3 50 := ⟨by decide +kernel, rfl⟩
theorem D_X4_readSleepers_50 : qd cX4_readSleepers 50 (.invokestatic 78) 3 53 := ⟨by decide +kernel, rfl⟩
theorem D_X4_readSleepers_53 : qj cX4_readSleepers 53 (.ifCond .ne 7) (7) 56 60 := ⟨by decide +kernel, rfl, by decide⟩
theorem D_X4_readSleepers_56 : qd cX4_readSleepers 56 (.iconst 1) 1 57 := ⟨by decide +kernel, rfl⟩
theorem D_X4_readSleepers_57 : qj cX4_readSleepers 57 (.goto 4) (4) 60 61 := ⟨by decide +kernel, rfl, by decide⟩
theorem D_X4_readSleepers_60 : qd cX4_readSleepers 60 (.iconst 3) 1 61 := ⟨by decide +kernel, rfl⟩
theorem D_X4_readSleepers_61 : qd cX4_readSleepers 61 (.invokevirtual 81) 3 64 := ⟨by decide +kernel, rfl⟩
theorem D_X4_readSleepers_64 : qj cX4_readSleepers 64 (.ifCond .eq 7) (7) 67 71 := ⟨by decide +kernel, rfl, by decide⟩
theorem D_X4_readSleepers_67 : qd cX4_readSleepers 67 (.iconst 1) 1 68 := ⟨by decide +kernel, rfl⟩
theorem D_X4_readSleepers_68 : qj cX4_readSleepers 68 (.goto 4) (4) 71 72 := ⟨by decide +kernel, rfl, by decide⟩
theorem D_X4_readSleepers_71 : qd cX4_readSleepers 71 (.iconst 0) 1 72 := ⟨by decide +kernel, rfl⟩
theorem D_X4_readSleepers_72 : qd cX4_readSleepers 72 (.ireturn) 1 73 := ⟨by decide +kernel, rfl⟩
theorem D_X4_takeFigures_0 : qd cX4_takeFigures 0 (.aload_n 0) 1 1 := ⟨by decide +kernel, rfl⟩
theorem D_X4_takeFigures_1 : qd cX4_takeFigures 1 (.iconst 0) 1 2 := ⟨by decide +kernel, rfl⟩
theorem D_X4_takeFigures_2 : qd cX4_takeFigures 2 (.putfield 97) 3 5 := ⟨by decide +kernel, rfl⟩
theorem D_X4_takeFigures_5 : qd cX4_takeFigures 5 (.aload_n 0) 1 6 := ⟨by decide +kernel, rfl⟩
theorem D_X4_takeFigures_6 : qd cX4_takeFigures 6 (.getfield 29) 3 9 := ⟨by decide +kernel, rfl⟩
theorem D_X4_takeFigures_9 : qd cX4_takeFigures 9 (.aload_n 0) 1 10 := ⟨by decide +kernel, rfl⟩
theorem D_X4_takeFigures_10 : qd cX4_takeFigures 10 (.getfield 22) 3 13 := ⟨by decide +kernel, rfl⟩
theorem D_X4_takeFigures_13 : qj cX4_takeFigures 13 (.if_icmp .ge 68) (68) 16 81 := ⟨by decide +kernel, rfl, by decide⟩
theorem D_X4_takeFigures_16 : qd cX4_takeFigures 16 (.aload_n 0) 1 17 := ⟨by decide +kernel, rfl⟩
theorem D_X4_takeFigures_17 : qd cX4_takeFigures 17 (.getfield 18) 3 20 := ⟨by decide +kernel, rfl⟩
theorem D_X4_takeFigures_20 : qd cX4_takeFigures 20 (.aload_n 0) 1 21 := ⟨by decide +kernel, rfl⟩
theorem D_X4_takeFigures_21 : qd cX4_takeFigures 21 (.getfield 29) 3 24 := ⟨by decide +kernel, rfl⟩
theorem D_X4_takeFigures_24 : qd cX4_takeFigures 24 (.iaload) 1 25 := ⟨by decide +kernel, rfl⟩
theorem D_X4_takeFigures_25 : qd cX4_takeFigures 25 (.invokestatic 100) 3 28 := ⟨by decide +kernel, rfl⟩
theorem D_X4_takeFigures_28 : qj cX4_takeFigures 28 (.ifCond .eq 53) (53) 31 81 := ⟨by decide +kernel, rfl, by decide⟩
theorem D_X4_takeFigures_31 : qd cX4_takeFigures 31 (.aload_n 0) 1 32 := ⟨by decide +kernel, rfl⟩
theorem D_X4_takeFigures_32 : qd cX4_takeFigures 32 (.getfield 29) 3 35 := ⟨by decide +kernel, rfl⟩
theorem D_X4_takeFigures_35 : qd cX4_takeFigures 35 (.aload_n 0) 1 36 := ⟨by decide +kernel, rfl⟩
theorem D_X4_takeFigures_36 : qd cX4_takeFigures 36 (.getfield 42) 3 39 := ⟨by decide +kernel, rfl⟩
theorem D_X4_takeFigures_39 : qd cX4_takeFigures 39 (.isub) 1 40 := ⟨by decide +kernel, rfl⟩
theorem D_X4_takeFigures_40 : qd cX4_takeFigures 40 (.iconst 2) 1 41 := ⟨by decide +kernel, rfl⟩
theorem D_X4_takeFigures_41 : qj cX4_takeFigures 41 (.if_icmp .ge 27) (27) 44 68 := ⟨by decide +kernel, rfl, by decide⟩
theorem D_X4_takeFigures_44 : qd cX4_takeFigures 44 (.aload_n 0) 1 45 := ⟨by decide +kernel, rfl⟩
theorem D_X4_takeFigures_45 : qd cX4_takeFigures 45 (.aload_n 0) 1 46 := ⟨by decide +kernel, rfl⟩
theorem D_X4_takeFigures_46 : qd cX4_takeFigures 46 (.getfield 97) 3 49 := ⟨by decide +kernel, rfl⟩
theorem D_X4_takeFigures_49 : qd cX4_takeFigures 49 (.bipush 10) 2 51 := ⟨by decide +kernel, rfl⟩
theorem D_X4_takeFigures_51 : qd cX4_takeFigures 51 (.imul) 1 52 := ⟨by decide +kernel, rfl⟩
theorem D_X4_takeFigures_52 : qd cX4_takeFigures 52 (.aload_n 0) 1 53 := ⟨by decide +kernel, rfl⟩
theorem D_X4_takeFigures_53 : qd cX4_takeFigures 53 (.getfield 18) 3 56 := ⟨by decide +kernel, rfl⟩
theorem D_X4_takeFigures_56 : qd cX4_takeFigures 56 (.aload_n 0) 1 57 := ⟨by decide +kernel, rfl⟩
theorem D_X4_takeFigures_57 : qd cX4_takeFigures 57 (.getfield 29) 3 60 := ⟨by decide +kernel, rfl⟩
theorem D_X4_takeFigures_60 : qd cX4_takeFigures 60 (.iaload) 1 61 := ⟨by decide +kernel, rfl⟩
theorem D_X4_takeFigures_61 : qd cX4_takeFigures 61 (.iadd) 1 62 := ⟨by decide +kernel, rfl⟩
theorem D_X4_takeFigures_62 : qd cX4_takeFigures 62 (.bipush 48) 2 64 := ⟨by decide +kernel, rfl⟩
theorem D_X4_takeFigures_64 : qd cX4_takeFigures 64 (.isub) 1 65 := ⟨by decide +kernel, rfl⟩
theorem D_X4_takeFigures_65 : qd cX4_takeFigures 65 (.putfield 97) 3 68 := ⟨by decide +kernel, rfl⟩
theorem D_X4_takeFigures_68 : qd cX4_takeFigures 68 (.aload_n 0) 1 69 := ⟨by decide +kernel, rfl⟩
theorem D_X4_takeFigures_69 : qd cX4_takeFigures 69 (.dup) 1 70 := ⟨by decide +kernel, rfl⟩
theorem D_X4_takeFigures_70 : qd cX4_takeFigures 70 (.getfield 29) 3 73 := ⟨by decide +kernel, rfl⟩
theorem D_X4_takeFigures_73 : qd cX4_takeFigures 73 (.iconst 1) 1 74 := ⟨by decide +kernel, rfl⟩
theorem D_X4_takeFigures_74 : qd cX4_takeFigures 74 (.iadd) 1 75 := ⟨by decide +kernel, rfl⟩
theorem D_X4_takeFigures_75 : qd cX4_takeFigures 75 (.putfield 29) 3 78 := ⟨by decide +kernel, rfl⟩
theorem D_X4_takeFigures_78 : qj cX4_takeFigures 78 (.goto (-73)) (-73) 81 5 := ⟨by decide +kernel, rfl, by decide⟩
theorem D_X4_takeFigures_81 : qd cX4_takeFigures 81 (.aload_n 0) 1 82 := ⟨by decide +kernel, rfl⟩
theorem D_X4_takeFigures_82 : qd cX4_takeFigures 82 (.aload_n 0) 1 83 := ⟨by decide +kernel, rfl⟩
theorem D_X4_takeFigures_83 : qd cX4_takeFigures 83 (.getfield 29) 3 86 := ⟨by decide +kernel, rfl⟩
theorem D_X4_takeFigures_86 : qd cX4_takeFigures 86 (.aload_n 0) 1 87 := ⟨by decide +kernel, rfl⟩
theorem D_X4_takeFigures_87 : qd cX4_takeFigures 87 (.getfield 42) 3 90 := ⟨by decide +kernel, rfl⟩
theorem D_X4_takeFigures_90 : qd cX4_takeFigures 90 (.isub) 1 91 := ⟨by decide +kernel, rfl⟩
theorem D_X4_takeFigures_91 : qd cX4_takeFigures 91 (.iconst 2) 1 92 := ⟨by decide +kernel, rfl⟩
theorem D_X4_takeFigures_92 : qj cX4_takeFigures 92 (.if_icmp .le 8) (8) 95 100 := ⟨by decide +kernel, rfl, by decide⟩
theorem D_X4_takeFigures_95 : qd cX4_takeFigures 95 (.bipush (-3)) 2 97 := ⟨by decide +kernel, rfl⟩
theorem D_X4_takeFigures_97 : qj cX4_takeFigures 97 (.goto 5) (5) 100 102 := ⟨by decide +kernel, rfl, by decide⟩
theorem D_X4_takeFigures_100 : qd cX4_takeFigures 100 (.bipush (-2)) 2 102 := ⟨by decide +kernel, rfl⟩
theorem D_X4_takeFigures_102 : qd cX4_takeFigures 102 (.putfield 72) 3 105 := ⟨by decide +kernel, rfl⟩
theorem D_X4_takeFigures_105 : qd cX4_takeFigures 105 (.return_) 1 106 := ⟨by decide +kernel, rfl⟩
theorem D_X4_takeNumber_0 : qd cX4_takeNumber 0 (.aload_n 0) 1 1 := ⟨by decide +kernel, rfl⟩
theorem D_X4_takeNumber_1 : qd cX4_takeNumber 1 (.getfield 72) 3 4 := ⟨by decide +kernel, rfl⟩
theorem D_X4_takeNumber_4 : qd cX4_takeNumber 4 (.bipush (-2)) 2 6 := ⟨by decide +kernel, rfl⟩
theorem D_X4_takeNumber_6 : qj cX4_takeNumber 6 (.if_icmp .eq 9) (9) 9 15 := ⟨by decide +kernel, rfl, by decide⟩
theorem D_X4_takeNumber_9 : qd cX4_takeNumber 9 (.aload_n 0) 1 10 := ⟨by decide +kernel, rfl⟩
theorem D_X4_takeNumber_10 : qd cX4_takeNumber 10 (.iconst 1) 1 11 := ⟨by decide +kernel, rfl⟩
theorem D_X4_takeNumber_11 : qd cX4_takeNumber 11 (.invokevirtual 81) 3 14 := ⟨by decide +kernel, rfl⟩
theorem D_X4_takeNumber_14 : qd cX4_takeNumber 14 (.ireturn) 1 15 := ⟨by decide +kernel, rfl⟩
theorem D_X4_takeNumber_15 : qd cX4_takeNumber 15 (.aload_n 0) 1 16 := ⟨by decide +kernel, rfl⟩
theorem D_X4_takeNumber_16 : qd cX4_takeNumber 16 (.getfield 97) 3 19 := ⟨by decide +kernel, rfl⟩
theorem D_X4_takeNumber_19 : qd cX4_takeNumber 19 (.iload_n 1) 1 20 := ⟨by decide +kernel, rfl⟩
theorem D_X4_takeNumber_20 : qj cX4_takeNumber 20 (.if_icmp .lt 11) (11) 23 31 := ⟨by decide +kernel, rfl, by decide⟩
theorem D_X4_takeNumber_23 : qd cX4_takeNumber 23 (.aload_n 0) 1 24 := ⟨by decide +kernel, rfl⟩
theorem D_X4_takeNumber_24 : qd cX4_takeNumber 24 (.getfield 97) 3 27 := ⟨by decide +kernel, rfl⟩
theorem D_X4_takeNumber_27 : qd cX4_takeNumber 27 (.iload_n 2) 1 28 := ⟨by decide +kernel, rfl⟩
theorem D_X4_takeNumber_28 : qj cX4_takeNumber 28 (.if_icmp .le 9) (9) 31 37 := ⟨by decide +kernel, rfl, by decide⟩
theorem D_X4_takeNumber_31 : qd cX4_takeNumber 31 (.aload_n 0) 1 32 := ⟨by decide +kernel, rfl⟩
theorem D_X4_takeNumber_32 : qd cX4_takeNumber 32 (.iconst 2) 1 33 := ⟨by decide +kernel, rfl⟩
theorem D_X4_takeNumber_33 : qd cX4_takeNumber 33 (.invokevirtual 81) 3 36 := ⟨by decide +kernel, rfl⟩
theorem D_X4_takeNumber_36 : qd cX4_takeNumber 36 (.ireturn) 1 37 := ⟨by decide +kernel, rfl⟩
theorem D_X4_takeNumber_37 : qd cX4_takeNumber 37 (.aload_n 0) 1 38 := ⟨by decide +kernel, rfl⟩
theorem D_X4_takeNumber_38 : qd cX4_takeNumber 38 (.aload_n 0) 1 39 := ⟨by decide +kernel, rfl⟩
theorem D_X4_takeNumber_39 : qd cX4_takeNumber 39 (.getfield 97) 3 42 := ⟨by decide +kernel, rfl⟩
theorem D_X4_takeNumber_42 : qd cX4_takeNumber 42 (.putfield 53) 3 45 := ⟨by decide +kernel, rfl⟩
theorem D_X4_takeNumber_45 : qd cX4_takeNumber 45 (.aload_n 0) 1 46 := ⟨by decide +kernel, rfl⟩
theorem D_X4_takeNumber_46 : qd cX4_takeNumber 46 (.invokevirtual 32) 3 49 := ⟨by decide +kernel, rfl⟩
theorem D_X4_takeNumber_49 : qd cX4_takeNumber 49 (.iconst 1) 1 50 := ⟨by decide +kernel, rfl⟩
theorem D_X4_takeNumber_50 : qd cX4_takeNumber 50 (.ireturn) 1 51 := ⟨by decide +kernel, rfl⟩
theorem D_X4_takeSign_0 : qd cX4_takeSign 0 (.aload_n 0) 1 1 := ⟨by decide +kernel, rfl⟩
theorem D_X4_takeSign_1 : qd cX4_takeSign 1 (.getfield 72) 3 4 := ⟨by decide +kernel, rfl⟩
theorem D_X4_takeSign_4 : qd cX4_takeSign 4 (.iload_n 1) 1 5 := ⟨by decide +kernel, rfl⟩
theorem D_X4_takeSign_5 : qj cX4_takeSign 5 (.if_icmp .eq 9) (9) 8 14 := ⟨by decide +kernel, rfl, by decide⟩
theorem D_X4_takeSign_8 : qd cX4_takeSign 8 (.aload_n 0) 1 9 := ⟨by decide +kernel, rfl⟩
theorem D_X4_takeSign_9 : qd cX4_takeSign 9 (.iconst 1) 1 10 := ⟨by decide +kernel, rfl⟩
theorem D_X4_takeSign_10 : qd cX4_takeSign 10 (.invokevirtual 81) 3 13 := ⟨by decide +kernel, rfl⟩
theorem D_X4_takeSign_13 : qd cX4_takeSign 13 (.ireturn) 1 14 := ⟨by decide +kernel, rfl⟩
theorem D_X4_takeSign_14 : qd cX4_takeSign 14 (.aload_n 0) 1 15 := ⟨by decide +kernel, rfl⟩
theorem D_X4_takeSign_15 : qd cX4_takeSign 15 (.invokevirtual 32) 3 18 := ⟨by decide +kernel, rfl⟩
theorem D_X4_takeSign_18 : qd cX4_takeSign 18 (.iconst 1) 1 19 := ⟨by decide +kernel, rfl⟩
theorem D_X4_takeSign_19 : qd cX4_takeSign 19 (.ireturn) 1 20 := ⟨by decide +kernel, rfl⟩
theorem D_X5_allMemory_0 : qd cX5_allMemory 0 (.iconst 0) 1 1 := ⟨by decide +kernel, rfl⟩
theorem D_X5_allMemory_1 : qd cX5_allMemory 1 (.istore_n 1) 1 2 := ⟨by decide +kernel, rfl⟩
theorem D_X5_allMemory_2 : qd cX5_allMemory 2 (.iconst 0) 1 3 := ⟨by decide +kernel, rfl⟩
theorem D_X5_allMemory_3 : qd cX5_allMemory 3 (.istore_n 2) 1 4 := ⟨by decide +kernel, rfl⟩
theorem D_X5_allMemory_4 : qd cX5_allMemory 4 (.iload_n 2) 1 5 := ⟨by decide +kernel, rfl⟩
theorem D_X5_allMemory_5 : qd cX5_allMemory 5 (.iconst 5) 1 6 := ⟨by decide +kernel, rfl⟩
theorem D_X5_allMemory_6 : qj cX5_allMemory 6 (.if_icmp .ge 17) (17) 9 23 := ⟨by decide +kernel, rfl, by decide⟩
theorem D_X5_allMemory_9 : qd cX5_allMemory 9 (.iload_n 1) 1 10 := ⟨by decide +kernel, rfl⟩
theorem D_X5_allMemory_10 : qd cX5_allMemory 10 (.aload_n 0) 1 11 := ⟨by decide +kernel, rfl⟩
theorem D_X5_allMemory_11 : qd cX5_allMemory 11 (.iload_n 2) 1 12 := ⟨by decide +kernel, rfl⟩
theorem D_X5_allMemory_12 : qd cX5_allMemory 12 (.invokevirtual 63) 3 15 := ⟨by decide +kernel, rfl⟩
theorem D_X5_allMemory_15 : qd cX5_allMemory 15 (.iadd) 1 16 := ⟨by decide +kernel, rfl⟩
theorem D_X5_allMemory_16 : qd cX5_allMemory 16 (.istore_n 1) 1 17 := ⟨by decide +kernel, rfl⟩
theorem D_X5_allMemory_17 : qd cX5_allMemory 17 (.iinc 2 1) 3 20 := ⟨by decide +kernel, rfl⟩
theorem D_X5_allMemory_20 : qj cX5_allMemory 20 (.goto (-16)) (-16) 23 4 := ⟨by decide +kernel, rfl, by decide⟩
theorem D_X5_allMemory_23 : qd cX5_allMemory 23 (.iload_n 1) 1 24 := ⟨by decide +kernel, rfl⟩
theorem D_X5_allMemory_24 : qd cX5_allMemory 24 (.ireturn) 1 25 := ⟨by decide +kernel, rfl⟩
theorem D_X5_allMemoryOf_0 : qd cX5_allMemoryOf 0 (.iconst 0) 1 1 := ⟨by decide +kernel, rfl⟩
theorem D_X5_allMemoryOf_1 : qd cX5_allMemoryOf 1 (.istore_n 2) 1 2 := ⟨by decide +kernel, rfl⟩
theorem D_X5_allMemoryOf_2 : qd cX5_allMemoryOf 2 (.iconst 0) 1 3 := ⟨by decide +kernel, rfl⟩
theorem D_X5_allMemoryOf_3 : qd cX5_allMemoryOf 3 (.istore_n 3) 1 4 := ⟨by decide +kernel, rfl⟩
theorem D_X5_allMemoryOf_4 : qd cX5_allMemoryOf 4 (.iload_n 3) 1 5 := ⟨by decide +kernel, rfl⟩
theorem D_X5_allMemoryOf_5 : qd cX5_allMemoryOf 5 (.bipush 6) 2 7 := ⟨by decide +kernel, rfl⟩
theorem D_X5_allMemoryOf_7 : qj cX5_allMemoryOf 7 (.if_icmp .ge 18) (18) 10 25 := ⟨by decide +kernel, rfl, by decide⟩
theorem D_X5_allMemoryOf_10 : qd cX5_allMemoryOf 10 (.iload_n 2) 1 11 := ⟨by decide +kernel, rfl⟩
theorem D_X5_allMemoryOf_11 : qd cX5_allMemoryOf 11 (.aload_n 0) 1 12 := ⟨by decide +kernel, rfl⟩
theorem D_X5_allMemoryOf_12 : qd cX5_allMemoryOf 12 (.iload_n 1) 1 13 := ⟨by decide +kernel, rfl⟩
theorem D_X5_allMemoryOf_13 : qd cX5_allMemoryOf 13 (.iload_n 3) 1 14 := ⟨by decide +kernel, rfl⟩
theorem D_X5_allMemoryOf_14 : qd cX5_allMemoryOf 14 (.invokevirtual 59) 3 17 := ⟨by decide +kernel, rfl⟩
theorem D_X5_allMemoryOf_17 : qd cX5_allMemoryOf 17 (.iadd) 1 18 := ⟨by decide +kernel, rfl⟩
theorem D_X5_allMemoryOf_18 : qd cX5_allMemoryOf 18 (.istore_n 2) 1 19 := ⟨by decide +kernel, rfl⟩
theorem D_X5_allMemoryOf_19 : qd cX5_allMemoryOf 19 (.iinc 3 1) 3 22 := ⟨by decide +kernel, rfl⟩
theorem D_X5_allMemoryOf_22 : qj cX5_allMemoryOf 22 (.goto (-18)) (-18) 25 4 := ⟨by decide +kernel, rfl, by decide⟩
theorem D_X5_allMemoryOf_25 : qd cX5_allMemoryOf 25 (.iload_n 2) 1 26 := ⟨by decide +kernel, rfl⟩
theorem D_X5_allMemoryOf_26 : qd cX5_allMemoryOf 26 (.ireturn) 1 27 := ⟨by decide +kernel, rfl⟩
theorem D_X5_become_0 : qd cX5_become 0 (.aload_n 0) 1 1 := ⟨by decide +kernel, rfl⟩
theorem D_X5_become_1 : qd cX5_become 1 (.aload_n 1) 1 2 := ⟨by decide +kernel, rfl⟩
theorem D_X5_become_2 : qd cX5_become 2 (.getfield 18) 3 5 := ⟨by decide +kernel, rfl⟩
theorem D_X5_become_5 : qd cX5_become 5 (.putfield 18) 3 8 := ⟨by decide +kernel, rfl⟩
theorem D_X5_become_8 : qd cX5_become 8 (.aload_n 0) 1 9 := ⟨by decide +kernel, rfl⟩
theorem D_X5_become_9 : qd cX5_become 9 (.aload_n 1) 1 10 := ⟨by decide +kernel, rfl⟩
theorem D_X5_become_10 : qd cX5_become 10 (.getfield 22) 3 13 := ⟨by decide +kernel, rfl⟩
theorem D_X5_become_13 : qd cX5_become 13 (.putfield 22) 3 16 := ⟨by decide +kernel, rfl⟩
theorem D_X5_become_16 : qd cX5_become 16 (.aload_n 0) 1 17 := ⟨by decide +kernel, rfl⟩
theorem D_X5_become_17 : qd cX5_become 17 (.aload_n 1) 1 18 := ⟨by decide +kernel, rfl⟩
theorem D_X5_become_18 : qd cX5_become 18 (.getfield 25) 3 21 := ⟨by decide +kernel, rfl⟩
theorem D_X5_become_21 : qd cX5_become 21 (.putfield 25) 3 24 := ⟨by decide +kernel, rfl⟩
theorem D_X5_become_24 : qd cX5_become 24 (.aload_n 0) 1 25 := ⟨by decide +kernel, rfl⟩
theorem D_X5_become_25 : qd cX5_become 25 (.aload_n 1) 1 26 := ⟨by decide +kernel, rfl⟩
theorem D_X5_become_26 : qd cX5_become 26 (.getfield 28) 3 29 := ⟨by decide +kernel, rfl⟩
theorem D_X5_become_29 : qd cX5_become 29 (.putfield 28) 3 32 := ⟨by decide +kernel, rfl⟩
theorem D_X5_become_32 : qd cX5_become 32 (.aload_n 0) 1 33 := ⟨by decide +kernel, rfl⟩
theorem D_X5_become_33 : qd cX5_become 33 (.aload_n 1) 1 34 := ⟨by decide +kernel, rfl⟩
theorem D_X5_become_34 : qd cX5_become 34 (.getfield 31) 3 37 := ⟨by decide +kernel, rfl⟩
theorem D_X5_become_37 : qd cX5_become 37 (.putfield 31) 3 40 := ⟨by decide +kernel, rfl⟩
theorem D_X5_become_40 : qd cX5_become 40 (.aload_n 0) 1 41 := ⟨by decide +kernel, rfl⟩
theorem D_X5_become_41 : qd cX5_become 41 (.aload_n 1) 1 42 := ⟨by decide +kernel, rfl⟩
theorem D_X5_become_42 : qd cX5_become 42 (.getfield 34) 3 45 := ⟨by decide +kernel, rfl⟩
theorem D_X5_become_45 : qd cX5_become 45 (.putfield 34) 3 48 := ⟨by decide +kernel, rfl⟩
theorem D_X5_become_48 : qd cX5_become 48 (.aload_n 0) 1 49 := ⟨by decide +kernel, rfl⟩
theorem D_X5_become_49 : qd cX5_become 49 (.aload_n 1) 1 50 := ⟨by decide +kernel, rfl⟩
theorem D_X5_become_50 : qd cX5_become 50 (.getfield 37) 3 53 := ⟨by decide +kernel, rfl⟩
theorem D_X5_become_53 : qd cX5_become 53 (.putfield 37) 3 56 := ⟨by decide +kernel, rfl⟩
theorem D_X5_become_56 : qd cX5_become 56 (.aload_n 0) 1 57 := ⟨by decide +kernel, rfl⟩
theorem D_X5_become_57 : qd cX5_become 57 (.aload_n 1) 1 58 := ⟨by decide +kernel, rfl⟩
theorem D_X5_become_58 : qd cX5_become 58 (.getfield 40) 3 61 := ⟨by decide +kernel, rfl⟩
theorem D_X5_become_61 : qd cX5_become 61 (.putfield 40) 3 64 := ⟨by decide +kernel, rfl⟩
theorem D_X5_become_64 : qd cX5_become 64 (.aload_n 1) 1 65 := ⟨by decide +kernel, rfl⟩
theorem D_X5_become_65 : qd cX5_become 65 (.getfield 9) 3 68 := ⟨by decide +kernel, rfl⟩
theorem D_X5_become_68 : qd cX5_become 68 (.iconst 0) 1 69 := ⟨by decide +kernel, rfl⟩
theorem D_X5_become_69 : qd cX5_become 69 (.aload_n 0) 1 70 := ⟨by decide +kernel, rfl⟩
theorem D_X5_become_70 : qd cX5_become 70 (.getfield 9) 3 73 := ⟨by decide +kernel, rfl⟩
theorem D_X5_become_73 : qd cX5_become 73 (.iconst 0) 1 74 := ⟨by decide +kernel, rfl⟩
theorem D_X5_become_74 : qd cX5_become 74 (.iconst 5) 1 75 := ⟨by decide +kernel, rfl⟩
theorem D_X5_become_75 : qd cX5_become 75 (.invokestatic 49) 3 78 := ⟨by decide +kernel, rfl⟩
theorem D_X5_become_78 : qd cX5_become 78 (.aload_n 1) 1 79 := ⟨by decide +kernel, rfl⟩
theorem D_X5_become_79 : qd cX5_become 79 (.getfield 15) 3 82 := ⟨by decide +kernel, rfl⟩
theorem D_X5_become_82 : qd cX5_become 82 (.iconst 0) 1 83 := ⟨by decide +kernel, rfl⟩
theorem D_X5_become_83 : qd cX5_become 83 (.aload_n 0) 1 84 := ⟨by decide +kernel, rfl⟩
theorem D_X5_become_84 : qd cX5_become 84 (.getfield 15) 3 87 := ⟨by decide +kernel, rfl⟩
theorem D_X5_become_87 : qd cX5_become 87 (.iconst 0) 1 88 := ⟨by decide +kernel, rfl⟩
theorem D_X5_become_88 : qd cX5_become 88 (.bipush 30) 2 90 := ⟨by decide +kernel, rfl⟩
theorem D_X5_become_90 : qd cX5_become 90 (.invokestatic 49) 3 93 := ⟨by decide +kernel, rfl⟩
theorem D_X5_become_93 : qd cX5_become 93 (.return_) 1 94 := ⟨by decide +kernel, rfl⟩
theorem D_X5_clear_0 : qd cX5_clear 0 (.aload_n 0) 1 1 := ⟨by decide +kernel, rfl⟩
theorem D_X5_clear_1 : qd cX5_clear 1 (.iconst 0) 1 2 := ⟨by decide +kernel, rfl⟩
theorem D_X5_clear_2 : qd cX5_clear 2 (.putfield 18) 3 5 := ⟨by decide +kernel, rfl⟩
theorem D_X5_clear_5 : qd cX5_clear 5 (.aload_n 0) 1 6 := ⟨by decide +kernel, rfl⟩
theorem D_X5_clear_6 : qd cX5_clear 6 (.iconst 0) 1 7 := ⟨by decide +kernel, rfl⟩
theorem D_X5_clear_7 : qd cX5_clear 7 (.putfield 22) 3 10 := ⟨by decide +kernel, rfl⟩
theorem D_X5_clear_10 : qd cX5_clear 10 (.aload_n 0) 1 11 := ⟨by decide +kernel, rfl⟩
theorem D_X5_clear_11 : qd cX5_clear 11 (.iconst 0) 1 12 := ⟨by decide +kernel, rfl⟩
theorem D_X5_clear_12 : qd cX5_clear 12 (.putfield 25) 3 15 := ⟨by decide +kernel, rfl⟩
theorem D_X5_clear_15 : qd cX5_clear 15 (.aload_n 0) 1 16 := ⟨by decide +kernel, rfl⟩
theorem D_X5_clear_16 : qd cX5_clear 16 (.iconst 0) 1 17 := ⟨by decide +kernel, rfl⟩
theorem D_X5_clear_17 : qd cX5_clear 17 (.putfield 28) 3 20 := ⟨by decide +kernel, rfl⟩
theorem D_X5_clear_20 : qd cX5_clear 20 (.aload_n 0) 1 21 := ⟨by decide +kernel, rfl⟩
theorem D_X5_clear_21 : qd cX5_clear 21 (.iconst 0) 1 22 := ⟨by decide +kernel, rfl⟩
theorem D_X5_clear_22 : qd cX5_clear 22 (.putfield 31) 3 25 := ⟨by decide +kernel, rfl⟩
theorem D_X5_clear_25 : qd cX5_clear 25 (.aload_n 0) 1 26 := ⟨by decide +kernel, rfl⟩
theorem D_X5_clear_26 : qd cX5_clear 26 (.iconst 0) 1 27 := ⟨by decide +kernel, rfl⟩
theorem D_X5_clear_27 : qd cX5_clear 27 (.putfield 34) 3 30 := ⟨by decide +kernel, rfl⟩
theorem D_X5_clear_30 : qd cX5_clear 30 (.aload_n 0) 1 31 := ⟨by decide +kernel, rfl⟩
theorem D_X5_clear_31 : qd cX5_clear 31 (.iconst 0) 1 32 := ⟨by decide +kernel, rfl⟩
theorem D_X5_clear_32 : qd cX5_clear 32 (.putfield 37) 3 35 := ⟨by decide +kernel, rfl⟩
theorem D_X5_clear_35 : qd cX5_clear 35 (.aload_n 0) 1 36 := ⟨by decide +kernel, rfl⟩
theorem D_X5_clear_36 : qd cX5_clear 36 (.iconst 0) 1 37 := ⟨by decide +kernel, rfl⟩
theorem D_X5_clear_37 : qd cX5_clear 37 (.putfield 40) 3 40 := ⟨by decide +kernel, rfl⟩
theorem D_X5_clear_40 : qd cX5_clear 40 (.aload_n 0) 1 41 := ⟨by decide +kernel, rfl⟩
theorem D_X5_clear_41 : qd cX5_clear 41 (.getfield 9) 3 44 := ⟨by decide +kernel, rfl⟩
theorem D_X5_clear_44 : qd cX5_clear 44 (.iconst 0) 1 45 := ⟨by decide +kernel, rfl⟩
theorem D_X5_clear_45 : qd cX5_clear 45 (.invokestatic 43) 3 48 := ⟨by decide +kernel, rfl⟩
theorem D_X5_clear_48 : qd cX5_clear 48 (.aload_n 0) 1 49 := ⟨by decide +kernel, rfl⟩
theorem D_X5_clear_49 : qd cX5_clear 49 (.getfield 15) 3 52 := ⟨by decide +kernel, rfl⟩
theorem D_X5_clear_52 : qd cX5_clear 52 (.iconst 0) 1 53 := ⟨by decide +kernel, rfl⟩
theorem D_X5_clear_53 : qd cX5_clear 53 (.invokestatic 43) 3 56 := ⟨by decide +kernel, rfl⟩
theorem D_X5_clear_56 : qd cX5_clear 56 (.return_) 1 57 := ⟨by decide +kernel, rfl⟩
theorem D_X5_clearest_0 : qd cX5_clearest 0 (.ldc 67) 2 2 := ⟨by decide +kernel, rfl⟩
theorem D_X5_clearest_2 : qd cX5_clearest 2 (.istore 4) 2 4 := ⟨by decide +kernel, rfl⟩
theorem D_X5_clearest_4 : qd cX5_clearest 4 (.iload_n 1) 1 5 := ⟨by decide +kernel, rfl⟩
theorem D_X5_clearest_5 : qd cX5_clearest 5 (.iconst 0) 1 6 := ⟨by decide +kernel, rfl⟩
theorem D_X5_clearest_6 : qd cX5_clearest 6 (.invokestatic 55) 3 9 := ⟨by decide +kernel, rfl⟩
theorem D_X5_clearest_9 : qj cX5_clearest 9 (.ifCond .ne 6) (6) 12 15 := ⟨by decide +kernel, rfl, by decide⟩
theorem D_X5_clearest_12 : qd cX5_clearest 12 (.iload 4) 2 14 := ⟨by decide +kernel, rfl⟩
theorem D_X5_clearest_14 : qd cX5_clearest 14 (.ireturn) 1 15 := ⟨by decide +kernel, rfl⟩
theorem D_X5_clearest_15 : qd cX5_clearest 15 (.iload_n 3) 1 16 := ⟨by decide +kernel, rfl⟩
theorem D_X5_clearest_16 : qd cX5_clearest 16 (.iconst 1) 1 17 := ⟨by decide +kernel, rfl⟩
theorem D_X5_clearest_17 : qd cX5_clearest 17 (.isub) 1 18 := ⟨by decide +kernel, rfl⟩
theorem D_X5_clearest_18 : qd cX5_clearest 18 (.istore 5) 2 20 := ⟨by decide +kernel, rfl⟩
theorem D_X5_clearest_20 : qd cX5_clearest 20 (.iconst 0) 1 21 := ⟨by decide +kernel, rfl⟩
theorem D_X5_clearest_21 : qd cX5_clearest 21 (.istore 6) 2 23 := ⟨by decide +kernel, rfl⟩
theorem D_X5_clearest_23 : qd cX5_clearest 23 (.iload 6) 2 25 := ⟨by decide +kernel, rfl⟩
theorem D_X5_clearest_25 : qd cX5_clearest 25 (.bipush 6) 2 27 := ⟨by decide +kernel, rfl⟩
theorem D_X5_clearest_27 : qj cX5_clearest 27 (.if_icmp .ge 47) (47) 30 74 := ⟨by decide +kernel, rfl, by decide⟩
theorem D_X5_clearest_30 : qd cX5_clearest 30 (.aload_n 0) 1 31 := ⟨by decide +kernel, rfl⟩
theorem D_X5_clearest_31 : qd cX5_clearest 31 (.getfield 15) 3 34 := ⟨by decide +kernel, rfl⟩
theorem D_X5_clearest_34 : qd cX5_clearest 34 (.iload_n 1) 1 35 := ⟨by decide +kernel, rfl⟩
theorem D_X5_clearest_35 : qd cX5_clearest 35 (.bipush 6) 2 37 := ⟨by decide +kernel, rfl⟩
theorem D_X5_clearest_37 : qd cX5_clearest 37 (.imul) 1 38 := ⟨by decide +kernel, rfl⟩
theorem D_X5_clearest_38 : qd cX5_clearest 38 (.iload 6) 2 40 := ⟨by decide +kernel, rfl⟩
theorem D_X5_clearest_40 : qd cX5_clearest 40 (.iadd) 1 41 := ⟨by decide +kernel, rfl⟩
theorem D_X5_clearest_41 : qd cX5_clearest 41 (.iaload) 1 42 := ⟨by decide +kernel, rfl⟩
theorem D_X5_clearest_42 : qd cX5_clearest 42 (.istore 7) 2 44 := ⟨by decide +kernel, rfl⟩
theorem D_X5_clearest_44 : qd cX5_clearest 44 (.iload 7) 2 46 := ⟨by decide +kernel, rfl⟩
theorem D_X5_clearest_46 : qd cX5_clearest 46 (.iload 5) 2 48 := ⟨by decide +kernel, rfl⟩
theorem D_X5_clearest_48 : qj cX5_clearest 48 (.if_icmp .le 20) (20) 51 68 := ⟨by decide +kernel, rfl, by decide⟩
theorem D_X5_clearest_51 : qd cX5_clearest 51 (.iload_n 2) 1 52 := ⟨by decide +kernel, rfl⟩
theorem D_X5_clearest_52 : qd cX5_clearest 52 (.iload 6) 2 54 := ⟨by decide +kernel, rfl⟩
theorem D_X5_clearest_54 : qd cX5_clearest 54 (.invokestatic 68) 3 57 := ⟨by decide +kernel, rfl⟩
theorem D_X5_clearest_57 : qj cX5_clearest 57 (.ifCond .eq 11) (11) 60 68 := ⟨by decide +kernel, rfl, by decide⟩
theorem D_X5_clearest_60 : qd cX5_clearest 60 (.iload 6) 2 62 := ⟨by decide +kernel, rfl⟩
theorem D_X5_clearest_62 : qd cX5_clearest 62 (.istore 4) 2 64 := ⟨by decide +kernel, rfl⟩
theorem D_X5_clearest_64 : qd cX5_clearest 64 (.iload 7) 2 66 := ⟨by decide +kernel, rfl⟩
theorem D_X5_clearest_66 : qd cX5_clearest 66 (.istore 5) 2 68 := ⟨by decide +kernel, rfl⟩
theorem D_X5_clearest_68 : qd cX5_clearest 68 (.iinc 6 1) 3 71 := ⟨by decide +kernel, rfl⟩
theorem D_X5_clearest_71 : qj cX5_clearest 71 (.goto (-48)) (-48) 74 23 := ⟨by decide +kernel, rfl, by decide⟩
theorem D_X5_clearest_74 : qd cX5_clearest 74 (.iload 4) 2 76 := ⟨by decide +kernel, rfl⟩
theorem D_X5_clearest_76 : qd cX5_clearest 76 (.ireturn) 1 77 := ⟨by decide +kernel, rfl⟩
theorem D_X5_digUndreamt_0 : qd cX5_digUndreamt 0 (.iconst 0) 1 1 := ⟨by decide +kernel, rfl⟩
theorem D_X5_digUndreamt_1 : qd cX5_digUndreamt 1 (.istore_n 1) 1 2 := ⟨by decide +kernel, rfl⟩
theorem D_X5_digUndreamt_2 : qd cX5_digUndreamt 2 (.iconst 0) 1 3 := ⟨by decide +kernel, rfl⟩
theorem D_X5_digUndreamt_3 : qd cX5_digUndreamt 3 (.istore_n 2) 1 4 := ⟨by decide +kernel, rfl⟩
theorem D_X5_digUndreamt_4 : qd cX5_digUndreamt 4 (.iload_n 2) 1 5 := ⟨by decide +kernel, rfl⟩
theorem D_X5_digUndreamt_5 : qd cX5_digUndreamt 5 (.iconst 5) 1 6 := ⟨by decide +kernel, rfl⟩
theorem D_X5_digUndreamt_6 : qj cX5_digUndreamt 6 (.if_icmp .ge 17) (17) 9 23 := ⟨by decide +kernel, rfl, by decide⟩
theorem D_X5_digUndreamt_9 : qd cX5_digUndreamt 9 (.iload_n 1) 1 10 := ⟨by decide +kernel, rfl⟩
theorem D_X5_digUndreamt_10 : qd cX5_digUndreamt 10 (.aload_n 0) 1 11 := ⟨by decide +kernel, rfl⟩
theorem D_X5_digUndreamt_11 : qd cX5_digUndreamt 11 (.iload_n 2) 1 12 := ⟨by decide +kernel, rfl⟩
theorem D_X5_digUndreamt_12 : qd cX5_digUndreamt 12 (.invokevirtual 88) 3 15 := ⟨by decide +kernel, rfl⟩
theorem D_X5_digUndreamt_15 : qd cX5_digUndreamt 15 (.ior) 1 16 := ⟨by decide +kernel, rfl⟩
theorem D_X5_digUndreamt_16 : qd cX5_digUndreamt 16 (.istore_n 1) 1 17 := ⟨by decide +kernel, rfl⟩
theorem D_X5_digUndreamt_17 : qd cX5_digUndreamt 17 (.iinc 2 1) 3 20 := ⟨by decide +kernel, rfl⟩
theorem D_X5_digUndreamt_20 : qj cX5_digUndreamt 20 (.goto (-16)) (-16) 23 4 := ⟨by decide +kernel, rfl, by decide⟩
theorem D_X5_digUndreamt_23 : qd cX5_digUndreamt 23 (.aload_n 0) 1 24 := ⟨by decide +kernel, rfl⟩
theorem D_X5_digUndreamt_24 : qd cX5_digUndreamt 24 (.getfield 34) 3 27 := ⟨by decide +kernel, rfl⟩
theorem D_X5_digUndreamt_27 : qd cX5_digUndreamt 27 (.iload_n 1) 1 28 := ⟨by decide +kernel, rfl⟩
theorem D_X5_digUndreamt_28 : qd cX5_digUndreamt 28 (.iconst (-1)) 1 29 := ⟨by decide +kernel, rfl⟩
theorem D_X5_digUndreamt_29 : qd cX5_digUndreamt 29 (.ixor) 1 30 := ⟨by decide +kernel, rfl⟩
theorem D_X5_digUndreamt_30 : qd cX5_digUndreamt 30 (.iand) 1 31 := ⟨by decide +kernel, rfl⟩
theorem D_X5_digUndreamt_31 : qd cX5_digUndreamt 31 (.istore_n 2) 1 32 := ⟨by decide +kernel, rfl⟩
theorem D_X5_digUndreamt_32 : qd cX5_digUndreamt 32 (.aload_n 0) 1 33 := ⟨by decide +kernel, rfl⟩
theorem D_X5_digUndreamt_33 : qd cX5_digUndreamt 33 (.dup) 1 34 := ⟨by decide +kernel, rfl⟩
theorem D_X5_digUndreamt_34 : qd cX5_digUndreamt 34 (.getfield 34) 3 37 := ⟨by decide +kernel, rfl⟩
theorem D_X5_digUndreamt_37 : qd cX5_digUndreamt 37 (.iload_n 1) 1 38 := ⟨by decide +kernel, rfl⟩
theorem D_X5_digUndreamt_38 : qd cX5_digUndreamt 38 (.iand) 1 39 := ⟨by decide +kernel, rfl⟩
theorem D_X5_digUndreamt_39 : qd cX5_digUndreamt 39 (.putfield 34) 3 42 := ⟨by decide +kernel, rfl⟩
theorem D_X5_digUndreamt_42 : qd cX5_digUndreamt 42 (.iconst 0) 1 43 := ⟨by decide +kernel, rfl⟩
theorem D_X5_digUndreamt_43 : qd cX5_digUndreamt 43 (.istore_n 3) 1 44 := ⟨by decide +kernel, rfl⟩
theorem D_X5_digUndreamt_44 : qd cX5_digUndreamt 44 (.iload_n 3) 1 45 := ⟨by decide +kernel, rfl⟩
theorem D_X5_digUndreamt_45 : qd cX5_digUndreamt 45 (.bipush 6) 2 47 := ⟨by decide +kernel, rfl⟩
theorem D_X5_digUndreamt_47 : qj cX5_digUndreamt 47 (.if_icmp .ge 22) (22) 50 69 := ⟨by decide +kernel, rfl, by decide⟩
theorem D_X5_digUndreamt_50 : qd cX5_digUndreamt 50 (.iload_n 2) 1 51 := ⟨by decide +kernel, rfl⟩
theorem D_X5_digUndreamt_51 : qd cX5_digUndreamt 51 (.iload_n 3) 1 52 := ⟨by decide +kernel, rfl⟩
theorem D_X5_digUndreamt_52 : qd cX5_digUndreamt 52 (.invokestatic 68) 3 55 := ⟨by decide +kernel, rfl⟩
theorem D_X5_digUndreamt_55 : qj cX5_digUndreamt 55 (.ifCond .eq 8) (8) 58 63 := ⟨by decide +kernel, rfl, by decide⟩
theorem D_X5_digUndreamt_58 : qd cX5_digUndreamt 58 (.aload_n 0) 1 59 := ⟨by decide +kernel, rfl⟩
theorem D_X5_digUndreamt_59 : qd cX5_digUndreamt 59 (.iload_n 3) 1 60 := ⟨by decide +kernel, rfl⟩
theorem D_X5_digUndreamt_60 : qd cX5_digUndreamt 60 (.invokevirtual 97) 3 63 := ⟨by decide +kernel, rfl⟩
theorem D_X5_digUndreamt_63 : qd cX5_digUndreamt 63 (.iinc 3 1) 3 66 := ⟨by decide +kernel, rfl⟩
theorem D_X5_digUndreamt_66 : qj cX5_digUndreamt 66 (.goto (-22)) (-22) 69 44 := ⟨by decide +kernel, rfl, by decide⟩
theorem D_X5_digUndreamt_69 : qd cX5_digUndreamt 69 (.return_) 1 70 := ⟨by decide +kernel, rfl⟩
theorem D_X5_dreamersOf_0 : qd cX5_dreamersOf 0 (.iconst 0) 1 1 := ⟨by decide +kernel, rfl⟩
theorem D_X5_dreamersOf_1 : qd cX5_dreamersOf 1 (.istore_n 2) 1 2 := ⟨by decide +kernel, rfl⟩
theorem D_X5_dreamersOf_2 : qd cX5_dreamersOf 2 (.iconst 0) 1 3 := ⟨by decide +kernel, rfl⟩
theorem D_X5_dreamersOf_3 : qd cX5_dreamersOf 3 (.istore_n 3) 1 4 := ⟨by decide +kernel, rfl⟩
theorem D_X5_dreamersOf_4 : qd cX5_dreamersOf 4 (.iload_n 3) 1 5 := ⟨by decide +kernel, rfl⟩
theorem D_X5_dreamersOf_5 : qd cX5_dreamersOf 5 (.iconst 5) 1 6 := ⟨by decide +kernel, rfl⟩
theorem D_X5_dreamersOf_6 : qj cX5_dreamersOf 6 (.if_icmp .ge 28) (28) 9 34 := ⟨by decide +kernel, rfl, by decide⟩
theorem D_X5_dreamersOf_9 : qd cX5_dreamersOf 9 (.aload_n 0) 1 10 := ⟨by decide +kernel, rfl⟩
theorem D_X5_dreamersOf_10 : qd cX5_dreamersOf 10 (.iload_n 3) 1 11 := ⟨by decide +kernel, rfl⟩
theorem D_X5_dreamersOf_11 : qd cX5_dreamersOf 11 (.invokevirtual 88) 3 14 := ⟨by decide +kernel, rfl⟩
theorem D_X5_dreamersOf_14 : qd cX5_dreamersOf 14 (.iload_n 1) 1 15 := ⟨by decide +kernel, rfl⟩
theorem D_X5_dreamersOf_15 : qd cX5_dreamersOf 15 (.invokestatic 68) 3 18 := ⟨by decide +kernel, rfl⟩
theorem D_X5_dreamersOf_18 : qj cX5_dreamersOf 18 (.ifCond .eq 10) (10) 21 28 := ⟨by decide +kernel, rfl, by decide⟩
theorem D_X5_dreamersOf_21 : qd cX5_dreamersOf 21 (.iload_n 2) 1 22 := ⟨by decide +kernel, rfl⟩
theorem D_X5_dreamersOf_22 : qd cX5_dreamersOf 22 (.iload_n 3) 1 23 := ⟨by decide +kernel, rfl⟩
theorem D_X5_dreamersOf_23 : qd cX5_dreamersOf 23 (.invokestatic 78) 3 26 := ⟨by decide +kernel, rfl⟩
theorem D_X5_dreamersOf_26 : qd cX5_dreamersOf 26 (.ior) 1 27 := ⟨by decide +kernel, rfl⟩
theorem D_X5_dreamersOf_27 : qd cX5_dreamersOf 27 (.istore_n 2) 1 28 := ⟨by decide +kernel, rfl⟩
theorem D_X5_dreamersOf_28 : qd cX5_dreamersOf 28 (.iinc 3 1) 3 31 := ⟨by decide +kernel, rfl⟩
theorem D_X5_dreamersOf_31 : qj cX5_dreamersOf 31 (.goto (-27)) (-27) 34 4 := ⟨by decide +kernel, rfl, by decide⟩
theorem D_X5_dreamersOf_34 : qd cX5_dreamersOf 34 (.iload_n 2) 1 35 := ⟨by decide +kernel, rfl⟩
theorem D_X5_dreamersOf_35 : qd cX5_dreamersOf 35 (.ireturn) 1 36 := ⟨by decide +kernel, rfl⟩
theorem D_X5_dreamsOf_0 : qd cX5_dreamsOf 0 (.iload_n 1) 1 1 := ⟨by decide +kernel, rfl⟩
theorem D_X5_dreamsOf_1 : qd cX5_dreamsOf 1 (.iconst 0) 1 2 := ⟨by decide +kernel, rfl⟩
theorem D_X5_dreamsOf_2 : qd cX5_dreamsOf 2 (.invokestatic 55) 3 5 := ⟨by decide +kernel, rfl⟩
theorem D_X5_dreamsOf_5 : qj cX5_dreamsOf 5 (.ifCond .ne 5) (5) 8 10 := ⟨by decide +kernel, rfl, by decide⟩
theorem D_X5_dreamsOf_8 : qd cX5_dreamsOf 8 (.iconst 0) 1 9 := ⟨by decide +kernel, rfl⟩
theorem D_X5_dreamsOf_9 : qd cX5_dreamsOf 9 (.ireturn) 1 10 := ⟨by decide +kernel, rfl⟩
theorem D_X5_dreamsOf_10 : qd cX5_dreamsOf 10 (.aload_n 0) 1 11 := ⟨by decide +kernel, rfl⟩
theorem D_X5_dreamsOf_11 : qd cX5_dreamsOf 11 (.getfield 40) 3 14 := ⟨by decide +kernel, rfl⟩
theorem D_X5_dreamsOf_14 : qd cX5_dreamsOf 14 (.iload_n 1) 1 15 := ⟨by decide +kernel, rfl⟩
theorem D_X5_dreamsOf_15 : qd cX5_dreamsOf 15 (.invokestatic 68) 3 18 := ⟨by decide +kernel, rfl⟩
theorem D_X5_dreamsOf_18 : qj cX5_dreamsOf 18 (.ifCond .eq 16) (16) 21 34 := ⟨by decide +kernel, rfl, by decide⟩
theorem D_X5_dreamsOf_21 : qd cX5_dreamsOf 21 (.aload_n 0) 1 22 := ⟨by decide +kernel, rfl⟩
theorem D_X5_dreamsOf_22 : qd cX5_dreamsOf 22 (.getfield 34) 3 25 := ⟨by decide +kernel, rfl⟩
theorem D_X5_dreamsOf_25 : qd cX5_dreamsOf 25 (.aload_n 0) 1 26 := ⟨by decide +kernel, rfl⟩
theorem D_X5_dreamsOf_26 : qd cX5_dreamsOf 26 (.iload_n 1) 1 27 := ⟨by decide +kernel, rfl⟩
theorem D_X5_dreamsOf_27 : qd cX5_dreamsOf 27 (.invokevirtual 71) 3 30 := ⟨by decide +kernel, rfl⟩
theorem D_X5_dreamsOf_30 : qd cX5_dreamsOf 30 (.iand) 1 31 := ⟨by decide +kernel, rfl⟩
theorem D_X5_dreamsOf_31 : qj cX5_dreamsOf 31 (.goto 4) (4) 34 35 := ⟨by decide +kernel, rfl, by decide⟩
theorem D_X5_dreamsOf_34 : qd cX5_dreamsOf 34 (.iconst 0) 1 35 := ⟨by decide +kernel, rfl⟩
theorem D_X5_dreamsOf_35 : qd cX5_dreamsOf 35 (.istore_n 2) 1 36 := ⟨by decide +kernel, rfl⟩
theorem D_X5_dreamsOf_36 : qd cX5_dreamsOf 36 (.aload_n 0) 1 37 := ⟨by decide +kernel, rfl⟩
theorem D_X5_dreamsOf_37 : qd cX5_dreamsOf 37 (.iload_n 1) 1 38 := ⟨by decide +kernel, rfl⟩
theorem D_X5_dreamsOf_38 : qd cX5_dreamsOf 38 (.aload_n 0) 1 39 := ⟨by decide +kernel, rfl⟩
theorem D_X5_dreamsOf_39 : qd cX5_dreamsOf 39 (.getfield 34) 3 42 := ⟨by decide +kernel, rfl⟩
theorem D_X5_dreamsOf_42 : qd cX5_dreamsOf 42 (.aload_n 0) 1 43 := ⟨by decide +kernel, rfl⟩
theorem D_X5_dreamsOf_43 : qd cX5_dreamsOf 43 (.getfield 22) 3 46 := ⟨by decide +kernel, rfl⟩
theorem D_X5_dreamsOf_46 : qd cX5_dreamsOf 46 (.invokevirtual 74) 3 49 := ⟨by decide +kernel, rfl⟩
theorem D_X5_dreamsOf_49 : qd cX5_dreamsOf 49 (.istore_n 3) 1 50 := ⟨by decide +kernel, rfl⟩
theorem D_X5_dreamsOf_50 : qd cX5_dreamsOf 50 (.aload_n 0) 1 51 := ⟨by decide +kernel, rfl⟩
theorem D_X5_dreamsOf_51 : qd cX5_dreamsOf 51 (.getfield 9) 3 54 := ⟨by decide +kernel, rfl⟩
theorem D_X5_dreamsOf_54 : qd cX5_dreamsOf 54 (.iload_n 1) 1 55 := ⟨by decide +kernel, rfl⟩
theorem D_X5_dreamsOf_55 : qd cX5_dreamsOf 55 (.iaload) 1 56 := ⟨by decide +kernel, rfl⟩
theorem D_X5_dreamsOf_56 : qd cX5_dreamsOf 56 (.tableswitch 110 1 5 #[36, 43, 74, 85, 95]) 36 92 := ⟨by decide +kernel, rfl⟩
theorem D_X5_dreamsOf_92 : qd cX5_dreamsOf 92 (.iload_n 2) 1 93 := ⟨by decide +kernel, rfl⟩
theorem D_X5_dreamsOf_93 : qd cX5_dreamsOf 93 (.iload_n 3) 1 94 := ⟨by decide +kernel, rfl⟩
theorem D_X5_dreamsOf_94 : qd cX5_dreamsOf 94 (.invokestatic 78) 3 97 := ⟨by decide +kernel, rfl⟩
theorem D_X5_dreamsOf_97 : qd cX5_dreamsOf 97 (.ior) 1 98 := ⟨by decide +kernel, rfl⟩
theorem D_X5_dreamsOf_98 : qd cX5_dreamsOf 98 (.ireturn) 1 99 := ⟨by decide +kernel, rfl⟩
theorem D_X5_dreamsOf_99 : qd cX5_dreamsOf 99 (.iload_n 2) 1 100 := ⟨by decide +kernel, rfl⟩
theorem D_X5_dreamsOf_100 : qd cX5_dreamsOf 100 (.iload_n 3) 1 101 := ⟨by decide +kernel, rfl⟩
theorem D_X5_dreamsOf_101 : qd cX5_dreamsOf 101 (.invokestatic 78) 3 104 := ⟨by decide +kernel, rfl⟩
theorem D_X5_dreamsOf_104 : qd cX5_dreamsOf 104 (.ior) 1 105 := ⟨by decide +kernel, rfl⟩
theorem D_X5_dreamsOf_105 : qd cX5_dreamsOf 105 (.aload_n 0) 1 106 := ⟨by decide +kernel, rfl⟩
theorem D_X5_dreamsOf_106 : qd cX5_dreamsOf 106 (.iload_n 1) 1 107 := ⟨by decide +kernel, rfl⟩
theorem D_X5_dreamsOf_107 : qd cX5_dreamsOf 107 (.aload_n 0) 1 108 := ⟨by decide +kernel, rfl⟩
theorem D_X5_dreamsOf_108 : qd cX5_dreamsOf 108 (.getfield 34) 3 111 := ⟨by decide +kernel, rfl⟩
theorem D_X5_dreamsOf_111 : qd cX5_dreamsOf 111 (.iload_n 3) 1 112 := ⟨by decide +kernel, rfl⟩
theorem D_X5_dreamsOf_112 : qd cX5_dreamsOf 112 (.invokestatic 78) 3 115 := ⟨by decide +kernel, rfl⟩
theorem D_X5_dreamsOf_115 : qd cX5_dreamsOf 115 (.iconst (-1)) 1 116 := ⟨by decide +kernel, rfl⟩
theorem D_X5_dreamsOf_116 : qd cX5_dreamsOf 116 (.ixor) 1 117 := ⟨by decide +kernel, rfl⟩
theorem D_X5_dreamsOf_117 : qd cX5_dreamsOf 117 (.iand) 1 118 := ⟨by decide +kernel, rfl⟩
theorem D_X5_dreamsOf_118 : qd cX5_dreamsOf 118 (.aload_n 0) 1 119 := ⟨by decide +kernel, rfl⟩
theorem D_X5_dreamsOf_119 : qd cX5_dreamsOf 119 (.getfield 22) 3 122 := ⟨by decide +kernel, rfl⟩
theorem D_X5_dreamsOf_122 : qd cX5_dreamsOf 122 (.invokevirtual 74) 3 125 := ⟨by decide +kernel, rfl⟩
theorem D_X5_dreamsOf_125 : qd cX5_dreamsOf 125 (.invokestatic 78) 3 128 := ⟨by decide +kernel, rfl⟩
theorem D_X5_dreamsOf_128 : qd cX5_dreamsOf 128 (.ior) 1 129 := ⟨by decide +kernel, rfl⟩
theorem D_X5_dreamsOf_129 : qd cX5_dreamsOf 129 (.ireturn) 1 130 := ⟨by decide +kernel, rfl⟩
theorem D_X5_dreamsOf_130 : qd cX5_dreamsOf 130 (.iload_n 2) 1 131 := ⟨by decide +kernel, rfl⟩
theorem D_X5_dreamsOf_131 : qd cX5_dreamsOf 131 (.aload_n 0) 1 132 := ⟨by decide +kernel, rfl⟩
theorem D_X5_dreamsOf_132 : qd cX5_dreamsOf 132 (.iload_n 3) 1 133 := ⟨by decide +kernel, rfl⟩
theorem D_X5_dreamsOf_133 : qd cX5_dreamsOf 133 (.invokevirtual 81) 3 136 := ⟨by decide +kernel, rfl⟩
theorem D_X5_dreamsOf_136 : qd cX5_dreamsOf 136 (.invokestatic 78) 3 139 := ⟨by decide +kernel, rfl⟩
theorem D_X5_dreamsOf_139 : qd cX5_dreamsOf 139 (.ior) 1 140 := ⟨by decide +kernel, rfl⟩
theorem D_X5_dreamsOf_140 : qd cX5_dreamsOf 140 (.ireturn) 1 141 := ⟨by decide +kernel, rfl⟩
theorem D_X5_dreamsOf_141 : qd cX5_dreamsOf 141 (.iload_n 2) 1 142 := ⟨by decide +kernel, rfl⟩
theorem D_X5_dreamsOf_142 : qd cX5_dreamsOf 142 (.aload_n 0) 1 143 := ⟨by decide +kernel, rfl⟩
theorem D_X5_dreamsOf_143 : qd cX5_dreamsOf 143 (.invokevirtual 84) 3 146 := ⟨by decide +kernel, rfl⟩
theorem D_X5_dreamsOf_146 : qd cX5_dreamsOf 146 (.invokestatic 78) 3 149 := ⟨by decide +kernel, rfl⟩
theorem D_X5_dreamsOf_149 : qd cX5_dreamsOf 149 (.ior) 1 150 := ⟨by decide +kernel, rfl⟩
theorem D_X5_dreamsOf_150 : qd cX5_dreamsOf 150 (.ireturn) 1 151 := ⟨by decide +kernel, rfl⟩
theorem D_X5_dreamsOf_151 : qd cX5_dreamsOf 151 (.iload_n 2) 1 152 := ⟨by decide +kernel, rfl⟩
theorem D_X5_dreamsOf_152 : qd cX5_dreamsOf 152 (.aload_n 0) 1 153 := ⟨by decide +kernel, rfl⟩
theorem D_X5_dreamsOf_153 : qd cX5_dreamsOf 153 (.invokevirtual 84) 3 156 := ⟨by decide +kernel, rfl⟩
theorem D_X5_dreamsOf_156 : qd cX5_dreamsOf 156 (.invokestatic 78) 3 159 := ⟨by decide +kernel, rfl⟩
theorem D_X5_dreamsOf_159 : qd cX5_dreamsOf 159 (.ior) 1 160 := ⟨by decide +kernel, rfl⟩
theorem D_X5_dreamsOf_160 : qd cX5_dreamsOf 160 (.iconst 0) 1 161 := ⟨by decide +kernel, rfl⟩
theorem D_X5_dreamsOf_161 : qd cX5_dreamsOf 161 (.invokestatic 78) 3 164 := ⟨by decide +kernel, rfl⟩
theorem D_X5_dreamsOf_164 : qd cX5_dreamsOf 164 (.ior) 1 165 := ⟨by decide +kernel, rfl⟩
theorem D_X5_dreamsOf_165 : qd cX5_dreamsOf 165 (.ireturn) 1 166 := ⟨by decide +kernel, rfl⟩
theorem D_X5_dreamsOf_166 : qd cX5_dreamsOf 166 (.iconst 0) 1 167 := ⟨by decide +kernel, rfl⟩
theorem D_X5_dreamsOf_167 : qd cX5_dreamsOf 167 (.ireturn) 1 168 := ⟨by decide +kernel, rfl⟩
theorem D_X5_endYear_0 : qd cX5_endYear 0 (.iconst 0) 1 1 := ⟨by decide +kernel, rfl⟩
theorem D_X5_endYear_1 : qd cX5_endYear 1 (.istore_n 1) 1 2 := ⟨by decide +kernel, rfl⟩
theorem D_X5_endYear_2 : qd cX5_endYear 2 (.iload_n 1) 1 3 := ⟨by decide +kernel, rfl⟩
theorem D_X5_endYear_3 : qd cX5_endYear 3 (.iconst 5) 1 4 := ⟨by decide +kernel, rfl⟩
theorem D_X5_endYear_4 : qj cX5_endYear 4 (.if_icmp .ge 25) (25) 7 29 := ⟨by decide +kernel, rfl, by decide⟩
theorem D_X5_endYear_7 : qd cX5_endYear 7 (.aload_n 0) 1 8 := ⟨by decide +kernel, rfl⟩
theorem D_X5_endYear_8 : qd cX5_endYear 8 (.getfield 37) 3 11 := ⟨by decide +kernel, rfl⟩
theorem D_X5_endYear_11 : qd cX5_endYear 11 (.iload_n 1) 1 12 := ⟨by decide +kernel, rfl⟩
theorem D_X5_endYear_12 : qd cX5_endYear 12 (.invokestatic 68) 3 15 := ⟨by decide +kernel, rfl⟩
theorem D_X5_endYear_15 : qj cX5_endYear 15 (.ifCond .ne 8) (8) 18 23 := ⟨by decide +kernel, rfl, by decide⟩
theorem D_X5_endYear_18 : qd cX5_endYear 18 (.aload_n 0) 1 19 := ⟨by decide +kernel, rfl⟩
theorem D_X5_endYear_19 : qd cX5_endYear 19 (.iload_n 1) 1 20 := ⟨by decide +kernel, rfl⟩
theorem D_X5_endYear_20 : qd cX5_endYear 20 (.invokevirtual 105) 3 23 := ⟨by decide +kernel, rfl⟩
theorem D_X5_endYear_23 : qd cX5_endYear 23 (.iinc 1 1) 3 26 := ⟨by decide +kernel, rfl⟩
theorem D_X5_endYear_26 : qj cX5_endYear 26 (.goto (-24)) (-24) 29 2 := ⟨by decide +kernel, rfl, by decide⟩
theorem D_X5_endYear_29 : qd cX5_endYear 29 (.aload_n 0) 1 30 := ⟨by decide +kernel, rfl⟩
theorem D_X5_endYear_30 : qd cX5_endYear 30 (.iconst 0) 1 31 := ⟨by decide +kernel, rfl⟩
theorem D_X5_endYear_31 : qd cX5_endYear 31 (.putfield 37) 3 34 := ⟨by decide +kernel, rfl⟩
theorem D_X5_endYear_34 : qd cX5_endYear 34 (.aload_n 0) 1 35 := ⟨by decide +kernel, rfl⟩
theorem D_X5_endYear_35 : qd cX5_endYear 35 (.iconst 0) 1 36 := ⟨by decide +kernel, rfl⟩
theorem D_X5_endYear_36 : qd cX5_endYear 36 (.putfield 40) 3 39 := ⟨by decide +kernel, rfl⟩
theorem D_X5_endYear_39 : qd cX5_endYear 39 (.aload_n 0) 1 40 := ⟨by decide +kernel, rfl⟩
theorem D_X5_endYear_40 : qd cX5_endYear 40 (.dup) 1 41 := ⟨by decide +kernel, rfl⟩
theorem D_X5_endYear_41 : qd cX5_endYear 41 (.getfield 31) 3 44 := ⟨by decide +kernel, rfl⟩
theorem D_X5_endYear_44 : qd cX5_endYear 44 (.iconst 1) 1 45 := ⟨by decide +kernel, rfl⟩
theorem D_X5_endYear_45 : qd cX5_endYear 45 (.iadd) 1 46 := ⟨by decide +kernel, rfl⟩
theorem D_X5_endYear_46 : qd cX5_endYear 46 (.putfield 31) 3 49 := ⟨by decide +kernel, rfl⟩
theorem D_X5_endYear_49 : qd cX5_endYear 49 (.return_) 1 50 := ⟨by decide +kernel, rfl⟩
theorem D_X5_fadeFor_0 : qd cX5_fadeFor 0 (.iconst 0) 1 1 := ⟨by decide +kernel, rfl⟩
theorem D_X5_fadeFor_1 : qd cX5_fadeFor 1 (.istore_n 2) 1 2 := ⟨by decide +kernel, rfl⟩
theorem D_X5_fadeFor_2 : qd cX5_fadeFor 2 (.iload_n 2) 1 3 := ⟨by decide +kernel, rfl⟩
theorem D_X5_fadeFor_3 : qd cX5_fadeFor 3 (.bipush 6) 2 5 := ⟨by decide +kernel, rfl⟩
theorem D_X5_fadeFor_5 : qj cX5_fadeFor 5 (.if_icmp .ge 40) (40) 8 45 := ⟨by decide +kernel, rfl, by decide⟩
theorem D_X5_fadeFor_8 : qd cX5_fadeFor 8 (.iload_n 1) 1 9 := ⟨by decide +kernel, rfl⟩
theorem D_X5_fadeFor_9 : qd cX5_fadeFor 9 (.iload_n 2) 1 10 := ⟨by decide +kernel, rfl⟩
theorem D_X5_fadeFor_10 : qd cX5_fadeFor 10 (.invokestatic 55) 3 13 := ⟨by decide +kernel, rfl⟩
theorem D_X5_fadeFor_13 : qj cX5_fadeFor 13 (.ifCond .eq 32) (32) 16 45 := ⟨by decide +kernel, rfl, by decide⟩
theorem D_X5_fadeFor_16 : qd cX5_fadeFor 16 (.iload_n 1) 1 17 := ⟨by decide +kernel, rfl⟩
theorem D_X5_fadeFor_17 : qd cX5_fadeFor 17 (.bipush 6) 2 19 := ⟨by decide +kernel, rfl⟩
theorem D_X5_fadeFor_19 : qd cX5_fadeFor 19 (.imul) 1 20 := ⟨by decide +kernel, rfl⟩
theorem D_X5_fadeFor_20 : qd cX5_fadeFor 20 (.iload_n 2) 1 21 := ⟨by decide +kernel, rfl⟩
theorem D_X5_fadeFor_21 : qd cX5_fadeFor 21 (.iadd) 1 22 := ⟨by decide +kernel, rfl⟩
theorem D_X5_fadeFor_22 : qd cX5_fadeFor 22 (.istore_n 3) 1 23 := ⟨by decide +kernel, rfl⟩
theorem D_X5_fadeFor_23 : qd cX5_fadeFor 23 (.aload_n 0) 1 24 := ⟨by decide +kernel, rfl⟩
theorem D_X5_fadeFor_24 : qd cX5_fadeFor 24 (.getfield 15) 3 27 := ⟨by decide +kernel, rfl⟩
theorem D_X5_fadeFor_27 : qd cX5_fadeFor 27 (.iload_n 3) 1 28 := ⟨by decide +kernel, rfl⟩
theorem D_X5_fadeFor_28 : qd cX5_fadeFor 28 (.aload_n 0) 1 29 := ⟨by decide +kernel, rfl⟩
theorem D_X5_fadeFor_29 : qd cX5_fadeFor 29 (.aload_n 0) 1 30 := ⟨by decide +kernel, rfl⟩
theorem D_X5_fadeFor_30 : qd cX5_fadeFor 30 (.getfield 15) 3 33 := ⟨by decide +kernel, rfl⟩
theorem D_X5_fadeFor_33 : qd cX5_fadeFor 33 (.iload_n 3) 1 34 := ⟨by decide +kernel, rfl⟩
theorem D_X5_fadeFor_34 : qd cX5_fadeFor 34 (.iaload) 1 35 := ⟨by decide +kernel, rfl⟩
theorem D_X5_fadeFor_35 : qd cX5_fadeFor 35 (.invokevirtual 108) 3 38 := ⟨by decide +kernel, rfl⟩
theorem D_X5_fadeFor_38 : qd cX5_fadeFor 38 (.iastore) 1 39 := ⟨by decide +kernel, rfl⟩
theorem D_X5_fadeFor_39 : qd cX5_fadeFor 39 (.iinc 2 1) 3 42 := ⟨by decide +kernel, rfl⟩
theorem D_X5_fadeFor_42 : qj cX5_fadeFor 42 (.goto (-40)) (-40) 45 2 := ⟨by decide +kernel, rfl, by decide⟩
theorem D_X5_fadeFor_45 : qd cX5_fadeFor 45 (.return_) 1 46 := ⟨by decide +kernel, rfl⟩
theorem D_X5_faded_0 : qd cX5_faded 0 (.iload_n 1) 1 1 := ⟨by decide +kernel, rfl⟩
theorem D_X5_faded_1 : qd cX5_faded 1 (.iconst 1) 1 2 := ⟨by decide +kernel, rfl⟩
theorem D_X5_faded_2 : qj cX5_faded 2 (.if_icmp .lt 11) (11) 5 13 := ⟨by decide +kernel, rfl, by decide⟩
theorem D_X5_faded_5 : qd cX5_faded 5 (.aload_n 0) 1 6 := ⟨by decide +kernel, rfl⟩
theorem D_X5_faded_6 : qd cX5_faded 6 (.getfield 25) 3 9 := ⟨by decide +kernel, rfl⟩
theorem D_X5_faded_9 : qd cX5_faded 9 (.iconst 1) 1 10 := ⟨by decide +kernel, rfl⟩
theorem D_X5_faded_10 : qj cX5_faded 10 (.if_icmp .ge 7) (7) 13 17 := ⟨by decide +kernel, rfl, by decide⟩
theorem D_X5_faded_13 : qd cX5_faded 13 (.iconst 0) 1 14 := ⟨by decide +kernel, rfl⟩
theorem D_X5_faded_14 : qj cX5_faded 14 (.goto 13) (13) 17 27 := ⟨by decide +kernel, rfl, by decide⟩
theorem D_X5_faded_17 : qd cX5_faded 17 (.iload_n 1) 1 18 := ⟨by decide +kernel, rfl⟩
theorem D_X5_faded_18 : qd cX5_faded 18 (.iload_n 1) 1 19 := ⟨by decide +kernel, rfl⟩
theorem D_X5_faded_19 : qd cX5_faded 19 (.aload_n 0) 1 20 := ⟨by decide +kernel, rfl⟩
theorem D_X5_faded_20 : qd cX5_faded 20 (.getfield 25) 3 23 := ⟨by decide +kernel, rfl⟩
theorem D_X5_faded_23 : qd cX5_faded 23 (.idiv) 1 24 := ⟨by decide +kernel, rfl⟩
theorem D_X5_faded_24 : qd cX5_faded 24 (.isub) 1 25 := ⟨by decide +kernel, rfl⟩
theorem D_X5_faded_25 : qd cX5_faded 25 (.iconst 1) 1 26 := ⟨by decide +kernel, rfl⟩
theorem D_X5_faded_26 : qd cX5_faded 26 (.isub) 1 27 := ⟨by decide +kernel, rfl⟩
theorem D_X5_faded_27 : qd cX5_faded 27 (.ireturn) 1 28 := ⟨by decide +kernel, rfl⟩
theorem D_X5_forgetByAll_0 : qd cX5_forgetByAll 0 (.iconst 0) 1 1 := ⟨by decide +kernel, rfl⟩
theorem D_X5_forgetByAll_1 : qd cX5_forgetByAll 1 (.istore_n 2) 1 2 := ⟨by decide +kernel, rfl⟩
theorem D_X5_forgetByAll_2 : qd cX5_forgetByAll 2 (.iload_n 2) 1 3 := ⟨by decide +kernel, rfl⟩
theorem D_X5_forgetByAll_3 : qd cX5_forgetByAll 3 (.iconst 5) 1 4 := ⟨by decide +kernel, rfl⟩
theorem D_X5_forgetByAll_4 : qj cX5_forgetByAll 4 (.if_icmp .ge 16) (16) 7 20 := ⟨by decide +kernel, rfl, by decide⟩
theorem D_X5_forgetByAll_7 : qd cX5_forgetByAll 7 (.aload_n 0) 1 8 := ⟨by decide +kernel, rfl⟩
theorem D_X5_forgetByAll_8 : qd cX5_forgetByAll 8 (.iload_n 2) 1 9 := ⟨by decide +kernel, rfl⟩
theorem D_X5_forgetByAll_9 : qd cX5_forgetByAll 9 (.iload_n 1) 1 10 := ⟨by decide +kernel, rfl⟩
theorem D_X5_forgetByAll_10 : qd cX5_forgetByAll 10 (.iconst 0) 1 11 := ⟨by decide +kernel, rfl⟩
theorem D_X5_forgetByAll_11 : qd cX5_forgetByAll 11 (.invokevirtual 101) 3 14 := ⟨by decide +kernel, rfl⟩
theorem D_X5_forgetByAll_14 : qd cX5_forgetByAll 14 (.iinc 2 1) 3 17 := ⟨by decide +kernel, rfl⟩
theorem D_X5_forgetByAll_17 : qj cX5_forgetByAll 17 (.goto (-15)) (-15) 20 2 := ⟨by decide +kernel, rfl, by decide⟩
theorem D_X5_forgetByAll_20 : qd cX5_forgetByAll 20 (.return_) 1 21 := ⟨by decide +kernel, rfl⟩
theorem D_X5_graveOfYear_0 : qd cX5_graveOfYear 0 (.aload_n 0) 1 1 := ⟨by decide +kernel, rfl⟩
theorem D_X5_graveOfYear_1 : qd cX5_graveOfYear 1 (.getfield 18) 3 4 := ⟨by decide +kernel, rfl⟩
theorem D_X5_graveOfYear_4 : qd cX5_graveOfYear 4 (.iconst 1) 1 5 := ⟨by decide +kernel, rfl⟩
theorem D_X5_graveOfYear_5 : qj cX5_graveOfYear 5 (.if_icmp .ge 8) (8) 8 13 := ⟨by decide +kernel, rfl, by decide⟩
theorem D_X5_graveOfYear_8 : qd cX5_graveOfYear 8 (.ldc 67) 2 10 := ⟨by decide +kernel, rfl⟩
theorem D_X5_graveOfYear_10 : qj cX5_graveOfYear 10 (.goto 12) (12) 13 22 := ⟨by decide +kernel, rfl, by decide⟩
theorem D_X5_graveOfYear_13 : qd cX5_graveOfYear 13 (.aload_n 0) 1 14 := ⟨by decide +kernel, rfl⟩
theorem D_X5_graveOfYear_14 : qd cX5_graveOfYear 14 (.getfield 31) 3 17 := ⟨by decide +kernel, rfl⟩
theorem D_X5_graveOfYear_17 : qd cX5_graveOfYear 17 (.aload_n 0) 1 18 := ⟨by decide +kernel, rfl⟩
theorem D_X5_graveOfYear_18 : qd cX5_graveOfYear 18 (.getfield 18) 3 21 := ⟨by decide +kernel, rfl⟩
theorem D_X5_graveOfYear_21 : qd cX5_graveOfYear 21 (.irem) 1 22 := ⟨by decide +kernel, rfl⟩
theorem D_X5_graveOfYear_22 : qd cX5_graveOfYear 22 (.ireturn) 1 23 := ⟨by decide +kernel, rfl⟩
theorem D_X5_hasRoom_0 : qd cX5_hasRoom 0 (.iload_n 0) 1 1 := ⟨by decide +kernel, rfl⟩
theorem D_X5_hasRoom_1 : qj cX5_hasRoom 1 (.ifCond .lt 22) (22) 4 23 := ⟨by decide +kernel, rfl, by decide⟩
theorem D_X5_hasRoom_4 : qd cX5_hasRoom 4 (.iload_n 0) 1 5 := ⟨by decide +kernel, rfl⟩
theorem D_X5_hasRoom_5 : qd cX5_hasRoom 5 (.iconst 5) 1 6 := ⟨by decide +kernel, rfl⟩
theorem D_X5_hasRoom_6 : qj cX5_hasRoom 6 (.if_icmp .ge 17) (17) 9 23 := ⟨by decide +kernel, rfl, by decide⟩
theorem D_X5_hasRoom_9 : qd cX5_hasRoom 9 (.iload_n 1) 1 10 := ⟨by decide +kernel, rfl⟩
theorem D_X5_hasRoom_10 : qj cX5_hasRoom 10 (.ifCond .lt 13) (13) 13 23 := ⟨by decide +kernel, rfl, by decide⟩
theorem D_X5_hasRoom_13 : qd cX5_hasRoom 13 (.iload_n 1) 1 14 := ⟨by decide +kernel, rfl⟩
theorem D_X5_hasRoom_14 : qd cX5_hasRoom 14 (.bipush 6) 2 16 := ⟨by decide +kernel, rfl⟩
theorem D_X5_hasRoom_16 : qj cX5_hasRoom 16 (.if_icmp .ge 7) (7) 19 23 := ⟨by decide +kernel, rfl, by decide⟩
theorem D_X5_hasRoom_19 : qd cX5_hasRoom 19 (.iconst 1) 1 20 := ⟨by decide +kernel, rfl⟩
theorem D_X5_hasRoom_20 : qj cX5_hasRoom 20 (.goto 4) (4) 23 24 := ⟨by decide +kernel, rfl, by decide⟩
theorem D_X5_hasRoom_23 : qd cX5_hasRoom 23 (.iconst 0) 1 24 := ⟨by decide +kernel, rfl⟩
theorem D_X5_hasRoom_24 : qd cX5_hasRoom 24 (.ireturn) 1 25 := ⟨by decide +kernel, rfl⟩
theorem D_X5_inNeed_0 : qd cX5_inNeed 0 (.iconst 0) 1 1 := ⟨by decide +kernel, rfl⟩
theorem D_X5_inNeed_1 : qd cX5_inNeed 1 (.istore_n 1) 1 2 := ⟨by decide +kernel, rfl⟩
theorem D_X5_inNeed_2 : qd cX5_inNeed 2 (.iconst 0) 1 3 := ⟨by decide +kernel, rfl⟩
theorem D_X5_inNeed_3 : qd cX5_inNeed 3 (.istore_n 2) 1 4 := ⟨by decide +kernel, rfl⟩
theorem D_X5_inNeed_4 : qd cX5_inNeed 4 (.iload_n 2) 1 5 := ⟨by decide +kernel, rfl⟩
theorem D_X5_inNeed_5 : qd cX5_inNeed 5 (.iconst 5) 1 6 := ⟨by decide +kernel, rfl⟩
theorem D_X5_inNeed_6 : qj cX5_inNeed 6 (.if_icmp .ge 51) (51) 9 57 := ⟨by decide +kernel, rfl, by decide⟩
theorem D_X5_inNeed_9 : qd cX5_inNeed 9 (.aload_n 0) 1 10 := ⟨by decide +kernel, rfl⟩
theorem D_X5_inNeed_10 : qd cX5_inNeed 10 (.iload_n 2) 1 11 := ⟨by decide +kernel, rfl⟩
theorem D_X5_inNeed_11 : qd cX5_inNeed 11 (.aload_n 0) 1 12 := ⟨by decide +kernel, rfl⟩
theorem D_X5_inNeed_12 : qd cX5_inNeed 12 (.getfield 34) 3 15 := ⟨by decide +kernel, rfl⟩
theorem D_X5_inNeed_15 : qd cX5_inNeed 15 (.aload_n 0) 1 16 := ⟨by decide +kernel, rfl⟩
theorem D_X5_inNeed_16 : qd cX5_inNeed 16 (.getfield 22) 3 19 := ⟨by decide +kernel, rfl⟩
theorem D_X5_inNeed_19 : qd cX5_inNeed 19 (.invokevirtual 74) 3 22 := ⟨by decide +kernel, rfl⟩
theorem D_X5_inNeed_22 : qd cX5_inNeed 22 (.istore_n 3) 1 23 := ⟨by decide +kernel, rfl⟩
theorem D_X5_inNeed_23 : qd cX5_inNeed 23 (.iload_n 3) 1 24 := ⟨by decide +kernel, rfl⟩
theorem D_X5_inNeed_24 : qj cX5_inNeed 24 (.ifCond .lt 27) (27) 27 51 := ⟨by decide +kernel, rfl, by decide⟩
theorem D_X5_inNeed_27 : qd cX5_inNeed 27 (.aload_n 0) 1 28 := ⟨by decide +kernel, rfl⟩
theorem D_X5_inNeed_28 : qd cX5_inNeed 28 (.aload_n 0) 1 29 := ⟨by decide +kernel, rfl⟩
theorem D_X5_inNeed_29 : qd cX5_inNeed 29 (.iload_n 2) 1 30 := ⟨by decide +kernel, rfl⟩
theorem D_X5_inNeed_30 : qd cX5_inNeed 30 (.iload_n 3) 1 31 := ⟨by decide +kernel, rfl⟩
theorem D_X5_inNeed_31 : qd cX5_inNeed 31 (.invokevirtual 59) 3 34 := ⟨by decide +kernel, rfl⟩
theorem D_X5_inNeed_34 : qd cX5_inNeed 34 (.invokevirtual 108) 3 37 := ⟨by decide +kernel, rfl⟩
theorem D_X5_inNeed_37 : qd cX5_inNeed 37 (.aload_n 0) 1 38 := ⟨by decide +kernel, rfl⟩
theorem D_X5_inNeed_38 : qd cX5_inNeed 38 (.getfield 22) 3 41 := ⟨by decide +kernel, rfl⟩
theorem D_X5_inNeed_41 : qj cX5_inNeed 41 (.if_icmp .ge 10) (10) 44 51 := ⟨by decide +kernel, rfl, by decide⟩
theorem D_X5_inNeed_44 : qd cX5_inNeed 44 (.iload_n 1) 1 45 := ⟨by decide +kernel, rfl⟩
theorem D_X5_inNeed_45 : qd cX5_inNeed 45 (.iload_n 2) 1 46 := ⟨by decide +kernel, rfl⟩
theorem D_X5_inNeed_46 : qd cX5_inNeed 46 (.invokestatic 78) 3 49 := ⟨by decide +kernel, rfl⟩
theorem D_X5_inNeed_49 : qd cX5_inNeed 49 (.ior) 1 50 := ⟨by decide +kernel, rfl⟩
theorem D_X5_inNeed_50 : qd cX5_inNeed 50 (.istore_n 1) 1 51 := ⟨by decide +kernel, rfl⟩
theorem D_X5_inNeed_51 : qd cX5_inNeed 51 (.iinc 2 1) 3 54 := ⟨by decide +kernel, rfl⟩
theorem D_X5_inNeed_54 : qj cX5_inNeed 54 (.goto (-50)) (-50) 57 4 := ⟨by decide +kernel, rfl, by decide⟩
theorem D_X5_inNeed_57 : qd cX5_inNeed 57 (.iload_n 1) 1 58 := ⟨by decide +kernel, rfl⟩
theorem D_X5_inNeed_58 : qd cX5_inNeed 58 (.ireturn) 1 59 := ⟨by decide +kernel, rfl⟩
theorem D_X5_init_0 : qd cX5_init 0 (.aload_n 0) 1 1 := ⟨by decide +kernel, rfl⟩
theorem D_X5_init_1 : qd cX5_init 1 (.invokespecial 3) 3 4 := ⟨by decide +kernel, rfl⟩
theorem D_X5_init_4 : qd cX5_init 4 (.aload_n 0) 1 5 := ⟨by decide +kernel, rfl⟩
theorem D_X5_init_5 : qd cX5_init 5 (.iconst 5) 1 6 := ⟨by decide +kernel, rfl⟩
theorem D_X5_init_6 : qd cX5_init 6 (.newarray .int) 2 8 := ⟨by decide +kernel, rfl⟩
theorem D_X5_init_8 : qd cX5_init 8 (.putfield 9) 3 11 := ⟨by decide +kernel, rfl⟩
theorem D_X5_init_11 : qd cX5_init 11 (.aload_n 0) 1 12 := ⟨by decide +kernel, rfl⟩
theorem D_X5_init_12 : qd cX5_init 12 (.bipush 30) 2 14 := ⟨by decide +kernel, rfl⟩
theorem D_X5_init_14 : qd cX5_init 14 (.newarray .int) 2 16 := ⟨by decide +kernel, rfl⟩
theorem D_X5_init_16 : qd cX5_init 16 (.putfield 15) 3 19 := ⟨by decide +kernel, rfl⟩
theorem D_X5_init_19 : qd cX5_init 19 (.return_) 1 20 := ⟨by decide +kernel, rfl⟩
theorem D_X5_isNone_0 : qd cX5_isNone 0 (.aload_n 0) 1 1 := ⟨by decide +kernel, rfl⟩
theorem D_X5_isNone_1 : qd cX5_isNone 1 (.getfield 18) 3 4 := ⟨by decide +kernel, rfl⟩
theorem D_X5_isNone_4 : qj cX5_isNone 4 (.ifCond .ne 7) (7) 7 11 := ⟨by decide +kernel, rfl, by decide⟩
theorem D_X5_isNone_7 : qd cX5_isNone 7 (.iconst 1) 1 8 := ⟨by decide +kernel, rfl⟩
theorem D_X5_isNone_8 : qj cX5_isNone 8 (.goto 4) (4) 11 12 := ⟨by decide +kernel, rfl, by decide⟩
theorem D_X5_isNone_11 : qd cX5_isNone 11 (.iconst 0) 1 12 := ⟨by decide +kernel, rfl⟩
theorem D_X5_isNone_12 : qd cX5_isNone 12 (.ireturn) 1 13 := ⟨by decide +kernel, rfl⟩
theorem D_X5_memoryOf_0 : qd cX5_memoryOf 0 (.iload_n 1) 1 1 := ⟨by decide +kernel, rfl⟩
theorem D_X5_memoryOf_1 : qd cX5_memoryOf 1 (.iload_n 2) 1 2 := ⟨by decide +kernel, rfl⟩
theorem D_X5_memoryOf_2 : qd cX5_memoryOf 2 (.invokestatic 55) 3 5 := ⟨by decide +kernel, rfl⟩
theorem D_X5_memoryOf_5 : qj cX5_memoryOf 5 (.ifCond .eq 17) (17) 8 22 := ⟨by decide +kernel, rfl, by decide⟩
theorem D_X5_memoryOf_8 : qd cX5_memoryOf 8 (.aload_n 0) 1 9 := ⟨by decide +kernel, rfl⟩
theorem D_X5_memoryOf_9 : qd cX5_memoryOf 9 (.getfield 15) 3 12 := ⟨by decide +kernel, rfl⟩
theorem D_X5_memoryOf_12 : qd cX5_memoryOf 12 (.iload_n 1) 1 13 := ⟨by decide +kernel, rfl⟩
theorem D_X5_memoryOf_13 : qd cX5_memoryOf 13 (.bipush 6) 2 15 := ⟨by decide +kernel, rfl⟩
theorem D_X5_memoryOf_15 : qd cX5_memoryOf 15 (.imul) 1 16 := ⟨by decide +kernel, rfl⟩
theorem D_X5_memoryOf_16 : qd cX5_memoryOf 16 (.iload_n 2) 1 17 := ⟨by decide +kernel, rfl⟩
theorem D_X5_memoryOf_17 : qd cX5_memoryOf 17 (.iadd) 1 18 := ⟨by decide +kernel, rfl⟩
theorem D_X5_memoryOf_18 : qd cX5_memoryOf 18 (.iaload) 1 19 := ⟨by decide +kernel, rfl⟩
theorem D_X5_memoryOf_19 : qj cX5_memoryOf 19 (.goto 4) (4) 22 23 := ⟨by decide +kernel, rfl, by decide⟩
theorem D_X5_memoryOf_22 : qd cX5_memoryOf 22 (.iconst 0) 1 23 := ⟨by decide +kernel, rfl⟩
theorem D_X5_memoryOf_23 : qd cX5_memoryOf 23 (.ireturn) 1 24 := ⟨by decide +kernel, rfl⟩
theorem D_X5_nextBehind_0 : qd cX5_nextBehind 0 (.iload_n 1) 1 1 := ⟨by decide +kernel, rfl⟩
theorem D_X5_nextBehind_1 : qj cX5_nextBehind 1 (.ifCond .lt 11) (11) 4 12 := ⟨by decide +kernel, rfl, by decide⟩
theorem D_X5_nextBehind_4 : qd cX5_nextBehind 4 (.aload_n 0) 1 5 := ⟨by decide +kernel, rfl⟩
theorem D_X5_nextBehind_5 : qd cX5_nextBehind 5 (.getfield 18) 3 8 := ⟨by decide +kernel, rfl⟩
theorem D_X5_nextBehind_8 : qd cX5_nextBehind 8 (.iconst 1) 1 9 := ⟨by decide +kernel, rfl⟩
theorem D_X5_nextBehind_9 : qj cX5_nextBehind 9 (.if_icmp .ge 8) (8) 12 17 := ⟨by decide +kernel, rfl, by decide⟩
theorem D_X5_nextBehind_12 : qd cX5_nextBehind 12 (.ldc 67) 2 14 := ⟨by decide +kernel, rfl⟩
theorem D_X5_nextBehind_14 : qj cX5_nextBehind 14 (.goto 11) (11) 17 25 := ⟨by decide +kernel, rfl, by decide⟩
theorem D_X5_nextBehind_17 : qd cX5_nextBehind 17 (.iload_n 1) 1 18 := ⟨by decide +kernel, rfl⟩
theorem D_X5_nextBehind_18 : qd cX5_nextBehind 18 (.iconst 1) 1 19 := ⟨by decide +kernel, rfl⟩
theorem D_X5_nextBehind_19 : qd cX5_nextBehind 19 (.iadd) 1 20 := ⟨by decide +kernel, rfl⟩
theorem D_X5_nextBehind_20 : qd cX5_nextBehind 20 (.aload_n 0) 1 21 := ⟨by decide +kernel, rfl⟩
theorem D_X5_nextBehind_21 : qd cX5_nextBehind 21 (.getfield 18) 3 24 := ⟨by decide +kernel, rfl⟩
theorem D_X5_nextBehind_24 : qd cX5_nextBehind 24 (.irem) 1 25 := ⟨by decide +kernel, rfl⟩
theorem D_X5_nextBehind_25 : qd cX5_nextBehind 25 (.ireturn) 1 26 := ⟨by decide +kernel, rfl⟩
theorem D_X5_pass_0 : qd cX5_pass 0 (.aload_n 0) 1 1 := ⟨by decide +kernel, rfl⟩
theorem D_X5_pass_1 : qd cX5_pass 1 (.invokevirtual 91) 3 4 := ⟨by decide +kernel, rfl⟩
theorem D_X5_pass_4 : qd cX5_pass 4 (.aload_n 0) 1 5 := ⟨by decide +kernel, rfl⟩
theorem D_X5_pass_5 : qd cX5_pass 5 (.invokevirtual 94) 3 8 := ⟨by decide +kernel, rfl⟩
theorem D_X5_pass_8 : qd cX5_pass 8 (.return_) 1 9 := ⟨by decide +kernel, rfl⟩
theorem D_X5_remember_0 : qd cX5_remember 0 (.iload_n 1) 1 1 := ⟨by decide +kernel, rfl⟩
theorem D_X5_remember_1 : qd cX5_remember 1 (.iload_n 2) 1 2 := ⟨by decide +kernel, rfl⟩
theorem D_X5_remember_2 : qd cX5_remember 2 (.invokestatic 55) 3 5 := ⟨by decide +kernel, rfl⟩
theorem D_X5_remember_5 : qj cX5_remember 5 (.ifCond .eq 15) (15) 8 20 := ⟨by decide +kernel, rfl, by decide⟩
theorem D_X5_remember_8 : qd cX5_remember 8 (.aload_n 0) 1 9 := ⟨by decide +kernel, rfl⟩
theorem D_X5_remember_9 : qd cX5_remember 9 (.getfield 15) 3 12 := ⟨by decide +kernel, rfl⟩
theorem D_X5_remember_12 : qd cX5_remember 12 (.iload_n 1) 1 13 := ⟨by decide +kernel, rfl⟩
theorem D_X5_remember_13 : qd cX5_remember 13 (.bipush 6) 2 15 := ⟨by decide +kernel, rfl⟩
theorem D_X5_remember_15 : qd cX5_remember 15 (.imul) 1 16 := ⟨by decide +kernel, rfl⟩
theorem D_X5_remember_16 : qd cX5_remember 16 (.iload_n 2) 1 17 := ⟨by decide +kernel, rfl⟩
theorem D_X5_remember_17 : qd cX5_remember 17 (.iadd) 1 18 := ⟨by decide +kernel, rfl⟩
theorem D_X5_remember_18 : qd cX5_remember 18 (.iload_n 3) 1 19 := ⟨by decide +kernel, rfl⟩
theorem D_X5_remember_19 : qd cX5_remember 19 (.iastore) 1 20 := ⟨by decide +kernel, rfl⟩
theorem D_X5_remember_20 : qd cX5_remember 20 (.return_) 1 21 := ⟨by decide +kernel, rfl⟩
theorem D_X5_rememberedBy_0 : qd cX5_rememberedBy 0 (.iconst 0) 1 1 := ⟨by decide +kernel, rfl⟩
theorem D_X5_rememberedBy_1 : qd cX5_rememberedBy 1 (.istore_n 2) 1 2 := ⟨by decide +kernel, rfl⟩
theorem D_X5_rememberedBy_2 : qd cX5_rememberedBy 2 (.iconst 0) 1 3 := ⟨by decide +kernel, rfl⟩
theorem D_X5_rememberedBy_3 : qd cX5_rememberedBy 3 (.istore_n 3) 1 4 := ⟨by decide +kernel, rfl⟩
theorem D_X5_rememberedBy_4 : qd cX5_rememberedBy 4 (.iload_n 3) 1 5 := ⟨by decide +kernel, rfl⟩
theorem D_X5_rememberedBy_5 : qd cX5_rememberedBy 5 (.bipush 6) 2 7 := ⟨by decide +kernel, rfl⟩
theorem D_X5_rememberedBy_7 : qj cX5_rememberedBy 7 (.if_icmp .ge 38) (38) 10 45 := ⟨by decide +kernel, rfl, by decide⟩
theorem D_X5_rememberedBy_10 : qd cX5_rememberedBy 10 (.iload_n 1) 1 11 := ⟨by decide +kernel, rfl⟩
theorem D_X5_rememberedBy_11 : qd cX5_rememberedBy 11 (.iload_n 3) 1 12 := ⟨by decide +kernel, rfl⟩
theorem D_X5_rememberedBy_12 : qd cX5_rememberedBy 12 (.invokestatic 55) 3 15 := ⟨by decide +kernel, rfl⟩
theorem D_X5_rememberedBy_15 : qj cX5_rememberedBy 15 (.ifCond .eq 30) (30) 18 45 := ⟨by decide +kernel, rfl, by decide⟩
theorem D_X5_rememberedBy_18 : qd cX5_rememberedBy 18 (.aload_n 0) 1 19 := ⟨by decide +kernel, rfl⟩
theorem D_X5_rememberedBy_19 : qd cX5_rememberedBy 19 (.getfield 15) 3 22 := ⟨by decide +kernel, rfl⟩
theorem D_X5_rememberedBy_22 : qd cX5_rememberedBy 22 (.iload_n 1) 1 23 := ⟨by decide +kernel, rfl⟩
theorem D_X5_rememberedBy_23 : qd cX5_rememberedBy 23 (.bipush 6) 2 25 := ⟨by decide +kernel, rfl⟩
theorem D_X5_rememberedBy_25 : qd cX5_rememberedBy 25 (.imul) 1 26 := ⟨by decide +kernel, rfl⟩
theorem D_X5_rememberedBy_26 : qd cX5_rememberedBy 26 (.iload_n 3) 1 27 := ⟨by decide +kernel, rfl⟩
theorem D_X5_rememberedBy_27 : qd cX5_rememberedBy 27 (.iadd) 1 28 := ⟨by decide +kernel, rfl⟩
theorem D_X5_rememberedBy_28 : qd cX5_rememberedBy 28 (.iaload) 1 29 := ⟨by decide +kernel, rfl⟩
theorem D_X5_rememberedBy_29 : qj cX5_rememberedBy 29 (.ifCond .le 10) (10) 32 39 := ⟨by decide +kernel, rfl, by decide⟩
theorem D_X5_rememberedBy_32 : qd cX5_rememberedBy 32 (.iload_n 2) 1 33 := ⟨by decide +kernel, rfl⟩
theorem D_X5_rememberedBy_33 : qd cX5_rememberedBy 33 (.iload_n 3) 1 34 := ⟨by decide +kernel, rfl⟩
theorem D_X5_rememberedBy_34 : qd cX5_rememberedBy 34 (.invokestatic 78) 3 37 := ⟨by decide +kernel, rfl⟩
theorem D_X5_rememberedBy_37 : qd cX5_rememberedBy 37 (.ior) 1 38 := ⟨by decide +kernel, rfl⟩
theorem D_X5_rememberedBy_38 : qd cX5_rememberedBy 38 (.istore_n 2) 1 39 := ⟨by decide +kernel, rfl⟩
theorem D_X5_rememberedBy_39 : qd cX5_rememberedBy 39 (.iinc 3 1) 3 42 := ⟨by decide +kernel, rfl⟩
theorem D_X5_rememberedBy_42 : qj cX5_rememberedBy 42 (.goto (-38)) (-38) 45 4 := ⟨by decide +kernel, rfl, by decide⟩
theorem D_X5_rememberedBy_45 : qd cX5_rememberedBy 45 (.iload_n 2) 1 46 := ⟨by decide +kernel, rfl⟩
theorem D_X5_rememberedBy_46 : qd cX5_rememberedBy 46 (.ireturn) 1 47 := ⟨by decide +kernel, rfl⟩
end
section
theorem D_X6_ahead_0 : qd cX6_ahead 0 (.aload_n 0) 1 1 := ⟨by decide +kernel, rfl⟩
theorem D_X6_ahead_1 : qd cX6_ahead 1 (.invokevirtual 135) 3 4 := ⟨by decide +kernel, rfl⟩
theorem D_X6_ahead_4 : qj cX6_ahead 4 (.ifCond .eq 6) (6) 7 10 := ⟨by decide +kernel, rfl, by decide⟩
theorem D_X6_ahead_7 : qd cX6_ahead 7 (.ldc 134) 2 9 := ⟨by decide +kernel, rfl⟩
theorem D_X6_ahead_9 : qd cX6_ahead 9 (.ireturn) 1 10 := ⟨by decide +kernel, rfl⟩
theorem D_X6_ahead_10 : qd cX6_ahead 10 (.iload_n 1) 1 11 := ⟨by decide +kernel, rfl⟩
theorem D_X6_ahead_11 : qj cX6_ahead 11 (.ifCond .lt 9) (9) 14 20 := ⟨by decide +kernel, rfl, by decide⟩
theorem D_X6_ahead_14 : qd cX6_ahead 14 (.iload_n 1) 1 15 := ⟨by decide +kernel, rfl⟩
theorem D_X6_ahead_15 : qd cX6_ahead 15 (.bipush 40) 2 17 := ⟨by decide +kernel, rfl⟩
theorem D_X6_ahead_17 : qj cX6_ahead 17 (.if_icmp .le 8) (8) 20 25 := ⟨by decide +kernel, rfl, by decide⟩
theorem D_X6_ahead_20 : qd cX6_ahead 20 (.ldc 59) 2 22 := ⟨by decide +kernel, rfl⟩
theorem D_X6_ahead_22 : qj cX6_ahead 22 (.goto 15) (15) 25 37 := ⟨by decide +kernel, rfl, by decide⟩
theorem D_X6_ahead_25 : qd cX6_ahead 25 (.aload_n 0) 1 26 := ⟨by decide +kernel, rfl⟩
theorem D_X6_ahead_26 : qd cX6_ahead 26 (.getfield 43) 3 29 := ⟨by decide +kernel, rfl⟩
theorem D_X6_ahead_29 : qd cX6_ahead 29 (.aload_n 0) 1 30 := ⟨by decide +kernel, rfl⟩
theorem D_X6_ahead_30 : qd cX6_ahead 30 (.getfield 25) 3 33 := ⟨by decide +kernel, rfl⟩
theorem D_X6_ahead_33 : qd cX6_ahead 33 (.iload_n 1) 1 34 := ⟨by decide +kernel, rfl⟩
theorem D_X6_ahead_34 : qd cX6_ahead 34 (.invokevirtual 189) 3 37 := ⟨by decide +kernel, rfl⟩
theorem D_X6_ahead_37 : qd cX6_ahead 37 (.ireturn) 1 38 := ⟨by decide +kernel, rfl⟩
theorem D_X6_as_0 : qd cX6_as 0 (.aload_n 0) 1 1 := ⟨by decide +kernel, rfl⟩
theorem D_X6_as_1 : qd cX6_as 1 (.iload_n 1) 1 2 := ⟨by decide +kernel, rfl⟩
theorem D_X6_as_2 : qd cX6_as 2 (.invokevirtual 150) 3 5 := ⟨by decide +kernel, rfl⟩
theorem D_X6_as_5 : qj cX6_as 5 (.ifCond .eq 12) (12) 8 17 := ⟨by decide +kernel, rfl, by decide⟩
theorem D_X6_as_8 : qd cX6_as 8 (.iload_n 2) 1 9 := ⟨by decide +kernel, rfl⟩
theorem D_X6_as_9 : qj cX6_as 9 (.ifCond .lt 8) (8) 12 17 := ⟨by decide +kernel, rfl, by decide⟩
theorem D_X6_as_12 : qd cX6_as 12 (.iload_n 2) 1 13 := ⟨by decide +kernel, rfl⟩
theorem D_X6_as_13 : qd cX6_as 13 (.iconst 5) 1 14 := ⟨by decide +kernel, rfl⟩
theorem D_X6_as_14 : qj cX6_as 14 (.if_icmp .le 6) (6) 17 20 := ⟨by decide +kernel, rfl, by decide⟩
theorem D_X6_as_17 : qd cX6_as 17 (.ldc 59) 2 19 := ⟨by decide +kernel, rfl⟩
theorem D_X6_as_19 : qd cX6_as 19 (.ireturn) 1 20 := ⟨by decide +kernel, rfl⟩
theorem D_X6_as_20 : qd cX6_as 20 (.aload_n 0) 1 21 := ⟨by decide +kernel, rfl⟩
theorem D_X6_as_21 : qd cX6_as 21 (.getfield 25) 3 24 := ⟨by decide +kernel, rfl⟩
theorem D_X6_as_24 : qd cX6_as 24 (.getfield 252) 3 27 := ⟨by decide +kernel, rfl⟩
theorem D_X6_as_27 : qd cX6_as 27 (.iload_n 1) 1 28 := ⟨by decide +kernel, rfl⟩
theorem D_X6_as_28 : qd cX6_as 28 (.iaload) 1 29 := ⟨by decide +kernel, rfl⟩
theorem D_X6_as_29 : qd cX6_as 29 (.iload_n 2) 1 30 := ⟨by decide +kernel, rfl⟩
theorem D_X6_as_30 : qd cX6_as 30 (.invokestatic 255) 3 33 := ⟨by decide +kernel, rfl⟩
theorem D_X6_as_33 : qj cX6_as 33 (.ifCond .eq 11) (11) 36 44 := ⟨by decide +kernel, rfl, by decide⟩
theorem D_X6_as_36 : qd cX6_as 36 (.aload_n 0) 1 37 := ⟨by decide +kernel, rfl⟩
theorem D_X6_as_37 : qd cX6_as 37 (.iload_n 1) 1 38 := ⟨by decide +kernel, rfl⟩
theorem D_X6_as_38 : qd cX6_as 38 (.invokevirtual 68) 3 41 := ⟨by decide +kernel, rfl⟩
theorem D_X6_as_41 : qj cX6_as 41 (.goto 8) (8) 44 49 := ⟨by decide +kernel, rfl, by decide⟩
theorem D_X6_as_44 : qd cX6_as 44 (.aload_n 0) 1 45 := ⟨by decide +kernel, rfl⟩
theorem D_X6_as_45 : qd cX6_as 45 (.iconst 3) 1 46 := ⟨by decide +kernel, rfl⟩
theorem D_X6_as_46 : qd cX6_as 46 (.invokevirtual 60) 3 49 := ⟨by decide +kernel, rfl⟩
theorem D_X6_as_49 : qd cX6_as 49 (.ireturn) 1 50 := ⟨by decide +kernel, rfl⟩
theorem D_X6_ask_0 : qd cX6_ask 0 (.aload_n 0) 1 1 := ⟨by decide +kernel, rfl⟩
theorem D_X6_ask_1 : qd cX6_ask 1 (.iload_n 1) 1 2 := ⟨by decide +kernel, rfl⟩
theorem D_X6_ask_2 : qd cX6_ask 2 (.invokevirtual 150) 3 5 := ⟨by decide +kernel, rfl⟩
theorem D_X6_ask_5 : qj cX6_ask 5 (.ifCond .eq 12) (12) 8 17 := ⟨by decide +kernel, rfl, by decide⟩
theorem D_X6_ask_8 : qd cX6_ask 8 (.iload_n 2) 1 9 := ⟨by decide +kernel, rfl⟩
theorem D_X6_ask_9 : qj cX6_ask 9 (.ifCond .lt 8) (8) 12 17 := ⟨by decide +kernel, rfl, by decide⟩
theorem D_X6_ask_12 : qd cX6_ask 12 (.iload_n 2) 1 13 := ⟨by decide +kernel, rfl⟩
theorem D_X6_ask_13 : qd cX6_ask 13 (.iconst 1) 1 14 := ⟨by decide +kernel, rfl⟩
theorem D_X6_ask_14 : qj cX6_ask 14 (.if_icmp .le 6) (6) 17 20 := ⟨by decide +kernel, rfl, by decide⟩
theorem D_X6_ask_17 : qd cX6_ask 17 (.ldc 59) 2 19 := ⟨by decide +kernel, rfl⟩
theorem D_X6_ask_19 : qd cX6_ask 19 (.ireturn) 1 20 := ⟨by decide +kernel, rfl⟩
theorem D_X6_ask_20 : qd cX6_ask 20 (.aload_n 0) 1 21 := ⟨by decide +kernel, rfl⟩
theorem D_X6_ask_21 : qd cX6_ask 21 (.getfield 50) 3 24 := ⟨by decide +kernel, rfl⟩
theorem D_X6_ask_24 : qd cX6_ask 24 (.aload_n 0) 1 25 := ⟨by decide +kernel, rfl⟩
theorem D_X6_ask_25 : qd cX6_ask 25 (.getfield 25) 3 28 := ⟨by decide +kernel, rfl⟩
theorem D_X6_ask_28 : qd cX6_ask 28 (.iload_n 1) 1 29 := ⟨by decide +kernel, rfl⟩
theorem D_X6_ask_29 : qd cX6_ask 29 (.iload_n 2) 1 30 := ⟨by decide +kernel, rfl⟩
theorem D_X6_ask_30 : qd cX6_ask 30 (.invokevirtual 258) 3 33 := ⟨by decide +kernel, rfl⟩
theorem D_X6_ask_33 : qd cX6_ask 33 (.ireturn) 1 34 := ⟨by decide +kernel, rfl⟩
theorem D_X6_awake_0 : qd cX6_awake 0 (.aload_n 0) 1 1 := ⟨by decide +kernel, rfl⟩
theorem D_X6_awake_1 : qd cX6_awake 1 (.invokevirtual 135) 3 4 := ⟨by decide +kernel, rfl⟩
theorem D_X6_awake_4 : qj cX6_awake 4 (.ifCond .eq 7) (7) 7 11 := ⟨by decide +kernel, rfl, by decide⟩
theorem D_X6_awake_7 : qd cX6_awake 7 (.ldc2_w 233) 3 10 := ⟨by decide +kernel, rfl⟩
theorem D_X6_awake_10 : qd cX6_awake 10 (.lreturn) 1 11 := ⟨by decide +kernel, rfl⟩
theorem D_X6_awake_11 : qd cX6_awake 11 (.aload_n 0) 1 12 := ⟨by decide +kernel, rfl⟩
theorem D_X6_awake_12 : qd cX6_awake 12 (.iload_n 1) 1 13 := ⟨by decide +kernel, rfl⟩
theorem D_X6_awake_13 : qd cX6_awake 13 (.invokevirtual 173) 3 16 := ⟨by decide +kernel, rfl⟩
theorem D_X6_awake_16 : qj cX6_awake 16 (.ifCond .eq 22) (22) 19 38 := ⟨by decide +kernel, rfl, by decide⟩
theorem D_X6_awake_19 : qd cX6_awake 19 (.iload_n 2) 1 20 := ⟨by decide +kernel, rfl⟩
theorem D_X6_awake_20 : qj cX6_awake 20 (.ifCond .lt 18) (18) 23 38 := ⟨by decide +kernel, rfl, by decide⟩
theorem D_X6_awake_23 : qd cX6_awake 23 (.iload_n 2) 1 24 := ⟨by decide +kernel, rfl⟩
theorem D_X6_awake_24 : qd cX6_awake 24 (.bipush 10) 2 26 := ⟨by decide +kernel, rfl⟩
theorem D_X6_awake_26 : qj cX6_awake 26 (.if_icmp .gt 12) (12) 29 38 := ⟨by decide +kernel, rfl, by decide⟩
theorem D_X6_awake_29 : qd cX6_awake 29 (.iload_n 3) 1 30 := ⟨by decide +kernel, rfl⟩
theorem D_X6_awake_30 : qj cX6_awake 30 (.ifCond .lt 8) (8) 33 38 := ⟨by decide +kernel, rfl, by decide⟩
theorem D_X6_awake_33 : qd cX6_awake 33 (.iload_n 3) 1 34 := ⟨by decide +kernel, rfl⟩
theorem D_X6_awake_34 : qd cX6_awake 34 (.iconst 1) 1 35 := ⟨by decide +kernel, rfl⟩
theorem D_X6_awake_35 : qj cX6_awake 35 (.if_icmp .le 7) (7) 38 42 := ⟨by decide +kernel, rfl, by decide⟩
theorem D_X6_awake_38 : qd cX6_awake 38 (.ldc2_w 235) 3 41 := ⟨by decide +kernel, rfl⟩
theorem D_X6_awake_41 : qd cX6_awake 41 (.lreturn) 1 42 := ⟨by decide +kernel, rfl⟩
theorem D_X6_awake_42 : qd cX6_awake 42 (.aload_n 0) 1 43 := ⟨by decide +kernel, rfl⟩
theorem D_X6_awake_43 : qd cX6_awake 43 (.getfield 43) 3 46 := ⟨by decide +kernel, rfl⟩
theorem D_X6_awake_46 : qd cX6_awake 46 (.aload_n 0) 1 47 := ⟨by decide +kernel, rfl⟩
theorem D_X6_awake_47 : qd cX6_awake 47 (.getfield 25) 3 50 := ⟨by decide +kernel, rfl⟩
theorem D_X6_awake_50 : qd cX6_awake 50 (.iload_n 1) 1 51 := ⟨by decide +kernel, rfl⟩
theorem D_X6_awake_51 : qd cX6_awake 51 (.iload_n 2) 1 52 := ⟨by decide +kernel, rfl⟩
theorem D_X6_awake_52 : qd cX6_awake 52 (.iload_n 3) 1 53 := ⟨by decide +kernel, rfl⟩
theorem D_X6_awake_53 : qj cX6_awake 53 (.ifCond .ne 7) (7) 56 60 := ⟨by decide +kernel, rfl, by decide⟩
theorem D_X6_awake_56 : qd cX6_awake 56 (.iconst 1) 1 57 := ⟨by decide +kernel, rfl⟩
theorem D_X6_awake_57 : qj cX6_awake 57 (.goto 4) (4) 60 61 := ⟨by decide +kernel, rfl, by decide⟩
theorem D_X6_awake_60 : qd cX6_awake 60 (.iconst 0) 1 61 := ⟨by decide +kernel, rfl⟩
theorem D_X6_awake_61 : qd cX6_awake 61 (.invokevirtual 237) 3 64 := ⟨by decide +kernel, rfl⟩
theorem D_X6_awake_64 : qd cX6_awake 64 (.lreturn) 1 65 := ⟨by decide +kernel, rfl⟩
theorem D_X6_bit_0 : qd cX6_bit 0 (.iload_n 0) 1 1 := ⟨by decide +kernel, rfl⟩
theorem D_X6_bit_1 : qj cX6_bit 1 (.ifCond .ge 7) (7) 4 8 := ⟨by decide +kernel, rfl, by decide⟩
theorem D_X6_bit_4 : qd cX6_bit 4 (.iconst 0) 1 5 := ⟨by decide +kernel, rfl⟩
theorem D_X6_bit_5 : qj cX6_bit 5 (.goto 6) (6) 8 11 := ⟨by decide +kernel, rfl, by decide⟩
theorem D_X6_bit_8 : qd cX6_bit 8 (.iconst 1) 1 9 := ⟨by decide +kernel, rfl⟩
theorem D_X6_bit_9 : qd cX6_bit 9 (.iload_n 0) 1 10 := ⟨by decide +kernel, rfl⟩
theorem D_X6_bit_10 : qd cX6_bit 10 (.ishl) 1 11 := ⟨by decide +kernel, rfl⟩
theorem D_X6_bit_11 : qd cX6_bit 11 (.ireturn) 1 12 := ⟨by decide +kernel, rfl⟩
theorem D_X6_bound_0 : qd cX6_bound 0 (.aload_n 0) 1 1 := ⟨by decide +kernel, rfl⟩
theorem D_X6_bound_1 : qd cX6_bound 1 (.invokevirtual 135) 3 4 := ⟨by decide +kernel, rfl⟩
theorem D_X6_bound_4 : qj cX6_bound 4 (.ifCond .eq 6) (6) 7 10 := ⟨by decide +kernel, rfl, by decide⟩
theorem D_X6_bound_7 : qd cX6_bound 7 (.ldc 134) 2 9 := ⟨by decide +kernel, rfl⟩
theorem D_X6_bound_9 : qd cX6_bound 9 (.ireturn) 1 10 := ⟨by decide +kernel, rfl⟩
theorem D_X6_bound_10 : qd cX6_bound 10 (.aload_n 0) 1 11 := ⟨by decide +kernel, rfl⟩
theorem D_X6_bound_11 : qd cX6_bound 11 (.iload_n 1) 1 12 := ⟨by decide +kernel, rfl⟩
theorem D_X6_bound_12 : qd cX6_bound 12 (.invokevirtual 173) 3 15 := ⟨by decide +kernel, rfl⟩
theorem D_X6_bound_15 : qj cX6_bound 15 (.ifCond .eq 19) (19) 18 34 := ⟨by decide +kernel, rfl, by decide⟩
theorem D_X6_bound_18 : qd cX6_bound 18 (.aload_n 0) 1 19 := ⟨by decide +kernel, rfl⟩
theorem D_X6_bound_19 : qd cX6_bound 19 (.getfield 43) 3 22 := ⟨by decide +kernel, rfl⟩
theorem D_X6_bound_22 : qd cX6_bound 22 (.aload_n 0) 1 23 := ⟨by decide +kernel, rfl⟩
theorem D_X6_bound_23 : qd cX6_bound 23 (.getfield 25) 3 26 := ⟨by decide +kernel, rfl⟩
theorem D_X6_bound_26 : qd cX6_bound 26 (.iload_n 1) 1 27 := ⟨by decide +kernel, rfl⟩
theorem D_X6_bound_27 : qd cX6_bound 27 (.iconst 1) 1 28 := ⟨by decide +kernel, rfl⟩
theorem D_X6_bound_28 : qd cX6_bound 28 (.invokevirtual 193) 3 31 := ⟨by decide +kernel, rfl⟩
theorem D_X6_bound_31 : qj cX6_bound 31 (.goto 5) (5) 34 36 := ⟨by decide +kernel, rfl, by decide⟩
theorem D_X6_bound_34 : qd cX6_bound 34 (.ldc 59) 2 36 := ⟨by decide +kernel, rfl⟩
theorem D_X6_bound_36 : qd cX6_bound 36 (.ireturn) 1 37 := ⟨by decide +kernel, rfl⟩
theorem D_X6_bury_0 : qd cX6_bury 0 (.aload_n 0) 1 1 := ⟨by decide +kernel, rfl⟩
theorem D_X6_bury_1 : qd cX6_bury 1 (.iload_n 2) 1 2 := ⟨by decide +kernel, rfl⟩
theorem D_X6_bury_2 : qd cX6_bury 2 (.invokevirtual 150) 3 5 := ⟨by decide +kernel, rfl⟩
theorem D_X6_bury_5 : qj cX6_bury 5 (.ifCond .eq 11) (11) 8 16 := ⟨by decide +kernel, rfl, by decide⟩
theorem D_X6_bury_8 : qd cX6_bury 8 (.aload_n 0) 1 9 := ⟨by decide +kernel, rfl⟩
theorem D_X6_bury_9 : qd cX6_bury 9 (.iload_n 1) 1 10 := ⟨by decide +kernel, rfl⟩
theorem D_X6_bury_10 : qd cX6_bury 10 (.invokevirtual 173) 3 13 := ⟨by decide +kernel, rfl⟩
theorem D_X6_bury_13 : qj cX6_bury 13 (.ifCond .ne 6) (6) 16 19 := ⟨by decide +kernel, rfl, by decide⟩
theorem D_X6_bury_16 : qd cX6_bury 16 (.ldc 59) 2 18 := ⟨by decide +kernel, rfl⟩
theorem D_X6_bury_18 : qd cX6_bury 18 (.ireturn) 1 19 := ⟨by decide +kernel, rfl⟩
theorem D_X6_bury_19 : qd cX6_bury 19 (.aload_n 0) 1 20 := ⟨by decide +kernel, rfl⟩
theorem D_X6_bury_20 : qd cX6_bury 20 (.getfield 25) 3 23 := ⟨by decide +kernel, rfl⟩
theorem D_X6_bury_23 : qd cX6_bury 23 (.getfield 147) 3 26 := ⟨by decide +kernel, rfl⟩
theorem D_X6_bury_26 : qd cX6_bury 26 (.iload_n 1) 1 27 := ⟨by decide +kernel, rfl⟩
theorem D_X6_bury_27 : qd cX6_bury 27 (.invokestatic 156) 3 30 := ⟨by decide +kernel, rfl⟩
theorem D_X6_bury_30 : qj cX6_bury 30 (.ifCond .eq 6) (6) 33 36 := ⟨by decide +kernel, rfl, by decide⟩
theorem D_X6_bury_33 : qd cX6_bury 33 (.ldc 134) 2 35 := ⟨by decide +kernel, rfl⟩
theorem D_X6_bury_35 : qd cX6_bury 35 (.ireturn) 1 36 := ⟨by decide +kernel, rfl⟩
theorem D_X6_bury_36 : qd cX6_bury 36 (.aload_n 0) 1 37 := ⟨by decide +kernel, rfl⟩
theorem D_X6_bury_37 : qd cX6_bury 37 (.getfield 32) 3 40 := ⟨by decide +kernel, rfl⟩
theorem D_X6_bury_40 : qd cX6_bury 40 (.aload_n 0) 1 41 := ⟨by decide +kernel, rfl⟩
theorem D_X6_bury_41 : qd cX6_bury 41 (.getfield 25) 3 44 := ⟨by decide +kernel, rfl⟩
theorem D_X6_bury_44 : qd cX6_bury 44 (.invokevirtual 141) 3 47 := ⟨by decide +kernel, rfl⟩
theorem D_X6_bury_47 : qd cX6_bury 47 (.aload_n 0) 1 48 := ⟨by decide +kernel, rfl⟩
theorem D_X6_bury_48 : qd cX6_bury 48 (.getfield 25) 3 51 := ⟨by decide +kernel, rfl⟩
theorem D_X6_bury_51 : qd cX6_bury 51 (.dup) 1 52 := ⟨by decide +kernel, rfl⟩
theorem D_X6_bury_52 : qd cX6_bury 52 (.getfield 147) 3 55 := ⟨by decide +kernel, rfl⟩
theorem D_X6_bury_55 : qd cX6_bury 55 (.iload_n 1) 1 56 := ⟨by decide +kernel, rfl⟩
theorem D_X6_bury_56 : qd cX6_bury 56 (.invokestatic 159) 3 59 := ⟨by decide +kernel, rfl⟩
theorem D_X6_bury_59 : qd cX6_bury 59 (.ior) 1 60 := ⟨by decide +kernel, rfl⟩
theorem D_X6_bury_60 : qd cX6_bury 60 (.putfield 147) 3 63 := ⟨by decide +kernel, rfl⟩
theorem D_X6_bury_63 : qd cX6_bury 63 (.aload_n 0) 1 64 := ⟨by decide +kernel, rfl⟩
theorem D_X6_bury_64 : qd cX6_bury 64 (.getfield 25) 3 67 := ⟨by decide +kernel, rfl⟩
theorem D_X6_bury_67 : qd cX6_bury 67 (.iload_n 2) 1 68 := ⟨by decide +kernel, rfl⟩
theorem D_X6_bury_68 : qd cX6_bury 68 (.iload_n 1) 1 69 := ⟨by decide +kernel, rfl⟩
theorem D_X6_bury_69 : qd cX6_bury 69 (.bipush 27) 2 71 := ⟨by decide +kernel, rfl⟩
theorem D_X6_bury_71 : qd cX6_bury 71 (.invokevirtual 179) 3 74 := ⟨by decide +kernel, rfl⟩
theorem D_X6_bury_74 : qd cX6_bury 74 (.aload_n 0) 1 75 := ⟨by decide +kernel, rfl⟩
theorem D_X6_bury_75 : qd cX6_bury 75 (.getfield 25) 3 78 := ⟨by decide +kernel, rfl⟩
theorem D_X6_bury_78 : qd cX6_bury 78 (.getfield 147) 3 81 := ⟨by decide +kernel, rfl⟩
theorem D_X6_bury_81 : qd cX6_bury 81 (.ireturn) 1 82 := ⟨by decide +kernel, rfl⟩
theorem D_X6_cheese_0 : qd cX6_cheese 0 (.aload_n 0) 1 1 := ⟨by decide +kernel, rfl⟩
theorem D_X6_cheese_1 : qd cX6_cheese 1 (.invokevirtual 135) 3 4 := ⟨by decide +kernel, rfl⟩
theorem D_X6_cheese_4 : qj cX6_cheese 4 (.ifCond .eq 6) (6) 7 10 := ⟨by decide +kernel, rfl, by decide⟩
theorem D_X6_cheese_7 : qd cX6_cheese 7 (.ldc 134) 2 9 := ⟨by decide +kernel, rfl⟩
theorem D_X6_cheese_9 : qd cX6_cheese 9 (.ireturn) 1 10 := ⟨by decide +kernel, rfl⟩
theorem D_X6_cheese_10 : qd cX6_cheese 10 (.iload_n 1) 1 11 := ⟨by decide +kernel, rfl⟩
theorem D_X6_cheese_11 : qd cX6_cheese 11 (.iconst 1) 1 12 := ⟨by decide +kernel, rfl⟩
theorem D_X6_cheese_12 : qj cX6_cheese 12 (.if_icmp .lt 9) (9) 15 21 := ⟨by decide +kernel, rfl, by decide⟩
theorem D_X6_cheese_15 : qd cX6_cheese 15 (.iload_n 1) 1 16 := ⟨by decide +kernel, rfl⟩
theorem D_X6_cheese_16 : qd cX6_cheese 16 (.bipush 40) 2 18 := ⟨by decide +kernel, rfl⟩
theorem D_X6_cheese_18 : qj cX6_cheese 18 (.if_icmp .le 8) (8) 21 26 := ⟨by decide +kernel, rfl, by decide⟩
theorem D_X6_cheese_21 : qd cX6_cheese 21 (.ldc 59) 2 23 := ⟨by decide +kernel, rfl⟩
theorem D_X6_cheese_23 : qj cX6_cheese 23 (.goto 15) (15) 26 38 := ⟨by decide +kernel, rfl, by decide⟩
theorem D_X6_cheese_26 : qd cX6_cheese 26 (.aload_n 0) 1 27 := ⟨by decide +kernel, rfl⟩
theorem D_X6_cheese_27 : qd cX6_cheese 27 (.getfield 43) 3 30 := ⟨by decide +kernel, rfl⟩
theorem D_X6_cheese_30 : qd cX6_cheese 30 (.aload_n 0) 1 31 := ⟨by decide +kernel, rfl⟩
theorem D_X6_cheese_31 : qd cX6_cheese 31 (.getfield 25) 3 34 := ⟨by decide +kernel, rfl⟩
theorem D_X6_cheese_34 : qd cX6_cheese 34 (.iload_n 1) 1 35 := ⟨by decide +kernel, rfl⟩
theorem D_X6_cheese_35 : qd cX6_cheese 35 (.invokevirtual 230) 3 38 := ⟨by decide +kernel, rfl⟩
theorem D_X6_cheese_38 : qd cX6_cheese 38 (.ireturn) 1 39 := ⟨by decide +kernel, rfl⟩
theorem D_X6_copy_0 : qd cX6_copy 0 (.iload_n 1) 1 1 := ⟨by decide +kernel, rfl⟩
theorem D_X6_copy_1 : qd cX6_copy 1 (.invokestatic 55) 3 4 := ⟨by decide +kernel, rfl⟩
theorem D_X6_copy_4 : qj cX6_copy 4 (.ifCond .eq 10) (10) 7 14 := ⟨by decide +kernel, rfl, by decide⟩
theorem D_X6_copy_7 : qd cX6_copy 7 (.iload_n 3) 1 8 := ⟨by decide +kernel, rfl⟩
theorem D_X6_copy_8 : qd cX6_copy 8 (.invokestatic 55) 3 11 := ⟨by decide +kernel, rfl⟩
theorem D_X6_copy_11 : qj cX6_copy 11 (.ifCond .ne 6) (6) 14 17 := ⟨by decide +kernel, rfl, by decide⟩
theorem D_X6_copy_14 : qd cX6_copy 14 (.ldc 59) 2 16 := ⟨by decide +kernel, rfl⟩
theorem D_X6_copy_16 : qd cX6_copy 16 (.ireturn) 1 17 := ⟨by decide +kernel, rfl⟩
theorem D_X6_copy_17 : qd cX6_copy 17 (.aload_n 0) 1 18 := ⟨by decide +kernel, rfl⟩
theorem D_X6_copy_18 : qd cX6_copy 18 (.getfield 11) 3 21 := ⟨by decide +kernel, rfl⟩
theorem D_X6_copy_21 : qd cX6_copy 21 (.iload_n 1) 1 22 := ⟨by decide +kernel, rfl⟩
theorem D_X6_copy_22 : qd cX6_copy 22 (.aaload) 1 23 := ⟨by decide +kernel, rfl⟩
theorem D_X6_copy_23 : qd cX6_copy 23 (.astore 6) 2 25 := ⟨by decide +kernel, rfl⟩
theorem D_X6_copy_25 : qd cX6_copy 25 (.aload_n 0) 1 26 := ⟨by decide +kernel, rfl⟩
theorem D_X6_copy_26 : qd cX6_copy 26 (.getfield 11) 3 29 := ⟨by decide +kernel, rfl⟩
theorem D_X6_copy_29 : qd cX6_copy 29 (.iload_n 3) 1 30 := ⟨by decide +kernel, rfl⟩
theorem D_X6_copy_30 : qd cX6_copy 30 (.aaload) 1 31 := ⟨by decide +kernel, rfl⟩
theorem D_X6_copy_31 : qd cX6_copy 31 (.astore 7) 2 33 := ⟨by decide +kernel, rfl⟩
theorem D_X6_copy_33 : qd cX6_copy 33 (.aload 6) 2 35 := ⟨by decide +kernel, rfl⟩
theorem D_X6_copy_35 : qd cX6_copy 35 (.invokevirtual 78) 3 38 := ⟨by decide +kernel, rfl⟩
theorem D_X6_copy_38 : qj cX6_copy 38 (.ifCond .ne 11) (11) 41 49 := ⟨by decide +kernel, rfl, by decide⟩
theorem D_X6_copy_41 : qd cX6_copy 41 (.aload 7) 2 43 := ⟨by decide +kernel, rfl⟩
theorem D_X6_copy_43 : qd cX6_copy 43 (.invokevirtual 78) 3 46 := ⟨by decide +kernel, rfl⟩
theorem D_X6_copy_46 : qj cX6_copy 46 (.ifCond .eq 9) (9) 49 55 := ⟨by decide +kernel, rfl, by decide⟩
theorem D_X6_copy_49 : qd cX6_copy 49 (.aload_n 0) 1 50 := ⟨by decide +kernel, rfl⟩
theorem D_X6_copy_50 : qd cX6_copy 50 (.iconst 1) 1 51 := ⟨by decide +kernel, rfl⟩
theorem D_X6_copy_51 : qd cX6_copy 51 (.invokevirtual 60) 3 54 := ⟨by decide +kernel, rfl⟩
theorem D_X6_copy_54 : qd cX6_copy 54 (.ireturn) 1 55 := ⟨by decide +kernel, rfl⟩
theorem D_X6_copy_55 : qd cX6_copy 55 (.aload 6) 2 57 := ⟨by decide +kernel, rfl⟩
theorem D_X6_copy_57 : qd cX6_copy 57 (.getfield 82) 3 60 := ⟨by decide +kernel, rfl⟩
theorem D_X6_copy_60 : qd cX6_copy 60 (.aload 7) 2 62 := ⟨by decide +kernel, rfl⟩
theorem D_X6_copy_62 : qd cX6_copy 62 (.getfield 82) 3 65 := ⟨by decide +kernel, rfl⟩
theorem D_X6_copy_65 : qj cX6_copy 65 (.if_icmp .eq 9) (9) 68 74 := ⟨by decide +kernel, rfl, by decide⟩
theorem D_X6_copy_68 : qd cX6_copy 68 (.aload_n 0) 1 69 := ⟨by decide +kernel, rfl⟩
theorem D_X6_copy_69 : qd cX6_copy 69 (.iconst 5) 1 70 := ⟨by decide +kernel, rfl⟩
theorem D_X6_copy_70 : qd cX6_copy 70 (.invokevirtual 60) 3 73 := ⟨by decide +kernel, rfl⟩
theorem D_X6_copy_73 : qd cX6_copy 73 (.ireturn) 1 74 := ⟨by decide +kernel, rfl⟩
theorem D_X6_copy_74 : qd cX6_copy 74 (.aload 6) 2 76 := ⟨by decide +kernel, rfl⟩
theorem D_X6_copy_76 : qd cX6_copy 76 (.iload_n 2) 1 77 := ⟨by decide +kernel, rfl⟩
theorem D_X6_copy_77 : qd cX6_copy 77 (.iload 5) 2 79 := ⟨by decide +kernel, rfl⟩
theorem D_X6_copy_79 : qd cX6_copy 79 (.invokevirtual 86) 3 82 := ⟨by decide +kernel, rfl⟩
theorem D_X6_copy_82 : qj cX6_copy 82 (.ifCond .eq 15) (15) 85 97 := ⟨by decide +kernel, rfl, by decide⟩
theorem D_X6_copy_85 : qd cX6_copy 85 (.aload 7) 2 87 := ⟨by decide +kernel, rfl⟩
theorem D_X6_copy_87 : qd cX6_copy 87 (.iload 4) 2 89 := ⟨by decide +kernel, rfl⟩
theorem D_X6_copy_89 : qd cX6_copy 89 (.iload 5) 2 91 := ⟨by decide +kernel, rfl⟩
theorem D_X6_copy_91 : qd cX6_copy 91 (.invokevirtual 86) 3 94 := ⟨by decide +kernel, rfl⟩
theorem D_X6_copy_94 : qj cX6_copy 94 (.ifCond .ne 9) (9) 97 103 := ⟨by decide +kernel, rfl, by decide⟩
theorem D_X6_copy_97 : qd cX6_copy 97 (.aload_n 0) 1 98 := ⟨by decide +kernel, rfl⟩
theorem D_X6_copy_98 : qd cX6_copy 98 (.iconst 2) 1 99 := ⟨by decide +kernel, rfl⟩
theorem D_X6_copy_99 : qd cX6_copy 99 (.invokevirtual 60) 3 102 := ⟨by decide +kernel, rfl⟩
theorem D_X6_copy_102 : qd cX6_copy 102 (.ireturn) 1 103 := ⟨by decide +kernel, rfl⟩
theorem D_X6_copy_103 : qd cX6_copy 103 (.aload 6) 2 105 := ⟨by decide +kernel, rfl⟩
theorem D_X6_copy_105 : qd cX6_copy 105 (.getfield 90) 3 108 := ⟨by decide +kernel, rfl⟩
theorem D_X6_copy_108 : qd cX6_copy 108 (.iload_n 2) 1 109 := ⟨by decide +kernel, rfl⟩
theorem D_X6_copy_109 : qd cX6_copy 109 (.aload 7) 2 111 := ⟨by decide +kernel, rfl⟩
theorem D_X6_copy_111 : qd cX6_copy 111 (.getfield 90) 3 114 := ⟨by decide +kernel, rfl⟩
theorem D_X6_copy_114 : qd cX6_copy 114 (.iload 4) 2 116 := ⟨by decide +kernel, rfl⟩
theorem D_X6_copy_116 : qd cX6_copy 116 (.iload 5) 2 118 := ⟨by decide +kernel, rfl⟩
theorem D_X6_copy_118 : qd cX6_copy 118 (.invokestatic 94) 3 121 := ⟨by decide +kernel, rfl⟩
theorem D_X6_copy_121 : qd cX6_copy 121 (.aload_n 0) 1 122 := ⟨by decide +kernel, rfl⟩
theorem D_X6_copy_122 : qd cX6_copy 122 (.iload 5) 2 124 := ⟨by decide +kernel, rfl⟩
theorem D_X6_copy_124 : qd cX6_copy 124 (.invokevirtual 68) 3 127 := ⟨by decide +kernel, rfl⟩
theorem D_X6_copy_127 : qd cX6_copy 127 (.ireturn) 1 128 := ⟨by decide +kernel, rfl⟩
theorem D_X6_count_0 : qd cX6_count 0 (.iload_n 1) 1 1 := ⟨by decide +kernel, rfl⟩
theorem D_X6_count_1 : qd cX6_count 1 (.tableswitch 108 0 7 #[47, 52, 60, 68, 76, 84, 92, 100]) 47 48 := ⟨by decide +kernel, rfl⟩
theorem D_X6_count_48 : qd cX6_count 48 (.aload_n 0) 1 49 := ⟨by decide +kernel, rfl⟩
theorem D_X6_count_49 : qd cX6_count 49 (.invokevirtual 267) 3 52 := ⟨by decide +kernel, rfl⟩
theorem D_X6_count_52 : qd cX6_count 52 (.ireturn) 1 53 := ⟨by decide +kernel, rfl⟩
theorem D_X6_count_53 : qd cX6_count 53 (.aload_n 0) 1 54 := ⟨by decide +kernel, rfl⟩
theorem D_X6_count_54 : qd cX6_count 54 (.getfield 25) 3 57 := ⟨by decide +kernel, rfl⟩
theorem D_X6_count_57 : qd cX6_count 57 (.getfield 201) 3 60 := ⟨by decide +kernel, rfl⟩
theorem D_X6_count_60 : qd cX6_count 60 (.ireturn) 1 61 := ⟨by decide +kernel, rfl⟩
theorem D_X6_count_61 : qd cX6_count 61 (.aload_n 0) 1 62 := ⟨by decide +kernel, rfl⟩
theorem D_X6_count_62 : qd cX6_count 62 (.getfield 25) 3 65 := ⟨by decide +kernel, rfl⟩
theorem D_X6_count_65 : qd cX6_count 65 (.getfield 123) 3 68 := ⟨by decide +kernel, rfl⟩
theorem D_X6_count_68 : qd cX6_count 68 (.ireturn) 1 69 := ⟨by decide +kernel, rfl⟩
theorem D_X6_count_69 : qd cX6_count 69 (.aload_n 0) 1 70 := ⟨by decide +kernel, rfl⟩
theorem D_X6_count_70 : qd cX6_count 70 (.getfield 25) 3 73 := ⟨by decide +kernel, rfl⟩
theorem D_X6_count_73 : qd cX6_count 73 (.getfield 138) 3 76 := ⟨by decide +kernel, rfl⟩
theorem D_X6_count_76 : qd cX6_count 76 (.ireturn) 1 77 := ⟨by decide +kernel, rfl⟩
theorem D_X6_count_77 : qd cX6_count 77 (.aload_n 0) 1 78 := ⟨by decide +kernel, rfl⟩
theorem D_X6_count_78 : qd cX6_count 78 (.getfield 25) 3 81 := ⟨by decide +kernel, rfl⟩
theorem D_X6_count_81 : qd cX6_count 81 (.getfield 147) 3 84 := ⟨by decide +kernel, rfl⟩
theorem D_X6_count_84 : qd cX6_count 84 (.ireturn) 1 85 := ⟨by decide +kernel, rfl⟩
theorem D_X6_count_85 : qd cX6_count 85 (.aload_n 0) 1 86 := ⟨by decide +kernel, rfl⟩
theorem D_X6_count_86 : qd cX6_count 86 (.getfield 25) 3 89 := ⟨by decide +kernel, rfl⟩
theorem D_X6_count_89 : qd cX6_count 89 (.getfield 153) 3 92 := ⟨by decide +kernel, rfl⟩
theorem D_X6_count_92 : qd cX6_count 92 (.ireturn) 1 93 := ⟨by decide +kernel, rfl⟩
theorem D_X6_count_93 : qd cX6_count 93 (.aload_n 0) 1 94 := ⟨by decide +kernel, rfl⟩
theorem D_X6_count_94 : qd cX6_count 94 (.getfield 32) 3 97 := ⟨by decide +kernel, rfl⟩
theorem D_X6_count_97 : qd cX6_count 97 (.getfield 133) 3 100 := ⟨by decide +kernel, rfl⟩
theorem D_X6_count_100 : qd cX6_count 100 (.ireturn) 1 101 := ⟨by decide +kernel, rfl⟩
theorem D_X6_count_101 : qd cX6_count 101 (.aload_n 0) 1 102 := ⟨by decide +kernel, rfl⟩
theorem D_X6_count_102 : qd cX6_count 102 (.getfield 18) 3 105 := ⟨by decide +kernel, rfl⟩
theorem D_X6_count_105 : qd cX6_count 105 (.getfield 106) 3 108 := ⟨by decide +kernel, rfl⟩
theorem D_X6_count_108 : qd cX6_count 108 (.ireturn) 1 109 := ⟨by decide +kernel, rfl⟩
theorem D_X6_count_109 : qd cX6_count 109 (.ldc 59) 2 111 := ⟨by decide +kernel, rfl⟩
theorem D_X6_count_111 : qd cX6_count 111 (.ireturn) 1 112 := ⟨by decide +kernel, rfl⟩
theorem D_X6_drawn_0 : qd cX6_drawn 0 (.aload_n 0) 1 1 := ⟨by decide +kernel, rfl⟩
theorem D_X6_drawn_1 : qd cX6_drawn 1 (.invokevirtual 135) 3 4 := ⟨by decide +kernel, rfl⟩
theorem D_X6_drawn_4 : qj cX6_drawn 4 (.ifCond .eq 6) (6) 7 10 := ⟨by decide +kernel, rfl, by decide⟩
theorem D_X6_drawn_7 : qd cX6_drawn 7 (.ldc 134) 2 9 := ⟨by decide +kernel, rfl⟩
theorem D_X6_drawn_9 : qd cX6_drawn 9 (.ireturn) 1 10 := ⟨by decide +kernel, rfl⟩
theorem D_X6_drawn_10 : qd cX6_drawn 10 (.iload_n 1) 1 11 := ⟨by decide +kernel, rfl⟩
theorem D_X6_drawn_11 : qj cX6_drawn 11 (.ifCond .lt 29) (29) 14 40 := ⟨by decide +kernel, rfl, by decide⟩
theorem D_X6_drawn_14 : qd cX6_drawn 14 (.iload_n 1) 1 15 := ⟨by decide +kernel, rfl⟩
theorem D_X6_drawn_15 : qd cX6_drawn 15 (.bipush 40) 2 17 := ⟨by decide +kernel, rfl⟩
theorem D_X6_drawn_17 : qj cX6_drawn 17 (.if_icmp .gt 23) (23) 20 40 := ⟨by decide +kernel, rfl, by decide⟩
theorem D_X6_drawn_20 : qd cX6_drawn 20 (.iload_n 2) 1 21 := ⟨by decide +kernel, rfl⟩
theorem D_X6_drawn_21 : qd cX6_drawn 21 (.iconst 1) 1 22 := ⟨by decide +kernel, rfl⟩
theorem D_X6_drawn_22 : qj cX6_drawn 22 (.if_icmp .lt 18) (18) 25 40 := ⟨by decide +kernel, rfl, by decide⟩
theorem D_X6_drawn_25 : qd cX6_drawn 25 (.iload_n 2) 1 26 := ⟨by decide +kernel, rfl⟩
theorem D_X6_drawn_26 : qd cX6_drawn 26 (.ldc 241) 2 28 := ⟨by decide +kernel, rfl⟩
theorem D_X6_drawn_28 : qj cX6_drawn 28 (.if_icmp .gt 12) (12) 31 40 := ⟨by decide +kernel, rfl, by decide⟩
theorem D_X6_drawn_31 : qd cX6_drawn 31 (.iload_n 3) 1 32 := ⟨by decide +kernel, rfl⟩
theorem D_X6_drawn_32 : qj cX6_drawn 32 (.ifCond .lt 8) (8) 35 40 := ⟨by decide +kernel, rfl, by decide⟩
theorem D_X6_drawn_35 : qd cX6_drawn 35 (.iload_n 3) 1 36 := ⟨by decide +kernel, rfl⟩
theorem D_X6_drawn_36 : qd cX6_drawn 36 (.iconst 1) 1 37 := ⟨by decide +kernel, rfl⟩
theorem D_X6_drawn_37 : qj cX6_drawn 37 (.if_icmp .le 6) (6) 40 43 := ⟨by decide +kernel, rfl, by decide⟩
theorem D_X6_drawn_40 : qd cX6_drawn 40 (.ldc 59) 2 42 := ⟨by decide +kernel, rfl⟩
theorem D_X6_drawn_42 : qd cX6_drawn 42 (.ireturn) 1 43 := ⟨by decide +kernel, rfl⟩
theorem D_X6_drawn_43 : qd cX6_drawn 43 (.aload_n 0) 1 44 := ⟨by decide +kernel, rfl⟩
theorem D_X6_drawn_44 : qd cX6_drawn 44 (.getfield 43) 3 47 := ⟨by decide +kernel, rfl⟩
theorem D_X6_drawn_47 : qd cX6_drawn 47 (.aload_n 0) 1 48 := ⟨by decide +kernel, rfl⟩
theorem D_X6_drawn_48 : qd cX6_drawn 48 (.getfield 25) 3 51 := ⟨by decide +kernel, rfl⟩
theorem D_X6_drawn_51 : qd cX6_drawn 51 (.iload_n 1) 1 52 := ⟨by decide +kernel, rfl⟩
theorem D_X6_drawn_52 : qd cX6_drawn 52 (.iload_n 2) 1 53 := ⟨by decide +kernel, rfl⟩
theorem D_X6_drawn_53 : qd cX6_drawn 53 (.invokevirtual 242) 3 56 := ⟨by decide +kernel, rfl⟩
theorem D_X6_drawn_56 : qd cX6_drawn 56 (.astore 4) 2 58 := ⟨by decide +kernel, rfl⟩
theorem D_X6_drawn_58 : qd cX6_drawn 58 (.iload_n 3) 1 59 := ⟨by decide +kernel, rfl⟩
theorem D_X6_drawn_59 : qj cX6_drawn 59 (.ifCond .ne 11) (11) 62 70 := ⟨by decide +kernel, rfl, by decide⟩
theorem D_X6_drawn_62 : qd cX6_drawn 62 (.aload 4) 2 64 := ⟨by decide +kernel, rfl⟩
theorem D_X6_drawn_64 : qd cX6_drawn 64 (.getfield 147) 3 67 := ⟨by decide +kernel, rfl⟩
theorem D_X6_drawn_67 : qj cX6_drawn 67 (.goto 8) (8) 70 75 := ⟨by decide +kernel, rfl, by decide⟩
theorem D_X6_drawn_70 : qd cX6_drawn 70 (.aload 4) 2 72 := ⟨by decide +kernel, rfl⟩
theorem D_X6_drawn_72 : qd cX6_drawn 72 (.invokevirtual 246) 3 75 := ⟨by decide +kernel, rfl⟩
theorem D_X6_drawn_75 : qd cX6_drawn 75 (.ireturn) 1 76 := ⟨by decide +kernel, rfl⟩
theorem D_X6_drop_0 : qd cX6_drop 0 (.iload_n 1) 1 1 := ⟨by decide +kernel, rfl⟩
theorem D_X6_drop_1 : qd cX6_drop 1 (.invokestatic 55) 3 4 := ⟨by decide +kernel, rfl⟩
theorem D_X6_drop_4 : qj cX6_drop 4 (.ifCond .ne 6) (6) 7 10 := ⟨by decide +kernel, rfl, by decide⟩
theorem D_X6_drop_7 : qd cX6_drop 7 (.ldc 59) 2 9 := ⟨by decide +kernel, rfl⟩
theorem D_X6_drop_9 : qd cX6_drop 9 (.ireturn) 1 10 := ⟨by decide +kernel, rfl⟩
theorem D_X6_drop_10 : qd cX6_drop 10 (.aload_n 0) 1 11 := ⟨by decide +kernel, rfl⟩
theorem D_X6_drop_11 : qd cX6_drop 11 (.getfield 11) 3 14 := ⟨by decide +kernel, rfl⟩
theorem D_X6_drop_14 : qd cX6_drop 14 (.iload_n 1) 1 15 := ⟨by decide +kernel, rfl⟩
theorem D_X6_drop_15 : qd cX6_drop 15 (.aaload) 1 16 := ⟨by decide +kernel, rfl⟩
theorem D_X6_drop_16 : qd cX6_drop 16 (.astore_n 2) 1 17 := ⟨by decide +kernel, rfl⟩
theorem D_X6_drop_17 : qd cX6_drop 17 (.aload_n 2) 1 18 := ⟨by decide +kernel, rfl⟩
theorem D_X6_drop_18 : qd cX6_drop 18 (.invokevirtual 78) 3 21 := ⟨by decide +kernel, rfl⟩
theorem D_X6_drop_21 : qj cX6_drop 21 (.ifCond .eq 9) (9) 24 30 := ⟨by decide +kernel, rfl, by decide⟩
theorem D_X6_drop_24 : qd cX6_drop 24 (.aload_n 0) 1 25 := ⟨by decide +kernel, rfl⟩
theorem D_X6_drop_25 : qd cX6_drop 25 (.iconst 1) 1 26 := ⟨by decide +kernel, rfl⟩
theorem D_X6_drop_26 : qd cX6_drop 26 (.invokevirtual 60) 3 29 := ⟨by decide +kernel, rfl⟩
theorem D_X6_drop_29 : qd cX6_drop 29 (.ireturn) 1 30 := ⟨by decide +kernel, rfl⟩
theorem D_X6_drop_30 : qd cX6_drop 30 (.aload_n 2) 1 31 := ⟨by decide +kernel, rfl⟩
theorem D_X6_drop_31 : qd cX6_drop 31 (.getfield 100) 3 34 := ⟨by decide +kernel, rfl⟩
theorem D_X6_drop_34 : qd cX6_drop 34 (.istore_n 3) 1 35 := ⟨by decide +kernel, rfl⟩
theorem D_X6_drop_35 : qd cX6_drop 35 (.aload_n 2) 1 36 := ⟨by decide +kernel, rfl⟩
theorem D_X6_drop_36 : qd cX6_drop 36 (.iconst (-1)) 1 37 := ⟨by decide +kernel, rfl⟩
theorem D_X6_drop_37 : qd cX6_drop 37 (.iconst 0) 1 38 := ⟨by decide +kernel, rfl⟩
theorem D_X6_drop_38 : qd cX6_drop 38 (.invokevirtual 64) 3 41 := ⟨by decide +kernel, rfl⟩
theorem D_X6_drop_41 : qd cX6_drop 41 (.aload_n 0) 1 42 := ⟨by decide +kernel, rfl⟩
theorem D_X6_drop_42 : qd cX6_drop 42 (.iload_n 3) 1 43 := ⟨by decide +kernel, rfl⟩
theorem D_X6_drop_43 : qd cX6_drop 43 (.invokevirtual 68) 3 46 := ⟨by decide +kernel, rfl⟩
theorem D_X6_drop_46 : qd cX6_drop 46 (.ireturn) 1 47 := ⟨by decide +kernel, rfl⟩
theorem D_X6_dug_0 : qd cX6_dug 0 (.aload_n 0) 1 1 := ⟨by decide +kernel, rfl⟩
theorem D_X6_dug_1 : qd cX6_dug 1 (.invokevirtual 135) 3 4 := ⟨by decide +kernel, rfl⟩
theorem D_X6_dug_4 : qj cX6_dug 4 (.ifCond .eq 6) (6) 7 10 := ⟨by decide +kernel, rfl, by decide⟩
theorem D_X6_dug_7 : qd cX6_dug 7 (.ldc 134) 2 9 := ⟨by decide +kernel, rfl⟩
theorem D_X6_dug_9 : qd cX6_dug 9 (.ireturn) 1 10 := ⟨by decide +kernel, rfl⟩
theorem D_X6_dug_10 : qd cX6_dug 10 (.aload_n 0) 1 11 := ⟨by decide +kernel, rfl⟩
theorem D_X6_dug_11 : qd cX6_dug 11 (.iload_n 1) 1 12 := ⟨by decide +kernel, rfl⟩
theorem D_X6_dug_12 : qd cX6_dug 12 (.invokevirtual 173) 3 15 := ⟨by decide +kernel, rfl⟩
theorem D_X6_dug_15 : qj cX6_dug 15 (.ifCond .eq 19) (19) 18 34 := ⟨by decide +kernel, rfl, by decide⟩
theorem D_X6_dug_18 : qd cX6_dug 18 (.aload_n 0) 1 19 := ⟨by decide +kernel, rfl⟩
theorem D_X6_dug_19 : qd cX6_dug 19 (.getfield 43) 3 22 := ⟨by decide +kernel, rfl⟩
theorem D_X6_dug_22 : qd cX6_dug 22 (.aload_n 0) 1 23 := ⟨by decide +kernel, rfl⟩
theorem D_X6_dug_23 : qd cX6_dug 23 (.getfield 25) 3 26 := ⟨by decide +kernel, rfl⟩
theorem D_X6_dug_26 : qd cX6_dug 26 (.iload_n 1) 1 27 := ⟨by decide +kernel, rfl⟩
theorem D_X6_dug_27 : qd cX6_dug 27 (.iconst 0) 1 28 := ⟨by decide +kernel, rfl⟩
theorem D_X6_dug_28 : qd cX6_dug 28 (.invokevirtual 193) 3 31 := ⟨by decide +kernel, rfl⟩
theorem D_X6_dug_31 : qj cX6_dug 31 (.goto 5) (5) 34 36 := ⟨by decide +kernel, rfl, by decide⟩
theorem D_X6_dug_34 : qd cX6_dug 34 (.ldc 59) 2 36 := ⟨by decide +kernel, rfl⟩
theorem D_X6_dug_36 : qd cX6_dug 36 (.ireturn) 1 37 := ⟨by decide +kernel, rfl⟩
theorem D_X6_fault_0 : qd cX6_fault 0 (.aload_n 0) 1 1 := ⟨by decide +kernel, rfl⟩
theorem D_X6_fault_1 : qd cX6_fault 1 (.getfield 18) 3 4 := ⟨by decide +kernel, rfl⟩
theorem D_X6_fault_4 : qd cX6_fault 4 (.getfield 126) 3 7 := ⟨by decide +kernel, rfl⟩
theorem D_X6_fault_7 : qd cX6_fault 7 (.ireturn) 1 8 := ⟨by decide +kernel, rfl⟩
theorem D_X6_feed_0 : qd cX6_feed 0 (.iload_n 1) 1 1 := ⟨by decide +kernel, rfl⟩
theorem D_X6_feed_1 : qj cX6_feed 1 (.ifCond .lt 10) (10) 4 11 := ⟨by decide +kernel, rfl, by decide⟩
theorem D_X6_feed_4 : qd cX6_feed 4 (.iload_n 1) 1 5 := ⟨by decide +kernel, rfl⟩
theorem D_X6_feed_5 : qd cX6_feed 5 (.sipush 255) 3 8 := ⟨by decide +kernel, rfl⟩
theorem D_X6_feed_8 : qj cX6_feed 8 (.if_icmp .le 6) (6) 11 14 := ⟨by decide +kernel, rfl, by decide⟩
theorem D_X6_feed_11 : qd cX6_feed 11 (.ldc 59) 2 13 := ⟨by decide +kernel, rfl⟩
theorem D_X6_feed_13 : qd cX6_feed 13 (.ireturn) 1 14 := ⟨by decide +kernel, rfl⟩
theorem D_X6_feed_14 : qd cX6_feed 14 (.aload_n 0) 1 15 := ⟨by decide +kernel, rfl⟩
theorem D_X6_feed_15 : qd cX6_feed 15 (.getfield 18) 3 18 := ⟨by decide +kernel, rfl⟩
theorem D_X6_feed_18 : qd cX6_feed 18 (.iload_n 1) 1 19 := ⟨by decide +kernel, rfl⟩
theorem D_X6_feed_19 : qd cX6_feed 19 (.invokevirtual 103) 3 22 := ⟨by decide +kernel, rfl⟩
theorem D_X6_feed_22 : qj cX6_feed 22 (.ifCond .eq 13) (13) 25 35 := ⟨by decide +kernel, rfl, by decide⟩
theorem D_X6_feed_25 : qd cX6_feed 25 (.aload_n 0) 1 26 := ⟨by decide +kernel, rfl⟩
theorem D_X6_feed_26 : qd cX6_feed 26 (.getfield 18) 3 29 := ⟨by decide +kernel, rfl⟩
theorem D_X6_feed_29 : qd cX6_feed 29 (.getfield 106) 3 32 := ⟨by decide +kernel, rfl⟩
theorem D_X6_feed_32 : qj cX6_feed 32 (.goto 5) (5) 35 37 := ⟨by decide +kernel, rfl, by decide⟩
theorem D_X6_feed_35 : qd cX6_feed 35 (.ldc 107) 2 37 := ⟨by decide +kernel, rfl⟩
theorem D_X6_feed_37 : qd cX6_feed 37 (.ireturn) 1 38 := ⟨by decide +kernel, rfl⟩
theorem D_X6_fever_0 : qd cX6_fever 0 (.aload_n 0) 1 1 := ⟨by decide +kernel, rfl⟩
theorem D_X6_fever_1 : qd cX6_fever 1 (.iload_n 1) 1 2 := ⟨by decide +kernel, rfl⟩
theorem D_X6_fever_2 : qd cX6_fever 2 (.invokevirtual 150) 3 5 := ⟨by decide +kernel, rfl⟩
theorem D_X6_fever_5 : qj cX6_fever 5 (.ifCond .ne 6) (6) 8 11 := ⟨by decide +kernel, rfl, by decide⟩
theorem D_X6_fever_8 : qd cX6_fever 8 (.ldc 59) 2 10 := ⟨by decide +kernel, rfl⟩
theorem D_X6_fever_10 : qd cX6_fever 10 (.ireturn) 1 11 := ⟨by decide +kernel, rfl⟩
theorem D_X6_fever_11 : qd cX6_fever 11 (.aload_n 0) 1 12 := ⟨by decide +kernel, rfl⟩
theorem D_X6_fever_12 : qd cX6_fever 12 (.getfield 25) 3 15 := ⟨by decide +kernel, rfl⟩
theorem D_X6_fever_15 : qd cX6_fever 15 (.getfield 167) 3 18 := ⟨by decide +kernel, rfl⟩
theorem D_X6_fever_18 : qd cX6_fever 18 (.iload_n 1) 1 19 := ⟨by decide +kernel, rfl⟩
theorem D_X6_fever_19 : qd cX6_fever 19 (.invokestatic 156) 3 22 := ⟨by decide +kernel, rfl⟩
theorem D_X6_fever_22 : qj cX6_fever 22 (.ifCond .eq 6) (6) 25 28 := ⟨by decide +kernel, rfl, by decide⟩
theorem D_X6_fever_25 : qd cX6_fever 25 (.ldc 134) 2 27 := ⟨by decide +kernel, rfl⟩
theorem D_X6_fever_27 : qd cX6_fever 27 (.ireturn) 1 28 := ⟨by decide +kernel, rfl⟩
theorem D_X6_fever_28 : qd cX6_fever 28 (.aload_n 0) 1 29 := ⟨by decide +kernel, rfl⟩
theorem D_X6_fever_29 : qd cX6_fever 29 (.getfield 32) 3 32 := ⟨by decide +kernel, rfl⟩
theorem D_X6_fever_32 : qd cX6_fever 32 (.aload_n 0) 1 33 := ⟨by decide +kernel, rfl⟩
theorem D_X6_fever_33 : qd cX6_fever 33 (.getfield 25) 3 36 := ⟨by decide +kernel, rfl⟩
theorem D_X6_fever_36 : qd cX6_fever 36 (.invokevirtual 141) 3 39 := ⟨by decide +kernel, rfl⟩
theorem D_X6_fever_39 : qd cX6_fever 39 (.aload_n 0) 1 40 := ⟨by decide +kernel, rfl⟩
theorem D_X6_fever_40 : qd cX6_fever 40 (.getfield 25) 3 43 := ⟨by decide +kernel, rfl⟩
theorem D_X6_fever_43 : qd cX6_fever 43 (.dup) 1 44 := ⟨by decide +kernel, rfl⟩
theorem D_X6_fever_44 : qd cX6_fever 44 (.getfield 167) 3 47 := ⟨by decide +kernel, rfl⟩
theorem D_X6_fever_47 : qd cX6_fever 47 (.iload_n 1) 1 48 := ⟨by decide +kernel, rfl⟩
theorem D_X6_fever_48 : qd cX6_fever 48 (.invokestatic 159) 3 51 := ⟨by decide +kernel, rfl⟩
theorem D_X6_fever_51 : qd cX6_fever 51 (.ior) 1 52 := ⟨by decide +kernel, rfl⟩
theorem D_X6_fever_52 : qd cX6_fever 52 (.putfield 167) 3 55 := ⟨by decide +kernel, rfl⟩
theorem D_X6_fever_55 : qd cX6_fever 55 (.aload_n 0) 1 56 := ⟨by decide +kernel, rfl⟩
theorem D_X6_fever_56 : qd cX6_fever 56 (.getfield 25) 3 59 := ⟨by decide +kernel, rfl⟩
theorem D_X6_fever_59 : qd cX6_fever 59 (.iload_n 1) 1 60 := ⟨by decide +kernel, rfl⟩
theorem D_X6_fever_60 : qd cX6_fever 60 (.invokevirtual 170) 3 63 := ⟨by decide +kernel, rfl⟩
theorem D_X6_fever_63 : qd cX6_fever 63 (.ireturn) 1 64 := ⟨by decide +kernel, rfl⟩
theorem D_X6_firstDug_0 : qd cX6_firstDug 0 (.aload_n 0) 1 1 := ⟨by decide +kernel, rfl⟩
theorem D_X6_firstDug_1 : qd cX6_firstDug 1 (.invokevirtual 135) 3 4 := ⟨by decide +kernel, rfl⟩
theorem D_X6_firstDug_4 : qj cX6_firstDug 4 (.ifCond .eq 8) (8) 7 12 := ⟨by decide +kernel, rfl, by decide⟩
theorem D_X6_firstDug_7 : qd cX6_firstDug 7 (.ldc 134) 2 9 := ⟨by decide +kernel, rfl⟩
theorem D_X6_firstDug_9 : qj cX6_firstDug 9 (.goto 14) (14) 12 23 := ⟨by decide +kernel, rfl, by decide⟩
theorem D_X6_firstDug_12 : qd cX6_firstDug 12 (.aload_n 0) 1 13 := ⟨by decide +kernel, rfl⟩
theorem D_X6_firstDug_13 : qd cX6_firstDug 13 (.getfield 43) 3 16 := ⟨by decide +kernel, rfl⟩
theorem D_X6_firstDug_16 : qd cX6_firstDug 16 (.aload_n 0) 1 17 := ⟨by decide +kernel, rfl⟩
theorem D_X6_firstDug_17 : qd cX6_firstDug 17 (.getfield 25) 3 20 := ⟨by decide +kernel, rfl⟩
theorem D_X6_firstDug_20 : qd cX6_firstDug 20 (.invokevirtual 197) 3 23 := ⟨by decide +kernel, rfl⟩
theorem D_X6_firstDug_23 : qd cX6_firstDug 23 (.ireturn) 1 24 := ⟨by decide +kernel, rfl⟩
theorem D_X6_forgets_0 : qd cX6_forgets 0 (.aload_n 0) 1 1 := ⟨by decide +kernel, rfl⟩
theorem D_X6_forgets_1 : qd cX6_forgets 1 (.iload_n 1) 1 2 := ⟨by decide +kernel, rfl⟩
theorem D_X6_forgets_2 : qd cX6_forgets 2 (.invokevirtual 150) 3 5 := ⟨by decide +kernel, rfl⟩
theorem D_X6_forgets_5 : qj cX6_forgets 5 (.ifCond .eq 27) (27) 8 32 := ⟨by decide +kernel, rfl, by decide⟩
theorem D_X6_forgets_8 : qd cX6_forgets 8 (.aload_n 0) 1 9 := ⟨by decide +kernel, rfl⟩
theorem D_X6_forgets_9 : qd cX6_forgets 9 (.iload_n 2) 1 10 := ⟨by decide +kernel, rfl⟩
theorem D_X6_forgets_10 : qd cX6_forgets 10 (.invokevirtual 173) 3 13 := ⟨by decide +kernel, rfl⟩
theorem D_X6_forgets_13 : qj cX6_forgets 13 (.ifCond .eq 19) (19) 16 32 := ⟨by decide +kernel, rfl, by decide⟩
theorem D_X6_forgets_16 : qd cX6_forgets 16 (.aload_n 0) 1 17 := ⟨by decide +kernel, rfl⟩
theorem D_X6_forgets_17 : qd cX6_forgets 17 (.getfield 43) 3 20 := ⟨by decide +kernel, rfl⟩
theorem D_X6_forgets_20 : qd cX6_forgets 20 (.aload_n 0) 1 21 := ⟨by decide +kernel, rfl⟩
theorem D_X6_forgets_21 : qd cX6_forgets 21 (.getfield 25) 3 24 := ⟨by decide +kernel, rfl⟩
theorem D_X6_forgets_24 : qd cX6_forgets 24 (.iload_n 1) 1 25 := ⟨by decide +kernel, rfl⟩
theorem D_X6_forgets_25 : qd cX6_forgets 25 (.iload_n 2) 1 26 := ⟨by decide +kernel, rfl⟩
theorem D_X6_forgets_26 : qd cX6_forgets 26 (.invokevirtual 215) 3 29 := ⟨by decide +kernel, rfl⟩
theorem D_X6_forgets_29 : qj cX6_forgets 29 (.goto 5) (5) 32 34 := ⟨by decide +kernel, rfl, by decide⟩
theorem D_X6_forgets_32 : qd cX6_forgets 32 (.ldc 59) 2 34 := ⟨by decide +kernel, rfl⟩
theorem D_X6_forgets_34 : qd cX6_forgets 34 (.ireturn) 1 35 := ⟨by decide +kernel, rfl⟩
theorem D_X6_found_0 : qd cX6_found 0 (.aload_n 0) 1 1 := ⟨by decide +kernel, rfl⟩
theorem D_X6_found_1 : qd cX6_found 1 (.iload_n 1) 1 2 := ⟨by decide +kernel, rfl⟩
theorem D_X6_found_2 : qd cX6_found 2 (.putfield 270) 3 5 := ⟨by decide +kernel, rfl⟩
theorem D_X6_found_5 : qd cX6_found 5 (.ldc_w 273) 3 8 := ⟨by decide +kernel, rfl⟩
theorem D_X6_found_8 : qd cX6_found 8 (.iload_n 1) 1 9 := ⟨by decide +kernel, rfl⟩
theorem D_X6_found_9 : qd cX6_found 9 (.isub) 1 10 := ⟨by decide +kernel, rfl⟩
theorem D_X6_found_10 : qd cX6_found 10 (.ireturn) 1 11 := ⟨by decide +kernel, rfl⟩
theorem D_X6_grave_0 : qd cX6_grave 0 (.aload_n 0) 1 1 := ⟨by decide +kernel, rfl⟩
theorem D_X6_grave_1 : qd cX6_grave 1 (.invokevirtual 135) 3 4 := ⟨by decide +kernel, rfl⟩
theorem D_X6_grave_4 : qj cX6_grave 4 (.ifCond .eq 6) (6) 7 10 := ⟨by decide +kernel, rfl, by decide⟩
theorem D_X6_grave_7 : qd cX6_grave 7 (.ldc 134) 2 9 := ⟨by decide +kernel, rfl⟩
theorem D_X6_grave_9 : qd cX6_grave 9 (.ireturn) 1 10 := ⟨by decide +kernel, rfl⟩
theorem D_X6_grave_10 : qd cX6_grave 10 (.aload_n 0) 1 11 := ⟨by decide +kernel, rfl⟩
theorem D_X6_grave_11 : qd cX6_grave 11 (.iload_n 1) 1 12 := ⟨by decide +kernel, rfl⟩
theorem D_X6_grave_12 : qd cX6_grave 12 (.invokevirtual 173) 3 15 := ⟨by decide +kernel, rfl⟩
theorem D_X6_grave_15 : qj cX6_grave 15 (.ifCond .ne 6) (6) 18 21 := ⟨by decide +kernel, rfl, by decide⟩
theorem D_X6_grave_18 : qd cX6_grave 18 (.ldc 59) 2 20 := ⟨by decide +kernel, rfl⟩
theorem D_X6_grave_20 : qd cX6_grave 20 (.ireturn) 1 21 := ⟨by decide +kernel, rfl⟩
theorem D_X6_grave_21 : qd cX6_grave 21 (.iload_n 2) 1 22 := ⟨by decide +kernel, rfl⟩
theorem D_X6_grave_22 : qd cX6_grave 22 (.lookupswitch 55 #[(0, 26), (1, 46)]) 26 48 := ⟨by decide +kernel, rfl⟩
theorem D_X6_grave_48 : qd cX6_grave 48 (.aload_n 0) 1 49 := ⟨by decide +kernel, rfl⟩
theorem D_X6_grave_49 : qd cX6_grave 49 (.getfield 25) 3 52 := ⟨by decide +kernel, rfl⟩
theorem D_X6_grave_52 : qd cX6_grave 52 (.getfield 147) 3 55 := ⟨by decide +kernel, rfl⟩
theorem D_X6_grave_55 : qd cX6_grave 55 (.iload_n 1) 1 56 := ⟨by decide +kernel, rfl⟩
theorem D_X6_grave_56 : qd cX6_grave 56 (.invokestatic 156) 3 59 := ⟨by decide +kernel, rfl⟩
theorem D_X6_grave_59 : qj cX6_grave 59 (.ifCond .eq 7) (7) 62 66 := ⟨by decide +kernel, rfl, by decide⟩
theorem D_X6_grave_62 : qd cX6_grave 62 (.iconst 1) 1 63 := ⟨by decide +kernel, rfl⟩
theorem D_X6_grave_63 : qj cX6_grave 63 (.goto 4) (4) 66 67 := ⟨by decide +kernel, rfl, by decide⟩
theorem D_X6_grave_66 : qd cX6_grave 66 (.iconst 0) 1 67 := ⟨by decide +kernel, rfl⟩
theorem D_X6_grave_67 : qd cX6_grave 67 (.ireturn) 1 68 := ⟨by decide +kernel, rfl⟩
theorem D_X6_grave_68 : qd cX6_grave 68 (.aload_n 0) 1 69 := ⟨by decide +kernel, rfl⟩
theorem D_X6_grave_69 : qd cX6_grave 69 (.getfield 25) 3 72 := ⟨by decide +kernel, rfl⟩
theorem D_X6_grave_72 : qd cX6_grave 72 (.iload_n 1) 1 73 := ⟨by decide +kernel, rfl⟩
theorem D_X6_grave_73 : qd cX6_grave 73 (.invokevirtual 186) 3 76 := ⟨by decide +kernel, rfl⟩
theorem D_X6_grave_76 : qd cX6_grave 76 (.ireturn) 1 77 := ⟨by decide +kernel, rfl⟩
theorem D_X6_grave_77 : qd cX6_grave 77 (.ldc 59) 2 79 := ⟨by decide +kernel, rfl⟩
theorem D_X6_grave_79 : qd cX6_grave 79 (.ireturn) 1 80 := ⟨by decide +kernel, rfl⟩
theorem D_X6_hasBit_0 : qd cX6_hasBit 0 (.iload_n 1) 1 1 := ⟨by decide +kernel, rfl⟩
theorem D_X6_hasBit_1 : qj cX6_hasBit 1 (.ifCond .lt 15) (15) 4 16 := ⟨by decide +kernel, rfl, by decide⟩
theorem D_X6_hasBit_4 : qd cX6_hasBit 4 (.iload_n 0) 1 5 := ⟨by decide +kernel, rfl⟩
theorem D_X6_hasBit_5 : qd cX6_hasBit 5 (.iload_n 1) 1 6 := ⟨by decide +kernel, rfl⟩
theorem D_X6_hasBit_6 : qd cX6_hasBit 6 (.ishr) 1 7 := ⟨by decide +kernel, rfl⟩
theorem D_X6_hasBit_7 : qd cX6_hasBit 7 (.iconst 1) 1 8 := ⟨by decide +kernel, rfl⟩
theorem D_X6_hasBit_8 : qd cX6_hasBit 8 (.iand) 1 9 := ⟨by decide +kernel, rfl⟩
theorem D_X6_hasBit_9 : qj cX6_hasBit 9 (.ifCond .eq 7) (7) 12 16 := ⟨by decide +kernel, rfl, by decide⟩
theorem D_X6_hasBit_12 : qd cX6_hasBit 12 (.iconst 1) 1 13 := ⟨by decide +kernel, rfl⟩
theorem D_X6_hasBit_13 : qj cX6_hasBit 13 (.goto 4) (4) 16 17 := ⟨by decide +kernel, rfl, by decide⟩
theorem D_X6_hasBit_16 : qd cX6_hasBit 16 (.iconst 0) 1 17 := ⟨by decide +kernel, rfl⟩
theorem D_X6_hasBit_17 : qd cX6_hasBit 17 (.ireturn) 1 18 := ⟨by decide +kernel, rfl⟩
theorem D_X6_image_0 : qd cX6_image 0 (.iload_n 1) 1 1 := ⟨by decide +kernel, rfl⟩
theorem D_X6_image_1 : qj cX6_image 1 (.ifCond .lt 8) (8) 4 9 := ⟨by decide +kernel, rfl, by decide⟩
theorem D_X6_image_4 : qd cX6_image 4 (.iload_n 1) 1 5 := ⟨by decide +kernel, rfl⟩
theorem D_X6_image_5 : qd cX6_image 5 (.iconst 2) 1 6 := ⟨by decide +kernel, rfl⟩
theorem D_X6_image_6 : qj cX6_image 6 (.if_icmp .lt 6) (6) 9 12 := ⟨by decide +kernel, rfl, by decide⟩
theorem D_X6_image_9 : qd cX6_image 9 (.ldc 59) 2 11 := ⟨by decide +kernel, rfl⟩
theorem D_X6_image_11 : qd cX6_image 11 (.ireturn) 1 12 := ⟨by decide +kernel, rfl⟩
theorem D_X6_image_12 : qd cX6_image 12 (.aload_n 0) 1 13 := ⟨by decide +kernel, rfl⟩
theorem D_X6_image_13 : qd cX6_image 13 (.invokevirtual 135) 3 16 := ⟨by decide +kernel, rfl⟩
theorem D_X6_image_16 : qj cX6_image 16 (.ifCond .eq 6) (6) 19 22 := ⟨by decide +kernel, rfl, by decide⟩
theorem D_X6_image_19 : qd cX6_image 19 (.ldc 134) 2 21 := ⟨by decide +kernel, rfl⟩
theorem D_X6_image_21 : qd cX6_image 21 (.ireturn) 1 22 := ⟨by decide +kernel, rfl⟩
theorem D_X6_image_22 : qd cX6_image 22 (.aload_n 0) 1 23 := ⟨by decide +kernel, rfl⟩
theorem D_X6_image_23 : qd cX6_image 23 (.getfield 36) 3 26 := ⟨by decide +kernel, rfl⟩
theorem D_X6_image_26 : qd cX6_image 26 (.iload_n 1) 1 27 := ⟨by decide +kernel, rfl⟩
theorem D_X6_image_27 : qd cX6_image 27 (.aaload) 1 28 := ⟨by decide +kernel, rfl⟩
theorem D_X6_image_28 : qd cX6_image 28 (.aload_n 0) 1 29 := ⟨by decide +kernel, rfl⟩
theorem D_X6_image_29 : qd cX6_image 29 (.getfield 25) 3 32 := ⟨by decide +kernel, rfl⟩
theorem D_X6_image_32 : qd cX6_image 32 (.invokevirtual 116) 3 35 := ⟨by decide +kernel, rfl⟩
theorem D_X6_image_35 : qd cX6_image 35 (.iconst 1) 1 36 := ⟨by decide +kernel, rfl⟩
theorem D_X6_image_36 : qd cX6_image 36 (.ireturn) 1 37 := ⟨by decide +kernel, rfl⟩
theorem D_X6_init_0 : qd cX6_init 0 (.aload_n 0) 1 1 := ⟨by decide +kernel, rfl⟩
theorem D_X6_init_1 : qd cX6_init 1 (.invokespecial 1) 3 4 := ⟨by decide +kernel, rfl⟩
theorem D_X6_init_4 : qd cX6_init 4 (.aload_n 0) 1 5 := ⟨by decide +kernel, rfl⟩
theorem D_X6_init_5 : qd cX6_init 5 (.bipush 8) 2 7 := ⟨by decide +kernel, rfl⟩
theorem D_X6_init_7 : qd cX6_init 7 (.anewarray 9) 3 10 := ⟨by decide +kernel, rfl⟩
theorem D_X6_init_10 : qd cX6_init 10 (.putfield 11) 3 13 := ⟨by decide +kernel, rfl⟩
theorem D_X6_init_13 : qd cX6_init 13 (.aload_n 0) 1 14 := ⟨by decide +kernel, rfl⟩
theorem D_X6_init_14 : qd cX6_init 14 (.new 15) 3 17 := ⟨by decide +kernel, rfl⟩
theorem D_X6_init_17 : qd cX6_init 17 (.dup) 1 18 := ⟨by decide +kernel, rfl⟩
theorem D_X6_init_18 : qd cX6_init 18 (.invokespecial 17) 3 21 := ⟨by decide +kernel, rfl⟩
theorem D_X6_init_21 : qd cX6_init 21 (.putfield 18) 3 24 := ⟨by decide +kernel, rfl⟩
theorem D_X6_init_24 : qd cX6_init 24 (.aload_n 0) 1 25 := ⟨by decide +kernel, rfl⟩
theorem D_X6_init_25 : qd cX6_init 25 (.new 22) 3 28 := ⟨by decide +kernel, rfl⟩
theorem D_X6_init_28 : qd cX6_init 28 (.dup) 1 29 := ⟨by decide +kernel, rfl⟩
theorem D_X6_init_29 : qd cX6_init 29 (.invokespecial 24) 3 32 := ⟨by decide +kernel, rfl⟩
theorem D_X6_init_32 : qd cX6_init 32 (.putfield 25) 3 35 := ⟨by decide +kernel, rfl⟩
theorem D_X6_init_35 : qd cX6_init 35 (.aload_n 0) 1 36 := ⟨by decide +kernel, rfl⟩
theorem D_X6_init_36 : qd cX6_init 36 (.new 29) 3 39 := ⟨by decide +kernel, rfl⟩
theorem D_X6_init_39 : qd cX6_init 39 (.dup) 1 40 := ⟨by decide +kernel, rfl⟩
theorem D_X6_init_40 : qd cX6_init 40 (.invokespecial 31) 3 43 := ⟨by decide +kernel, rfl⟩
theorem D_X6_init_43 : qd cX6_init 43 (.putfield 32) 3 46 := ⟨by decide +kernel, rfl⟩
theorem D_X6_init_46 : qd cX6_init 46 (.aload_n 0) 1 47 := ⟨by decide +kernel, rfl⟩
theorem D_X6_init_47 : qd cX6_init 47 (.iconst 2) 1 48 := ⟨by decide +kernel, rfl⟩
theorem D_X6_init_48 : qd cX6_init 48 (.anewarray 22) 3 51 := ⟨by decide +kernel, rfl⟩
theorem D_X6_init_51 : qd cX6_init 51 (.putfield 36) 3 54 := ⟨by decide +kernel, rfl⟩
theorem D_X6_init_54 : qd cX6_init 54 (.aload_n 0) 1 55 := ⟨by decide +kernel, rfl⟩
theorem D_X6_init_55 : qd cX6_init 55 (.new 40) 3 58 := ⟨by decide +kernel, rfl⟩
theorem D_X6_init_58 : qd cX6_init 58 (.dup) 1 59 := ⟨by decide +kernel, rfl⟩
theorem D_X6_init_59 : qd cX6_init 59 (.invokespecial 42) 3 62 := ⟨by decide +kernel, rfl⟩
theorem D_X6_init_62 : qd cX6_init 62 (.putfield 43) 3 65 := ⟨by decide +kernel, rfl⟩
theorem D_X6_init_65 : qd cX6_init 65 (.aload_n 0) 1 66 := ⟨by decide +kernel, rfl⟩
theorem D_X6_init_66 : qd cX6_init 66 (.new 47) 3 69 := ⟨by decide +kernel, rfl⟩
theorem D_X6_init_69 : qd cX6_init 69 (.dup) 1 70 := ⟨by decide +kernel, rfl⟩
theorem D_X6_init_70 : qd cX6_init 70 (.invokespecial 49) 3 73 := ⟨by decide +kernel, rfl⟩
theorem D_X6_init_73 : qd cX6_init 73 (.putfield 50) 3 76 := ⟨by decide +kernel, rfl⟩
theorem D_X6_init_76 : qd cX6_init 76 (.iconst 0) 1 77 := ⟨by decide +kernel, rfl⟩
theorem D_X6_init_77 : qd cX6_init 77 (.istore_n 1) 1 78 := ⟨by decide +kernel, rfl⟩
theorem D_X6_init_78 : qd cX6_init 78 (.iload_n 1) 1 79 := ⟨by decide +kernel, rfl⟩
theorem D_X6_init_79 : qd cX6_init 79 (.bipush 8) 2 81 := ⟨by decide +kernel, rfl⟩
theorem D_X6_init_81 : qj cX6_init 81 (.if_icmp .ge 22) (22) 84 103 := ⟨by decide +kernel, rfl, by decide⟩
theorem D_X6_init_84 : qd cX6_init 84 (.aload_n 0) 1 85 := ⟨by decide +kernel, rfl⟩
theorem D_X6_init_85 : qd cX6_init 85 (.getfield 11) 3 88 := ⟨by decide +kernel, rfl⟩
theorem D_X6_init_88 : qd cX6_init 88 (.iload_n 1) 1 89 := ⟨by decide +kernel, rfl⟩
theorem D_X6_init_89 : qd cX6_init 89 (.new 9) 3 92 := ⟨by decide +kernel, rfl⟩
theorem D_X6_init_92 : qd cX6_init 92 (.dup) 1 93 := ⟨by decide +kernel, rfl⟩
theorem D_X6_init_93 : qd cX6_init 93 (.invokespecial 54) 3 96 := ⟨by decide +kernel, rfl⟩
theorem D_X6_init_96 : qd cX6_init 96 (.aastore) 1 97 := ⟨by decide +kernel, rfl⟩
theorem D_X6_init_97 : qd cX6_init 97 (.iinc 1 1) 3 100 := ⟨by decide +kernel, rfl⟩
theorem D_X6_init_100 : qj cX6_init 100 (.goto (-22)) (-22) 103 78 := ⟨by decide +kernel, rfl, by decide⟩
theorem D_X6_init_103 : qd cX6_init 103 (.iconst 0) 1 104 := ⟨by decide +kernel, rfl⟩
theorem D_X6_init_104 : qd cX6_init 104 (.istore_n 1) 1 105 := ⟨by decide +kernel, rfl⟩
theorem D_X6_init_105 : qd cX6_init 105 (.iload_n 1) 1 106 := ⟨by decide +kernel, rfl⟩
theorem D_X6_init_106 : qd cX6_init 106 (.iconst 2) 1 107 := ⟨by decide +kernel, rfl⟩
theorem D_X6_init_107 : qj cX6_init 107 (.if_icmp .ge 22) (22) 110 129 := ⟨by decide +kernel, rfl, by decide⟩
theorem D_X6_init_110 : qd cX6_init 110 (.aload_n 0) 1 111 := ⟨by decide +kernel, rfl⟩
theorem D_X6_init_111 : qd cX6_init 111 (.getfield 36) 3 114 := ⟨by decide +kernel, rfl⟩
theorem D_X6_init_114 : qd cX6_init 114 (.iload_n 1) 1 115 := ⟨by decide +kernel, rfl⟩
theorem D_X6_init_115 : qd cX6_init 115 (.new 22) 3 118 := ⟨by decide +kernel, rfl⟩
theorem D_X6_init_118 : qd cX6_init 118 (.dup) 1 119 := ⟨by decide +kernel, rfl⟩
theorem D_X6_init_119 : qd cX6_init 119 (.invokespecial 24) 3 122 := ⟨by decide +kernel, rfl⟩
theorem D_X6_init_122 : qd cX6_init 122 (.aastore) 1 123 := ⟨by decide +kernel, rfl⟩
theorem D_X6_init_123 : qd cX6_init 123 (.iinc 1 1) 3 126 := ⟨by decide +kernel, rfl⟩
theorem D_X6_init_126 : qj cX6_init 126 (.goto (-21)) (-21) 129 105 := ⟨by decide +kernel, rfl, by decide⟩
theorem D_X6_init_129 : qd cX6_init 129 (.return_) 1 130 := ⟨by decide +kernel, rfl⟩
theorem D_X6_isGrave_0 : qd cX6_isGrave 0 (.iload_n 1) 1 1 := ⟨by decide +kernel, rfl⟩
theorem D_X6_isGrave_1 : qj cX6_isGrave 1 (.ifCond .lt 18) (18) 4 19 := ⟨by decide +kernel, rfl, by decide⟩
theorem D_X6_isGrave_4 : qd cX6_isGrave 4 (.iload_n 1) 1 5 := ⟨by decide +kernel, rfl⟩
theorem D_X6_isGrave_5 : qd cX6_isGrave 5 (.aload_n 0) 1 6 := ⟨by decide +kernel, rfl⟩
theorem D_X6_isGrave_6 : qd cX6_isGrave 6 (.getfield 25) 3 9 := ⟨by decide +kernel, rfl⟩
theorem D_X6_isGrave_9 : qd cX6_isGrave 9 (.getfield 201) 3 12 := ⟨by decide +kernel, rfl⟩
theorem D_X6_isGrave_12 : qj cX6_isGrave 12 (.if_icmp .ge 7) (7) 15 19 := ⟨by decide +kernel, rfl, by decide⟩
theorem D_X6_isGrave_15 : qd cX6_isGrave 15 (.iconst 1) 1 16 := ⟨by decide +kernel, rfl⟩
theorem D_X6_isGrave_16 : qj cX6_isGrave 16 (.goto 4) (4) 19 20 := ⟨by decide +kernel, rfl, by decide⟩
theorem D_X6_isGrave_19 : qd cX6_isGrave 19 (.iconst 0) 1 20 := ⟨by decide +kernel, rfl⟩
theorem D_X6_isGrave_20 : qd cX6_isGrave 20 (.ireturn) 1 21 := ⟨by decide +kernel, rfl⟩
theorem D_X6_isOfKind_0 : qd cX6_isOfKind 0 (.iload_n 0) 1 1 := ⟨by decide +kernel, rfl⟩
theorem D_X6_isOfKind_1 : qd cX6_isOfKind 1 (.iconst 1) 1 2 := ⟨by decide +kernel, rfl⟩
theorem D_X6_isOfKind_2 : qj cX6_isOfKind 2 (.if_icmp .eq 13) (13) 5 15 := ⟨by decide +kernel, rfl, by decide⟩
theorem D_X6_isOfKind_5 : qd cX6_isOfKind 5 (.iload_n 0) 1 6 := ⟨by decide +kernel, rfl⟩
theorem D_X6_isOfKind_6 : qd cX6_isOfKind 6 (.iconst 2) 1 7 := ⟨by decide +kernel, rfl⟩
theorem D_X6_isOfKind_7 : qj cX6_isOfKind 7 (.if_icmp .eq 8) (8) 10 15 := ⟨by decide +kernel, rfl, by decide⟩
theorem D_X6_isOfKind_10 : qd cX6_isOfKind 10 (.iload_n 0) 1 11 := ⟨by decide +kernel, rfl⟩
theorem D_X6_isOfKind_11 : qd cX6_isOfKind 11 (.iconst 3) 1 12 := ⟨by decide +kernel, rfl⟩
theorem D_X6_isOfKind_12 : qj cX6_isOfKind 12 (.if_icmp .ne 7) (7) 15 19 := ⟨by decide +kernel, rfl, by decide⟩
theorem D_X6_isOfKind_15 : qd cX6_isOfKind 15 (.iconst 1) 1 16 := ⟨by decide +kernel, rfl⟩
theorem D_X6_isOfKind_16 : qj cX6_isOfKind 16 (.goto 4) (4) 19 20 := ⟨by decide +kernel, rfl, by decide⟩
theorem D_X6_isOfKind_19 : qd cX6_isOfKind 19 (.iconst 0) 1 20 := ⟨by decide +kernel, rfl⟩
theorem D_X6_isOfKind_20 : qd cX6_isOfKind 20 (.istore_n 2) 1 21 := ⟨by decide +kernel, rfl⟩
theorem D_X6_isOfKind_21 : qd cX6_isOfKind 21 (.iload_n 1) 1 22 := ⟨by decide +kernel, rfl⟩
theorem D_X6_isOfKind_22 : qd cX6_isOfKind 22 (.tableswitch 48 0 4 #[34, 36, 48, 48, 38]) 34 56 := ⟨by decide +kernel, rfl⟩
theorem D_X6_isOfKind_56 : qd cX6_isOfKind 56 (.iconst 1) 1 57 := ⟨by decide +kernel, rfl⟩
theorem D_X6_isOfKind_57 : qd cX6_isOfKind 57 (.ireturn) 1 58 := ⟨by decide +kernel, rfl⟩
theorem D_X6_isOfKind_58 : qd cX6_isOfKind 58 (.iload_n 2) 1 59 := ⟨by decide +kernel, rfl⟩
theorem D_X6_isOfKind_59 : qd cX6_isOfKind 59 (.ireturn) 1 60 := ⟨by decide +kernel, rfl⟩
theorem D_X6_isOfKind_60 : qd cX6_isOfKind 60 (.iload_n 2) 1 61 := ⟨by decide +kernel, rfl⟩
theorem D_X6_isOfKind_61 : qj cX6_isOfKind 61 (.ifCond .ne 7) (7) 64 68 := ⟨by decide +kernel, rfl, by decide⟩
theorem D_X6_isOfKind_64 : qd cX6_isOfKind 64 (.iconst 1) 1 65 := ⟨by decide +kernel, rfl⟩
theorem D_X6_isOfKind_65 : qj cX6_isOfKind 65 (.goto 4) (4) 68 69 := ⟨by decide +kernel, rfl, by decide⟩
theorem D_X6_isOfKind_68 : qd cX6_isOfKind 68 (.iconst 0) 1 69 := ⟨by decide +kernel, rfl⟩
theorem D_X6_isOfKind_69 : qd cX6_isOfKind 69 (.ireturn) 1 70 := ⟨by decide +kernel, rfl⟩
theorem D_X6_isOfKind_70 : qd cX6_isOfKind 70 (.iload_n 0) 1 71 := ⟨by decide +kernel, rfl⟩
theorem D_X6_isOfKind_71 : qd cX6_isOfKind 71 (.iload_n 1) 1 72 := ⟨by decide +kernel, rfl⟩
theorem D_X6_isOfKind_72 : qj cX6_isOfKind 72 (.if_icmp .ne 7) (7) 75 79 := ⟨by decide +kernel, rfl, by decide⟩
theorem D_X6_isOfKind_75 : qd cX6_isOfKind 75 (.iconst 1) 1 76 := ⟨by decide +kernel, rfl⟩
theorem D_X6_isOfKind_76 : qj cX6_isOfKind 76 (.goto 4) (4) 79 80 := ⟨by decide +kernel, rfl, by decide⟩
theorem D_X6_isOfKind_79 : qd cX6_isOfKind 79 (.iconst 0) 1 80 := ⟨by decide +kernel, rfl⟩
theorem D_X6_isOfKind_80 : qd cX6_isOfKind 80 (.ireturn) 1 81 := ⟨by decide +kernel, rfl⟩
theorem D_X6_isRow_0 : qd cX6_isRow 0 (.iload_n 0) 1 1 := ⟨by decide +kernel, rfl⟩
theorem D_X6_isRow_1 : qj cX6_isRow 1 (.ifCond .lt 13) (13) 4 14 := ⟨by decide +kernel, rfl, by decide⟩
theorem D_X6_isRow_4 : qd cX6_isRow 4 (.iload_n 0) 1 5 := ⟨by decide +kernel, rfl⟩
theorem D_X6_isRow_5 : qd cX6_isRow 5 (.bipush 8) 2 7 := ⟨by decide +kernel, rfl⟩
theorem D_X6_isRow_7 : qj cX6_isRow 7 (.if_icmp .ge 7) (7) 10 14 := ⟨by decide +kernel, rfl, by decide⟩
theorem D_X6_isRow_10 : qd cX6_isRow 10 (.iconst 1) 1 11 := ⟨by decide +kernel, rfl⟩
theorem D_X6_isRow_11 : qj cX6_isRow 11 (.goto 4) (4) 14 15 := ⟨by decide +kernel, rfl, by decide⟩
theorem D_X6_isRow_14 : qd cX6_isRow 14 (.iconst 0) 1 15 := ⟨by decide +kernel, rfl⟩
theorem D_X6_isRow_15 : qd cX6_isRow 15 (.ireturn) 1 16 := ⟨by decide +kernel, rfl⟩
theorem D_X6_isSleeper_0 : qd cX6_isSleeper 0 (.iload_n 1) 1 1 := ⟨by decide +kernel, rfl⟩
theorem D_X6_isSleeper_1 : qj cX6_isSleeper 1 (.ifCond .lt 18) (18) 4 19 := ⟨by decide +kernel, rfl, by decide⟩
theorem D_X6_isSleeper_4 : qd cX6_isSleeper 4 (.iload_n 1) 1 5 := ⟨by decide +kernel, rfl⟩
theorem D_X6_isSleeper_5 : qd cX6_isSleeper 5 (.aload_n 0) 1 6 := ⟨by decide +kernel, rfl⟩
theorem D_X6_isSleeper_6 : qd cX6_isSleeper 6 (.getfield 25) 3 9 := ⟨by decide +kernel, rfl⟩
theorem D_X6_isSleeper_9 : qd cX6_isSleeper 9 (.getfield 123) 3 12 := ⟨by decide +kernel, rfl⟩
theorem D_X6_isSleeper_12 : qj cX6_isSleeper 12 (.if_icmp .ge 7) (7) 15 19 := ⟨by decide +kernel, rfl, by decide⟩
theorem D_X6_isSleeper_15 : qd cX6_isSleeper 15 (.iconst 1) 1 16 := ⟨by decide +kernel, rfl⟩
theorem D_X6_isSleeper_16 : qj cX6_isSleeper 16 (.goto 4) (4) 19 20 := ⟨by decide +kernel, rfl, by decide⟩
theorem D_X6_isSleeper_19 : qd cX6_isSleeper 19 (.iconst 0) 1 20 := ⟨by decide +kernel, rfl⟩
theorem D_X6_isSleeper_20 : qd cX6_isSleeper 20 (.ireturn) 1 21 := ⟨by decide +kernel, rfl⟩
theorem D_X6_kind_0 : qd cX6_kind 0 (.aload_n 0) 1 1 := ⟨by decide +kernel, rfl⟩
theorem D_X6_kind_1 : qd cX6_kind 1 (.iload_n 1) 1 2 := ⟨by decide +kernel, rfl⟩
theorem D_X6_kind_2 : qd cX6_kind 2 (.invokevirtual 150) 3 5 := ⟨by decide +kernel, rfl⟩
theorem D_X6_kind_5 : qj cX6_kind 5 (.ifCond .eq 15) (15) 8 20 := ⟨by decide +kernel, rfl, by decide⟩
theorem D_X6_kind_8 : qd cX6_kind 8 (.aload_n 0) 1 9 := ⟨by decide +kernel, rfl⟩
theorem D_X6_kind_9 : qd cX6_kind 9 (.getfield 25) 3 12 := ⟨by decide +kernel, rfl⟩
theorem D_X6_kind_12 : qd cX6_kind 12 (.getfield 252) 3 15 := ⟨by decide +kernel, rfl⟩
theorem D_X6_kind_15 : qd cX6_kind 15 (.iload_n 1) 1 16 := ⟨by decide +kernel, rfl⟩
theorem D_X6_kind_16 : qd cX6_kind 16 (.iaload) 1 17 := ⟨by decide +kernel, rfl⟩
theorem D_X6_kind_17 : qj cX6_kind 17 (.goto 5) (5) 20 22 := ⟨by decide +kernel, rfl, by decide⟩
theorem D_X6_kind_20 : qd cX6_kind 20 (.ldc 59) 2 22 := ⟨by decide +kernel, rfl⟩
theorem D_X6_kind_22 : qd cX6_kind 22 (.ireturn) 1 23 := ⟨by decide +kernel, rfl⟩
theorem D_X6_memory_0 : qd cX6_memory 0 (.aload_n 0) 1 1 := ⟨by decide +kernel, rfl⟩
theorem D_X6_memory_1 : qd cX6_memory 1 (.iload_n 1) 1 2 := ⟨by decide +kernel, rfl⟩
theorem D_X6_memory_2 : qd cX6_memory 2 (.invokevirtual 150) 3 5 := ⟨by decide +kernel, rfl⟩
theorem D_X6_memory_5 : qj cX6_memory 5 (.ifCond .eq 23) (23) 8 28 := ⟨by decide +kernel, rfl, by decide⟩
theorem D_X6_memory_8 : qd cX6_memory 8 (.aload_n 0) 1 9 := ⟨by decide +kernel, rfl⟩
theorem D_X6_memory_9 : qd cX6_memory 9 (.iload_n 2) 1 10 := ⟨by decide +kernel, rfl⟩
theorem D_X6_memory_10 : qd cX6_memory 10 (.invokevirtual 173) 3 13 := ⟨by decide +kernel, rfl⟩
theorem D_X6_memory_13 : qj cX6_memory 13 (.ifCond .eq 15) (15) 16 28 := ⟨by decide +kernel, rfl, by decide⟩
theorem D_X6_memory_16 : qd cX6_memory 16 (.aload_n 0) 1 17 := ⟨by decide +kernel, rfl⟩
theorem D_X6_memory_17 : qd cX6_memory 17 (.getfield 25) 3 20 := ⟨by decide +kernel, rfl⟩
theorem D_X6_memory_20 : qd cX6_memory 20 (.iload_n 1) 1 21 := ⟨by decide +kernel, rfl⟩
theorem D_X6_memory_21 : qd cX6_memory 21 (.iload_n 2) 1 22 := ⟨by decide +kernel, rfl⟩
theorem D_X6_memory_22 : qd cX6_memory 22 (.invokevirtual 176) 3 25 := ⟨by decide +kernel, rfl⟩
theorem D_X6_memory_25 : qj cX6_memory 25 (.goto 5) (5) 28 30 := ⟨by decide +kernel, rfl, by decide⟩
theorem D_X6_memory_28 : qd cX6_memory 28 (.ldc 59) 2 30 := ⟨by decide +kernel, rfl⟩
theorem D_X6_memory_30 : qd cX6_memory 30 (.ireturn) 1 31 := ⟨by decide +kernel, rfl⟩
theorem D_X6_most_0 : qd cX6_most 0 (.aload_n 0) 1 1 := ⟨by decide +kernel, rfl⟩
theorem D_X6_most_1 : qd cX6_most 1 (.iload_n 1) 1 2 := ⟨by decide +kernel, rfl⟩
theorem D_X6_most_2 : qd cX6_most 2 (.invokevirtual 150) 3 5 := ⟨by decide +kernel, rfl⟩
theorem D_X6_most_5 : qj cX6_most 5 (.ifCond .eq 12) (12) 8 17 := ⟨by decide +kernel, rfl, by decide⟩
theorem D_X6_most_8 : qd cX6_most 8 (.iload_n 2) 1 9 := ⟨by decide +kernel, rfl⟩
theorem D_X6_most_9 : qj cX6_most 9 (.ifCond .lt 8) (8) 12 17 := ⟨by decide +kernel, rfl, by decide⟩
theorem D_X6_most_12 : qd cX6_most 12 (.iload_n 2) 1 13 := ⟨by decide +kernel, rfl⟩
theorem D_X6_most_13 : qd cX6_most 13 (.iconst 1) 1 14 := ⟨by decide +kernel, rfl⟩
theorem D_X6_most_14 : qj cX6_most 14 (.if_icmp .le 6) (6) 17 20 := ⟨by decide +kernel, rfl, by decide⟩
theorem D_X6_most_17 : qd cX6_most 17 (.ldc 59) 2 19 := ⟨by decide +kernel, rfl⟩
theorem D_X6_most_19 : qd cX6_most 19 (.ireturn) 1 20 := ⟨by decide +kernel, rfl⟩
theorem D_X6_most_20 : qd cX6_most 20 (.aload_n 0) 1 21 := ⟨by decide +kernel, rfl⟩
theorem D_X6_most_21 : qd cX6_most 21 (.getfield 25) 3 24 := ⟨by decide +kernel, rfl⟩
theorem D_X6_most_24 : qd cX6_most 24 (.iload_n 1) 1 25 := ⟨by decide +kernel, rfl⟩
theorem D_X6_most_25 : qd cX6_most 25 (.aload_n 0) 1 26 := ⟨by decide +kernel, rfl⟩
theorem D_X6_most_26 : qd cX6_most 26 (.getfield 25) 3 29 := ⟨by decide +kernel, rfl⟩
theorem D_X6_most_29 : qd cX6_most 29 (.getfield 201) 3 32 := ⟨by decide +kernel, rfl⟩
theorem D_X6_most_32 : qd cX6_most 32 (.invokestatic 159) 3 35 := ⟨by decide +kernel, rfl⟩
theorem D_X6_most_35 : qd cX6_most 35 (.iconst 1) 1 36 := ⟨by decide +kernel, rfl⟩
theorem D_X6_most_36 : qd cX6_most 36 (.isub) 1 37 := ⟨by decide +kernel, rfl⟩
theorem D_X6_most_37 : qd cX6_most 37 (.iconst 0) 1 38 := ⟨by decide +kernel, rfl⟩
theorem D_X6_most_38 : qd cX6_most 38 (.invokevirtual 219) 3 41 := ⟨by decide +kernel, rfl⟩
theorem D_X6_most_41 : qd cX6_most 41 (.istore_n 3) 1 42 := ⟨by decide +kernel, rfl⟩
theorem D_X6_most_42 : qd cX6_most 42 (.iload_n 2) 1 43 := ⟨by decide +kernel, rfl⟩
theorem D_X6_most_43 : qj cX6_most 43 (.ifCond .ne 7) (7) 46 50 := ⟨by decide +kernel, rfl, by decide⟩
theorem D_X6_most_46 : qd cX6_most 46 (.iload_n 3) 1 47 := ⟨by decide +kernel, rfl⟩
theorem D_X6_most_47 : qj cX6_most 47 (.goto 12) (12) 50 59 := ⟨by decide +kernel, rfl, by decide⟩
theorem D_X6_most_50 : qd cX6_most 50 (.aload_n 0) 1 51 := ⟨by decide +kernel, rfl⟩
theorem D_X6_most_51 : qd cX6_most 51 (.getfield 25) 3 54 := ⟨by decide +kernel, rfl⟩
theorem D_X6_most_54 : qd cX6_most 54 (.iload_n 1) 1 55 := ⟨by decide +kernel, rfl⟩
theorem D_X6_most_55 : qd cX6_most 55 (.iload_n 3) 1 56 := ⟨by decide +kernel, rfl⟩
theorem D_X6_most_56 : qd cX6_most 56 (.invokevirtual 176) 3 59 := ⟨by decide +kernel, rfl⟩
theorem D_X6_most_59 : qd cX6_most 59 (.ireturn) 1 60 := ⟨by decide +kernel, rfl⟩
theorem D_X6_noYard_0 : qd cX6_noYard 0 (.aload_n 0) 1 1 := ⟨by decide +kernel, rfl⟩
theorem D_X6_noYard_1 : qd cX6_noYard 1 (.getfield 25) 3 4 := ⟨by decide +kernel, rfl⟩
theorem D_X6_noYard_4 : qd cX6_noYard 4 (.invokevirtual 249) 3 7 := ⟨by decide +kernel, rfl⟩
theorem D_X6_noYard_7 : qd cX6_noYard 7 (.ireturn) 1 8 := ⟨by decide +kernel, rfl⟩
theorem D_X6_pair_0 : qd cX6_pair 0 (.aload_n 0) 1 1 := ⟨by decide +kernel, rfl⟩
theorem D_X6_pair_1 : qd cX6_pair 1 (.iload_n 1) 1 2 := ⟨by decide +kernel, rfl⟩
theorem D_X6_pair_2 : qd cX6_pair 2 (.invokevirtual 150) 3 5 := ⟨by decide +kernel, rfl⟩
theorem D_X6_pair_5 : qj cX6_pair 5 (.ifCond .eq 16) (16) 8 21 := ⟨by decide +kernel, rfl, by decide⟩
theorem D_X6_pair_8 : qd cX6_pair 8 (.aload_n 0) 1 9 := ⟨by decide +kernel, rfl⟩
theorem D_X6_pair_9 : qd cX6_pair 9 (.iload_n 2) 1 10 := ⟨by decide +kernel, rfl⟩
theorem D_X6_pair_10 : qd cX6_pair 10 (.invokevirtual 150) 3 13 := ⟨by decide +kernel, rfl⟩
theorem D_X6_pair_13 : qj cX6_pair 13 (.ifCond .eq 8) (8) 16 21 := ⟨by decide +kernel, rfl, by decide⟩
theorem D_X6_pair_16 : qd cX6_pair 16 (.iload_n 1) 1 17 := ⟨by decide +kernel, rfl⟩
theorem D_X6_pair_17 : qd cX6_pair 17 (.iload_n 2) 1 18 := ⟨by decide +kernel, rfl⟩
theorem D_X6_pair_18 : qj cX6_pair 18 (.if_icmp .ne 6) (6) 21 24 := ⟨by decide +kernel, rfl, by decide⟩
theorem D_X6_pair_21 : qd cX6_pair 21 (.ldc 59) 2 23 := ⟨by decide +kernel, rfl⟩
theorem D_X6_pair_23 : qd cX6_pair 23 (.ireturn) 1 24 := ⟨by decide +kernel, rfl⟩
theorem D_X6_pair_24 : qd cX6_pair 24 (.aload_n 0) 1 25 := ⟨by decide +kernel, rfl⟩
theorem D_X6_pair_25 : qd cX6_pair 25 (.getfield 25) 3 28 := ⟨by decide +kernel, rfl⟩
theorem D_X6_pair_28 : qd cX6_pair 28 (.iload_n 1) 1 29 := ⟨by decide +kernel, rfl⟩
theorem D_X6_pair_29 : qd cX6_pair 29 (.invokevirtual 170) 3 32 := ⟨by decide +kernel, rfl⟩
theorem D_X6_pair_32 : qd cX6_pair 32 (.aload_n 0) 1 33 := ⟨by decide +kernel, rfl⟩
theorem D_X6_pair_33 : qd cX6_pair 33 (.getfield 25) 3 36 := ⟨by decide +kernel, rfl⟩
theorem D_X6_pair_36 : qd cX6_pair 36 (.iload_n 2) 1 37 := ⟨by decide +kernel, rfl⟩
theorem D_X6_pair_37 : qd cX6_pair 37 (.invokevirtual 170) 3 40 := ⟨by decide +kernel, rfl⟩
theorem D_X6_pair_40 : qd cX6_pair 40 (.iand) 1 41 := ⟨by decide +kernel, rfl⟩
theorem D_X6_pair_41 : qd cX6_pair 41 (.ireturn) 1 42 := ⟨by decide +kernel, rfl⟩
theorem D_X6_restore_0 : qd cX6_restore 0 (.iload_n 1) 1 1 := ⟨by decide +kernel, rfl⟩
theorem D_X6_restore_1 : qj cX6_restore 1 (.ifCond .lt 8) (8) 4 9 := ⟨by decide +kernel, rfl, by decide⟩
theorem D_X6_restore_4 : qd cX6_restore 4 (.iload_n 1) 1 5 := ⟨by decide +kernel, rfl⟩
theorem D_X6_restore_5 : qd cX6_restore 5 (.iconst 2) 1 6 := ⟨by decide +kernel, rfl⟩
theorem D_X6_restore_6 : qj cX6_restore 6 (.if_icmp .lt 6) (6) 9 12 := ⟨by decide +kernel, rfl, by decide⟩
theorem D_X6_restore_9 : qd cX6_restore 9 (.ldc 59) 2 11 := ⟨by decide +kernel, rfl⟩
theorem D_X6_restore_11 : qd cX6_restore 11 (.ireturn) 1 12 := ⟨by decide +kernel, rfl⟩
theorem D_X6_restore_12 : qd cX6_restore 12 (.aload_n 0) 1 13 := ⟨by decide +kernel, rfl⟩
theorem D_X6_restore_13 : qd cX6_restore 13 (.getfield 36) 3 16 := ⟨by decide +kernel, rfl⟩
theorem D_X6_restore_16 : qd cX6_restore 16 (.iload_n 1) 1 17 := ⟨by decide +kernel, rfl⟩
theorem D_X6_restore_17 : qd cX6_restore 17 (.aaload) 1 18 := ⟨by decide +kernel, rfl⟩
theorem D_X6_restore_18 : qd cX6_restore 18 (.invokevirtual 249) 3 21 := ⟨by decide +kernel, rfl⟩
theorem D_X6_restore_21 : qj cX6_restore 21 (.ifCond .eq 6) (6) 24 27 := ⟨by decide +kernel, rfl, by decide⟩
theorem D_X6_restore_24 : qd cX6_restore 24 (.ldc 134) 2 26 := ⟨by decide +kernel, rfl⟩
theorem D_X6_restore_26 : qd cX6_restore 26 (.ireturn) 1 27 := ⟨by decide +kernel, rfl⟩
theorem D_X6_restore_27 : qd cX6_restore 27 (.aload_n 0) 1 28 := ⟨by decide +kernel, rfl⟩
theorem D_X6_restore_28 : qd cX6_restore 28 (.getfield 25) 3 31 := ⟨by decide +kernel, rfl⟩
theorem D_X6_restore_31 : qd cX6_restore 31 (.aload_n 0) 1 32 := ⟨by decide +kernel, rfl⟩
theorem D_X6_restore_32 : qd cX6_restore 32 (.getfield 36) 3 35 := ⟨by decide +kernel, rfl⟩
theorem D_X6_restore_35 : qd cX6_restore 35 (.iload_n 1) 1 36 := ⟨by decide +kernel, rfl⟩
theorem D_X6_restore_36 : qd cX6_restore 36 (.aaload) 1 37 := ⟨by decide +kernel, rfl⟩
theorem D_X6_restore_37 : qd cX6_restore 37 (.invokevirtual 116) 3 40 := ⟨by decide +kernel, rfl⟩
theorem D_X6_restore_40 : qd cX6_restore 40 (.aload_n 0) 1 41 := ⟨by decide +kernel, rfl⟩
theorem D_X6_restore_41 : qd cX6_restore 41 (.getfield 32) 3 44 := ⟨by decide +kernel, rfl⟩
theorem D_X6_restore_44 : qd cX6_restore 44 (.invokevirtual 120) 3 47 := ⟨by decide +kernel, rfl⟩
theorem D_X6_restore_47 : qd cX6_restore 47 (.iconst 1) 1 48 := ⟨by decide +kernel, rfl⟩
theorem D_X6_restore_48 : qd cX6_restore 48 (.ireturn) 1 49 := ⟨by decide +kernel, rfl⟩
theorem D_X6_row_0 : qd cX6_row 0 (.iload_n 1) 1 1 := ⟨by decide +kernel, rfl⟩
theorem D_X6_row_1 : qd cX6_row 1 (.invokestatic 55) 3 4 := ⟨by decide +kernel, rfl⟩
theorem D_X6_row_4 : qj cX6_row 4 (.ifCond .eq 18) (18) 7 22 := ⟨by decide +kernel, rfl, by decide⟩
theorem D_X6_row_7 : qd cX6_row 7 (.iload_n 2) 1 8 := ⟨by decide +kernel, rfl⟩
theorem D_X6_row_8 : qj cX6_row 8 (.ifCond .lt 14) (14) 11 22 := ⟨by decide +kernel, rfl, by decide⟩
theorem D_X6_row_11 : qd cX6_row 11 (.iload_n 2) 1 12 := ⟨by decide +kernel, rfl⟩
theorem D_X6_row_12 : qd cX6_row 12 (.iconst 2) 1 13 := ⟨by decide +kernel, rfl⟩
theorem D_X6_row_13 : qj cX6_row 13 (.if_icmp .gt 9) (9) 16 22 := ⟨by decide +kernel, rfl, by decide⟩
theorem D_X6_row_16 : qd cX6_row 16 (.iload_n 3) 1 17 := ⟨by decide +kernel, rfl⟩
theorem D_X6_row_17 : qd cX6_row 17 (.bipush 40) 2 19 := ⟨by decide +kernel, rfl⟩
theorem D_X6_row_19 : qj cX6_row 19 (.if_icmp .le 6) (6) 22 25 := ⟨by decide +kernel, rfl, by decide⟩
theorem D_X6_row_22 : qd cX6_row 22 (.ldc 59) 2 24 := ⟨by decide +kernel, rfl⟩
theorem D_X6_row_24 : qd cX6_row 24 (.ireturn) 1 25 := ⟨by decide +kernel, rfl⟩
theorem D_X6_row_25 : qd cX6_row 25 (.iload_n 3) 1 26 := ⟨by decide +kernel, rfl⟩
theorem D_X6_row_26 : qj cX6_row 26 (.ifCond .ge 9) (9) 29 35 := ⟨by decide +kernel, rfl, by decide⟩
theorem D_X6_row_29 : qd cX6_row 29 (.aload_n 0) 1 30 := ⟨by decide +kernel, rfl⟩
theorem D_X6_row_30 : qd cX6_row 30 (.iconst 4) 1 31 := ⟨by decide +kernel, rfl⟩
theorem D_X6_row_31 : qd cX6_row 31 (.invokevirtual 60) 3 34 := ⟨by decide +kernel, rfl⟩
theorem D_X6_row_34 : qd cX6_row 34 (.ireturn) 1 35 := ⟨by decide +kernel, rfl⟩
theorem D_X6_row_35 : qd cX6_row 35 (.aload_n 0) 1 36 := ⟨by decide +kernel, rfl⟩
theorem D_X6_row_36 : qd cX6_row 36 (.getfield 11) 3 39 := ⟨by decide +kernel, rfl⟩
theorem D_X6_row_39 : qd cX6_row 39 (.iload_n 1) 1 40 := ⟨by decide +kernel, rfl⟩
theorem D_X6_row_40 : qd cX6_row 40 (.aaload) 1 41 := ⟨by decide +kernel, rfl⟩
theorem D_X6_row_41 : qd cX6_row 41 (.iload_n 2) 1 42 := ⟨by decide +kernel, rfl⟩
theorem D_X6_row_42 : qd cX6_row 42 (.iload_n 3) 1 43 := ⟨by decide +kernel, rfl⟩
theorem D_X6_row_43 : qd cX6_row 43 (.invokevirtual 64) 3 46 := ⟨by decide +kernel, rfl⟩
theorem D_X6_row_46 : qd cX6_row 46 (.aload_n 0) 1 47 := ⟨by decide +kernel, rfl⟩
theorem D_X6_row_47 : qd cX6_row 47 (.iload_n 3) 1 48 := ⟨by decide +kernel, rfl⟩
theorem D_X6_row_48 : qd cX6_row 48 (.invokevirtual 68) 3 51 := ⟨by decide +kernel, rfl⟩
theorem D_X6_row_51 : qd cX6_row 51 (.ireturn) 1 52 := ⟨by decide +kernel, rfl⟩
theorem D_X6_rowsThere_0 : qd cX6_rowsThere 0 (.iconst 0) 1 1 := ⟨by decide +kernel, rfl⟩
theorem D_X6_rowsThere_1 : qd cX6_rowsThere 1 (.istore_n 1) 1 2 := ⟨by decide +kernel, rfl⟩
theorem D_X6_rowsThere_2 : qd cX6_rowsThere 2 (.iconst 0) 1 3 := ⟨by decide +kernel, rfl⟩
theorem D_X6_rowsThere_3 : qd cX6_rowsThere 3 (.istore_n 2) 1 4 := ⟨by decide +kernel, rfl⟩
theorem D_X6_rowsThere_4 : qd cX6_rowsThere 4 (.iload_n 2) 1 5 := ⟨by decide +kernel, rfl⟩
theorem D_X6_rowsThere_5 : qd cX6_rowsThere 5 (.bipush 8) 2 7 := ⟨by decide +kernel, rfl⟩
theorem D_X6_rowsThere_7 : qj cX6_rowsThere 7 (.if_icmp .ge 24) (24) 10 31 := ⟨by decide +kernel, rfl, by decide⟩
theorem D_X6_rowsThere_10 : qd cX6_rowsThere 10 (.aload_n 0) 1 11 := ⟨by decide +kernel, rfl⟩
theorem D_X6_rowsThere_11 : qd cX6_rowsThere 11 (.getfield 11) 3 14 := ⟨by decide +kernel, rfl⟩
theorem D_X6_rowsThere_14 : qd cX6_rowsThere 14 (.iload_n 2) 1 15 := ⟨by decide +kernel, rfl⟩
theorem D_X6_rowsThere_15 : qd cX6_rowsThere 15 (.aaload) 1 16 := ⟨by decide +kernel, rfl⟩
theorem D_X6_rowsThere_16 : qd cX6_rowsThere 16 (.invokevirtual 78) 3 19 := ⟨by decide +kernel, rfl⟩
theorem D_X6_rowsThere_19 : qj cX6_rowsThere 19 (.ifCond .ne 6) (6) 22 25 := ⟨by decide +kernel, rfl, by decide⟩
theorem D_X6_rowsThere_22 : qd cX6_rowsThere 22 (.iinc 1 1) 3 25 := ⟨by decide +kernel, rfl⟩
theorem D_X6_rowsThere_25 : qd cX6_rowsThere 25 (.iinc 2 1) 3 28 := ⟨by decide +kernel, rfl⟩
theorem D_X6_rowsThere_28 : qj cX6_rowsThere 28 (.goto (-24)) (-24) 31 4 := ⟨by decide +kernel, rfl, by decide⟩
theorem D_X6_rowsThere_31 : qd cX6_rowsThere 31 (.iload_n 1) 1 32 := ⟨by decide +kernel, rfl⟩
theorem D_X6_rowsThere_32 : qd cX6_rowsThere 32 (.ireturn) 1 33 := ⟨by decide +kernel, rfl⟩
theorem D_X6_set_0 : qd cX6_set 0 (.iload_n 1) 1 1 := ⟨by decide +kernel, rfl⟩
theorem D_X6_set_1 : qd cX6_set 1 (.invokestatic 55) 3 4 := ⟨by decide +kernel, rfl⟩
theorem D_X6_set_4 : qj cX6_set 4 (.ifCond .ne 6) (6) 7 10 := ⟨by decide +kernel, rfl, by decide⟩
theorem D_X6_set_7 : qd cX6_set 7 (.ldc 59) 2 9 := ⟨by decide +kernel, rfl⟩
theorem D_X6_set_9 : qd cX6_set 9 (.ireturn) 1 10 := ⟨by decide +kernel, rfl⟩
theorem D_X6_set_10 : qd cX6_set 10 (.aload_n 0) 1 11 := ⟨by decide +kernel, rfl⟩
theorem D_X6_set_11 : qd cX6_set 11 (.getfield 11) 3 14 := ⟨by decide +kernel, rfl⟩
theorem D_X6_set_14 : qd cX6_set 14 (.iload_n 1) 1 15 := ⟨by decide +kernel, rfl⟩
theorem D_X6_set_15 : qd cX6_set 15 (.aaload) 1 16 := ⟨by decide +kernel, rfl⟩
theorem D_X6_set_16 : qd cX6_set 16 (.astore 4) 2 18 := ⟨by decide +kernel, rfl⟩
theorem D_X6_set_18 : qd cX6_set 18 (.aload 4) 2 20 := ⟨by decide +kernel, rfl⟩
theorem D_X6_set_20 : qd cX6_set 20 (.iload_n 2) 1 21 := ⟨by decide +kernel, rfl⟩
theorem D_X6_set_21 : qd cX6_set 21 (.iconst 1) 1 22 := ⟨by decide +kernel, rfl⟩
theorem D_X6_set_22 : qd cX6_set 22 (.invokevirtual 71) 3 25 := ⟨by decide +kernel, rfl⟩
theorem D_X6_set_25 : qd cX6_set 25 (.istore 5) 2 27 := ⟨by decide +kernel, rfl⟩
theorem D_X6_set_27 : qd cX6_set 27 (.iload 5) 2 29 := ⟨by decide +kernel, rfl⟩
theorem D_X6_set_29 : qj cX6_set 29 (.ifCond .eq 12) (12) 32 41 := ⟨by decide +kernel, rfl, by decide⟩
theorem D_X6_set_32 : qd cX6_set 32 (.aload_n 0) 1 33 := ⟨by decide +kernel, rfl⟩
theorem D_X6_set_33 : qd cX6_set 33 (.iload 5) 2 35 := ⟨by decide +kernel, rfl⟩
theorem D_X6_set_35 : qd cX6_set 35 (.invokevirtual 60) 3 38 := ⟨by decide +kernel, rfl⟩
theorem D_X6_set_38 : qj cX6_set 38 (.goto 14) (14) 41 52 := ⟨by decide +kernel, rfl, by decide⟩
theorem D_X6_set_41 : qd cX6_set 41 (.aload_n 0) 1 42 := ⟨by decide +kernel, rfl⟩
theorem D_X6_set_42 : qd cX6_set 42 (.aload 4) 2 44 := ⟨by decide +kernel, rfl⟩
theorem D_X6_set_44 : qd cX6_set 44 (.iload_n 2) 1 45 := ⟨by decide +kernel, rfl⟩
theorem D_X6_set_45 : qd cX6_set 45 (.iload_n 3) 1 46 := ⟨by decide +kernel, rfl⟩
theorem D_X6_set_46 : qd cX6_set 46 (.invokevirtual 75) 3 49 := ⟨by decide +kernel, rfl⟩
theorem D_X6_set_49 : qd cX6_set 49 (.invokevirtual 68) 3 52 := ⟨by decide +kernel, rfl⟩
theorem D_X6_set_52 : qd cX6_set 52 (.ireturn) 1 53 := ⟨by decide +kernel, rfl⟩
theorem D_X6_sleeper_0 : qd cX6_sleeper 0 (.aload_n 0) 1 1 := ⟨by decide +kernel, rfl⟩
theorem D_X6_sleeper_1 : qd cX6_sleeper 1 (.iload_n 1) 1 2 := ⟨by decide +kernel, rfl⟩
theorem D_X6_sleeper_2 : qd cX6_sleeper 2 (.invokevirtual 150) 3 5 := ⟨by decide +kernel, rfl⟩
theorem D_X6_sleeper_5 : qj cX6_sleeper 5 (.ifCond .ne 6) (6) 8 11 := ⟨by decide +kernel, rfl, by decide⟩
theorem D_X6_sleeper_8 : qd cX6_sleeper 8 (.ldc 59) 2 10 := ⟨by decide +kernel, rfl⟩
theorem D_X6_sleeper_10 : qd cX6_sleeper 10 (.ireturn) 1 11 := ⟨by decide +kernel, rfl⟩
theorem D_X6_sleeper_11 : qd cX6_sleeper 11 (.iload_n 2) 1 12 := ⟨by decide +kernel, rfl⟩
theorem D_X6_sleeper_12 : qd cX6_sleeper 12 (.tableswitch 90 0 3 #[32, 41, 50, 70]) 32 44 := ⟨by decide +kernel, rfl⟩
theorem D_X6_sleeper_44 : qd cX6_sleeper 44 (.aload_n 0) 1 45 := ⟨by decide +kernel, rfl⟩
theorem D_X6_sleeper_45 : qd cX6_sleeper 45 (.getfield 25) 3 48 := ⟨by decide +kernel, rfl⟩
theorem D_X6_sleeper_48 : qd cX6_sleeper 48 (.iload_n 1) 1 49 := ⟨by decide +kernel, rfl⟩
theorem D_X6_sleeper_49 : qd cX6_sleeper 49 (.invokevirtual 170) 3 52 := ⟨by decide +kernel, rfl⟩
theorem D_X6_sleeper_52 : qd cX6_sleeper 52 (.ireturn) 1 53 := ⟨by decide +kernel, rfl⟩
theorem D_X6_sleeper_53 : qd cX6_sleeper 53 (.aload_n 0) 1 54 := ⟨by decide +kernel, rfl⟩
theorem D_X6_sleeper_54 : qd cX6_sleeper 54 (.getfield 25) 3 57 := ⟨by decide +kernel, rfl⟩
theorem D_X6_sleeper_57 : qd cX6_sleeper 57 (.iload_n 1) 1 58 := ⟨by decide +kernel, rfl⟩
theorem D_X6_sleeper_58 : qd cX6_sleeper 58 (.invokevirtual 183) 3 61 := ⟨by decide +kernel, rfl⟩
theorem D_X6_sleeper_61 : qd cX6_sleeper 61 (.ireturn) 1 62 := ⟨by decide +kernel, rfl⟩
theorem D_X6_sleeper_62 : qd cX6_sleeper 62 (.aload_n 0) 1 63 := ⟨by decide +kernel, rfl⟩
theorem D_X6_sleeper_63 : qd cX6_sleeper 63 (.getfield 25) 3 66 := ⟨by decide +kernel, rfl⟩
theorem D_X6_sleeper_66 : qd cX6_sleeper 66 (.getfield 153) 3 69 := ⟨by decide +kernel, rfl⟩
theorem D_X6_sleeper_69 : qd cX6_sleeper 69 (.iload_n 1) 1 70 := ⟨by decide +kernel, rfl⟩
theorem D_X6_sleeper_70 : qd cX6_sleeper 70 (.invokestatic 156) 3 73 := ⟨by decide +kernel, rfl⟩
theorem D_X6_sleeper_73 : qj cX6_sleeper 73 (.ifCond .eq 7) (7) 76 80 := ⟨by decide +kernel, rfl, by decide⟩
theorem D_X6_sleeper_76 : qd cX6_sleeper 76 (.iconst 1) 1 77 := ⟨by decide +kernel, rfl⟩
theorem D_X6_sleeper_77 : qj cX6_sleeper 77 (.goto 4) (4) 80 81 := ⟨by decide +kernel, rfl, by decide⟩
theorem D_X6_sleeper_80 : qd cX6_sleeper 80 (.iconst 0) 1 81 := ⟨by decide +kernel, rfl⟩
theorem D_X6_sleeper_81 : qd cX6_sleeper 81 (.ireturn) 1 82 := ⟨by decide +kernel, rfl⟩
theorem D_X6_sleeper_82 : qd cX6_sleeper 82 (.aload_n 0) 1 83 := ⟨by decide +kernel, rfl⟩
theorem D_X6_sleeper_83 : qd cX6_sleeper 83 (.getfield 25) 3 86 := ⟨by decide +kernel, rfl⟩
theorem D_X6_sleeper_86 : qd cX6_sleeper 86 (.getfield 167) 3 89 := ⟨by decide +kernel, rfl⟩
theorem D_X6_sleeper_89 : qd cX6_sleeper 89 (.iload_n 1) 1 90 := ⟨by decide +kernel, rfl⟩
theorem D_X6_sleeper_90 : qd cX6_sleeper 90 (.invokestatic 156) 3 93 := ⟨by decide +kernel, rfl⟩
theorem D_X6_sleeper_93 : qj cX6_sleeper 93 (.ifCond .eq 7) (7) 96 100 := ⟨by decide +kernel, rfl, by decide⟩
theorem D_X6_sleeper_96 : qd cX6_sleeper 96 (.iconst 1) 1 97 := ⟨by decide +kernel, rfl⟩
theorem D_X6_sleeper_97 : qj cX6_sleeper 97 (.goto 4) (4) 100 101 := ⟨by decide +kernel, rfl, by decide⟩
theorem D_X6_sleeper_100 : qd cX6_sleeper 100 (.iconst 0) 1 101 := ⟨by decide +kernel, rfl⟩
theorem D_X6_sleeper_101 : qd cX6_sleeper 101 (.ireturn) 1 102 := ⟨by decide +kernel, rfl⟩
theorem D_X6_sleeper_102 : qd cX6_sleeper 102 (.ldc 59) 2 104 := ⟨by decide +kernel, rfl⟩
theorem D_X6_sleeper_104 : qd cX6_sleeper 104 (.ireturn) 1 105 := ⟨by decide +kernel, rfl⟩
theorem D_X6_sound_0 : qd cX6_sound 0 (.aload_n 0) 1 1 := ⟨by decide +kernel, rfl⟩
theorem D_X6_sound_1 : qd cX6_sound 1 (.iconst 0) 1 2 := ⟨by decide +kernel, rfl⟩
theorem D_X6_sound_2 : qd cX6_sound 2 (.putfield 270) 3 5 := ⟨by decide +kernel, rfl⟩
theorem D_X6_sound_5 : qd cX6_sound 5 (.iload_n 1) 1 6 := ⟨by decide +kernel, rfl⟩
theorem D_X6_sound_6 : qd cX6_sound 6 (.ireturn) 1 7 := ⟨by decide +kernel, rfl⟩
theorem D_X6_status_0 : qd cX6_status 0 (.aload_n 0) 1 1 := ⟨by decide +kernel, rfl⟩
theorem D_X6_status_1 : qd cX6_status 1 (.getfield 270) 3 4 := ⟨by decide +kernel, rfl⟩
theorem D_X6_status_4 : qd cX6_status 4 (.ireturn) 1 5 := ⟨by decide +kernel, rfl⟩
theorem D_X6_supper_0 : qd cX6_supper 0 (.aload_n 0) 1 1 := ⟨by decide +kernel, rfl⟩
theorem D_X6_supper_1 : qd cX6_supper 1 (.iload_n 1) 1 2 := ⟨by decide +kernel, rfl⟩
theorem D_X6_supper_2 : qd cX6_supper 2 (.invokevirtual 150) 3 5 := ⟨by decide +kernel, rfl⟩
theorem D_X6_supper_5 : qj cX6_supper 5 (.ifCond .ne 6) (6) 8 11 := ⟨by decide +kernel, rfl, by decide⟩
theorem D_X6_supper_8 : qd cX6_supper 8 (.ldc 59) 2 10 := ⟨by decide +kernel, rfl⟩
theorem D_X6_supper_10 : qd cX6_supper 10 (.ireturn) 1 11 := ⟨by decide +kernel, rfl⟩
theorem D_X6_supper_11 : qd cX6_supper 11 (.aload_n 0) 1 12 := ⟨by decide +kernel, rfl⟩
theorem D_X6_supper_12 : qd cX6_supper 12 (.getfield 25) 3 15 := ⟨by decide +kernel, rfl⟩
theorem D_X6_supper_15 : qd cX6_supper 15 (.getfield 153) 3 18 := ⟨by decide +kernel, rfl⟩
theorem D_X6_supper_18 : qd cX6_supper 18 (.iload_n 1) 1 19 := ⟨by decide +kernel, rfl⟩
theorem D_X6_supper_19 : qd cX6_supper 19 (.invokestatic 156) 3 22 := ⟨by decide +kernel, rfl⟩
theorem D_X6_supper_22 : qj cX6_supper 22 (.ifCond .eq 6) (6) 25 28 := ⟨by decide +kernel, rfl, by decide⟩
theorem D_X6_supper_25 : qd cX6_supper 25 (.ldc 134) 2 27 := ⟨by decide +kernel, rfl⟩
theorem D_X6_supper_27 : qd cX6_supper 27 (.ireturn) 1 28 := ⟨by decide +kernel, rfl⟩
theorem D_X6_supper_28 : qd cX6_supper 28 (.aload_n 0) 1 29 := ⟨by decide +kernel, rfl⟩
theorem D_X6_supper_29 : qd cX6_supper 29 (.getfield 32) 3 32 := ⟨by decide +kernel, rfl⟩
theorem D_X6_supper_32 : qd cX6_supper 32 (.aload_n 0) 1 33 := ⟨by decide +kernel, rfl⟩
theorem D_X6_supper_33 : qd cX6_supper 33 (.getfield 25) 3 36 := ⟨by decide +kernel, rfl⟩
theorem D_X6_supper_36 : qd cX6_supper 36 (.invokevirtual 141) 3 39 := ⟨by decide +kernel, rfl⟩
theorem D_X6_supper_39 : qd cX6_supper 39 (.aload_n 0) 1 40 := ⟨by decide +kernel, rfl⟩
theorem D_X6_supper_40 : qd cX6_supper 40 (.getfield 25) 3 43 := ⟨by decide +kernel, rfl⟩
theorem D_X6_supper_43 : qd cX6_supper 43 (.dup) 1 44 := ⟨by decide +kernel, rfl⟩
theorem D_X6_supper_44 : qd cX6_supper 44 (.getfield 153) 3 47 := ⟨by decide +kernel, rfl⟩
theorem D_X6_supper_47 : qd cX6_supper 47 (.iload_n 1) 1 48 := ⟨by decide +kernel, rfl⟩
theorem D_X6_supper_48 : qd cX6_supper 48 (.invokestatic 159) 3 51 := ⟨by decide +kernel, rfl⟩
theorem D_X6_supper_51 : qd cX6_supper 51 (.ior) 1 52 := ⟨by decide +kernel, rfl⟩
theorem D_X6_supper_52 : qd cX6_supper 52 (.putfield 153) 3 55 := ⟨by decide +kernel, rfl⟩
theorem D_X6_supper_55 : qd cX6_supper 55 (.aload_n 0) 1 56 := ⟨by decide +kernel, rfl⟩
theorem D_X6_supper_56 : qd cX6_supper 56 (.getfield 25) 3 59 := ⟨by decide +kernel, rfl⟩
theorem D_X6_supper_59 : qd cX6_supper 59 (.getfield 153) 3 62 := ⟨by decide +kernel, rfl⟩
theorem D_X6_supper_62 : qd cX6_supper 62 (.invokestatic 162) 3 65 := ⟨by decide +kernel, rfl⟩
theorem D_X6_supper_65 : qd cX6_supper 65 (.ireturn) 1 66 := ⟨by decide +kernel, rfl⟩
theorem D_X6_suppers_0 : qd cX6_suppers 0 (.aload_n 0) 1 1 := ⟨by decide +kernel, rfl⟩
theorem D_X6_suppers_1 : qd cX6_suppers 1 (.invokevirtual 135) 3 4 := ⟨by decide +kernel, rfl⟩
theorem D_X6_suppers_4 : qj cX6_suppers 4 (.ifCond .eq 6) (6) 7 10 := ⟨by decide +kernel, rfl, by decide⟩
theorem D_X6_suppers_7 : qd cX6_suppers 7 (.ldc 134) 2 9 := ⟨by decide +kernel, rfl⟩
theorem D_X6_suppers_9 : qd cX6_suppers 9 (.ireturn) 1 10 := ⟨by decide +kernel, rfl⟩
theorem D_X6_suppers_10 : qd cX6_suppers 10 (.iload_n 1) 1 11 := ⟨by decide +kernel, rfl⟩
theorem D_X6_suppers_11 : qj cX6_suppers 11 (.ifCond .lt 32) (32) 14 43 := ⟨by decide +kernel, rfl, by decide⟩
theorem D_X6_suppers_14 : qd cX6_suppers 14 (.iload_n 1) 1 15 := ⟨by decide +kernel, rfl⟩
theorem D_X6_suppers_15 : qd cX6_suppers 15 (.aload_n 0) 1 16 := ⟨by decide +kernel, rfl⟩
theorem D_X6_suppers_16 : qd cX6_suppers 16 (.getfield 25) 3 19 := ⟨by decide +kernel, rfl⟩
theorem D_X6_suppers_19 : qd cX6_suppers 19 (.getfield 201) 3 22 := ⟨by decide +kernel, rfl⟩
theorem D_X6_suppers_22 : qd cX6_suppers 22 (.invokestatic 159) 3 25 := ⟨by decide +kernel, rfl⟩
theorem D_X6_suppers_25 : qj cX6_suppers 25 (.if_icmp .ge 18) (18) 28 43 := ⟨by decide +kernel, rfl, by decide⟩
theorem D_X6_suppers_28 : qd cX6_suppers 28 (.iload_n 2) 1 29 := ⟨by decide +kernel, rfl⟩
theorem D_X6_suppers_29 : qd cX6_suppers 29 (.iconst 1) 1 30 := ⟨by decide +kernel, rfl⟩
theorem D_X6_suppers_30 : qj cX6_suppers 30 (.if_icmp .lt 13) (13) 33 43 := ⟨by decide +kernel, rfl, by decide⟩
theorem D_X6_suppers_33 : qd cX6_suppers 33 (.iload_n 2) 1 34 := ⟨by decide +kernel, rfl⟩
theorem D_X6_suppers_34 : qd cX6_suppers 34 (.iconst 3) 1 35 := ⟨by decide +kernel, rfl⟩
theorem D_X6_suppers_35 : qj cX6_suppers 35 (.if_icmp .gt 8) (8) 38 43 := ⟨by decide +kernel, rfl, by decide⟩
theorem D_X6_suppers_38 : qd cX6_suppers 38 (.iload_n 3) 1 39 := ⟨by decide +kernel, rfl⟩
theorem D_X6_suppers_39 : qd cX6_suppers 39 (.iconst (-1)) 1 40 := ⟨by decide +kernel, rfl⟩
theorem D_X6_suppers_40 : qj cX6_suppers 40 (.if_icmp .ge 6) (6) 43 46 := ⟨by decide +kernel, rfl, by decide⟩
theorem D_X6_suppers_43 : qd cX6_suppers 43 (.ldc 59) 2 45 := ⟨by decide +kernel, rfl⟩
theorem D_X6_suppers_45 : qd cX6_suppers 45 (.ireturn) 1 46 := ⟨by decide +kernel, rfl⟩
theorem D_X6_suppers_46 : qd cX6_suppers 46 (.aload_n 0) 1 47 := ⟨by decide +kernel, rfl⟩
theorem D_X6_suppers_47 : qd cX6_suppers 47 (.getfield 43) 3 50 := ⟨by decide +kernel, rfl⟩
theorem D_X6_suppers_50 : qd cX6_suppers 50 (.aload_n 0) 1 51 := ⟨by decide +kernel, rfl⟩
theorem D_X6_suppers_51 : qd cX6_suppers 51 (.getfield 25) 3 54 := ⟨by decide +kernel, rfl⟩
theorem D_X6_suppers_54 : qd cX6_suppers 54 (.iload_n 1) 1 55 := ⟨by decide +kernel, rfl⟩
theorem D_X6_suppers_55 : qd cX6_suppers 55 (.iload_n 2) 1 56 := ⟨by decide +kernel, rfl⟩
theorem D_X6_suppers_56 : qd cX6_suppers 56 (.invokevirtual 204) 3 59 := ⟨by decide +kernel, rfl⟩
theorem D_X6_suppers_59 : qj cX6_suppers 59 (.ifCond .eq 8) (8) 62 67 := ⟨by decide +kernel, rfl, by decide⟩
theorem D_X6_suppers_62 : qd cX6_suppers 62 (.iload_n 3) 1 63 := ⟨by decide +kernel, rfl⟩
theorem D_X6_suppers_63 : qd cX6_suppers 63 (.iload_n 2) 1 64 := ⟨by decide +kernel, rfl⟩
theorem D_X6_suppers_64 : qj cX6_suppers 64 (.if_icmp .lt 6) (6) 67 70 := ⟨by decide +kernel, rfl, by decide⟩
theorem D_X6_suppers_67 : qd cX6_suppers 67 (.ldc 208) 2 69 := ⟨by decide +kernel, rfl⟩
theorem D_X6_suppers_69 : qd cX6_suppers 69 (.ireturn) 1 70 := ⟨by decide +kernel, rfl⟩
theorem D_X6_suppers_70 : qd cX6_suppers 70 (.iload_n 3) 1 71 := ⟨by decide +kernel, rfl⟩
theorem D_X6_suppers_71 : qj cX6_suppers 71 (.ifCond .ge 13) (13) 74 84 := ⟨by decide +kernel, rfl, by decide⟩
theorem D_X6_suppers_74 : qd cX6_suppers 74 (.aload_n 0) 1 75 := ⟨by decide +kernel, rfl⟩
theorem D_X6_suppers_75 : qd cX6_suppers 75 (.getfield 43) 3 78 := ⟨by decide +kernel, rfl⟩
theorem D_X6_suppers_78 : qd cX6_suppers 78 (.getfield 209) 3 81 := ⟨by decide +kernel, rfl⟩
theorem D_X6_suppers_81 : qj cX6_suppers 81 (.goto 12) (12) 84 93 := ⟨by decide +kernel, rfl, by decide⟩
theorem D_X6_suppers_84 : qd cX6_suppers 84 (.aload_n 0) 1 85 := ⟨by decide +kernel, rfl⟩
theorem D_X6_suppers_85 : qd cX6_suppers 85 (.getfield 43) 3 88 := ⟨by decide +kernel, rfl⟩
theorem D_X6_suppers_88 : qd cX6_suppers 88 (.getfield 212) 3 91 := ⟨by decide +kernel, rfl⟩
theorem D_X6_suppers_91 : qd cX6_suppers 91 (.iload_n 3) 1 92 := ⟨by decide +kernel, rfl⟩
theorem D_X6_suppers_92 : qd cX6_suppers 92 (.iaload) 1 93 := ⟨by decide +kernel, rfl⟩
theorem D_X6_suppers_93 : qd cX6_suppers 93 (.ireturn) 1 94 := ⟨by decide +kernel, rfl⟩
theorem D_X6_tell_0 : qd cX6_tell 0 (.aload_n 0) 1 1 := ⟨by decide +kernel, rfl⟩
theorem D_X6_tell_1 : qd cX6_tell 1 (.iload_n 1) 1 2 := ⟨by decide +kernel, rfl⟩
theorem D_X6_tell_2 : qd cX6_tell 2 (.invokevirtual 150) 3 5 := ⟨by decide +kernel, rfl⟩
theorem D_X6_tell_5 : qj cX6_tell 5 (.ifCond .eq 11) (11) 8 16 := ⟨by decide +kernel, rfl, by decide⟩
theorem D_X6_tell_8 : qd cX6_tell 8 (.aload_n 0) 1 9 := ⟨by decide +kernel, rfl⟩
theorem D_X6_tell_9 : qd cX6_tell 9 (.iload_n 2) 1 10 := ⟨by decide +kernel, rfl⟩
theorem D_X6_tell_10 : qd cX6_tell 10 (.invokevirtual 173) 3 13 := ⟨by decide +kernel, rfl⟩
theorem D_X6_tell_13 : qj cX6_tell 13 (.ifCond .ne 6) (6) 16 19 := ⟨by decide +kernel, rfl, by decide⟩
theorem D_X6_tell_16 : qd cX6_tell 16 (.ldc 59) 2 18 := ⟨by decide +kernel, rfl⟩
theorem D_X6_tell_18 : qd cX6_tell 18 (.ireturn) 1 19 := ⟨by decide +kernel, rfl⟩
theorem D_X6_tell_19 : qd cX6_tell 19 (.aload_n 0) 1 20 := ⟨by decide +kernel, rfl⟩
theorem D_X6_tell_20 : qd cX6_tell 20 (.getfield 25) 3 23 := ⟨by decide +kernel, rfl⟩
theorem D_X6_tell_23 : qd cX6_tell 23 (.getfield 147) 3 26 := ⟨by decide +kernel, rfl⟩
theorem D_X6_tell_26 : qd cX6_tell 26 (.iload_n 2) 1 27 := ⟨by decide +kernel, rfl⟩
theorem D_X6_tell_27 : qd cX6_tell 27 (.invokestatic 156) 3 30 := ⟨by decide +kernel, rfl⟩
theorem D_X6_tell_30 : qj cX6_tell 30 (.ifCond .ne 6) (6) 33 36 := ⟨by decide +kernel, rfl, by decide⟩
theorem D_X6_tell_33 : qd cX6_tell 33 (.ldc 134) 2 35 := ⟨by decide +kernel, rfl⟩
theorem D_X6_tell_35 : qd cX6_tell 35 (.ireturn) 1 36 := ⟨by decide +kernel, rfl⟩
theorem D_X6_tell_36 : qd cX6_tell 36 (.aload_n 0) 1 37 := ⟨by decide +kernel, rfl⟩
theorem D_X6_tell_37 : qd cX6_tell 37 (.getfield 32) 3 40 := ⟨by decide +kernel, rfl⟩
theorem D_X6_tell_40 : qd cX6_tell 40 (.aload_n 0) 1 41 := ⟨by decide +kernel, rfl⟩
theorem D_X6_tell_41 : qd cX6_tell 41 (.getfield 25) 3 44 := ⟨by decide +kernel, rfl⟩
theorem D_X6_tell_44 : qd cX6_tell 44 (.invokevirtual 141) 3 47 := ⟨by decide +kernel, rfl⟩
theorem D_X6_tell_47 : qd cX6_tell 47 (.aload_n 0) 1 48 := ⟨by decide +kernel, rfl⟩
theorem D_X6_tell_48 : qd cX6_tell 48 (.getfield 25) 3 51 := ⟨by decide +kernel, rfl⟩
theorem D_X6_tell_51 : qd cX6_tell 51 (.iload_n 1) 1 52 := ⟨by decide +kernel, rfl⟩
theorem D_X6_tell_52 : qd cX6_tell 52 (.iload_n 2) 1 53 := ⟨by decide +kernel, rfl⟩
theorem D_X6_tell_53 : qd cX6_tell 53 (.invokevirtual 176) 3 56 := ⟨by decide +kernel, rfl⟩
theorem D_X6_tell_56 : qd cX6_tell 56 (.istore_n 3) 1 57 := ⟨by decide +kernel, rfl⟩
theorem D_X6_tell_57 : qd cX6_tell 57 (.aload_n 0) 1 58 := ⟨by decide +kernel, rfl⟩
theorem D_X6_tell_58 : qd cX6_tell 58 (.getfield 25) 3 61 := ⟨by decide +kernel, rfl⟩
theorem D_X6_tell_61 : qd cX6_tell 61 (.iload_n 1) 1 62 := ⟨by decide +kernel, rfl⟩
theorem D_X6_tell_62 : qd cX6_tell 62 (.iload_n 2) 1 63 := ⟨by decide +kernel, rfl⟩
theorem D_X6_tell_63 : qd cX6_tell 63 (.bipush 27) 2 65 := ⟨by decide +kernel, rfl⟩
theorem D_X6_tell_65 : qd cX6_tell 65 (.invokevirtual 179) 3 68 := ⟨by decide +kernel, rfl⟩
theorem D_X6_tell_68 : qd cX6_tell 68 (.iload_n 3) 1 69 := ⟨by decide +kernel, rfl⟩
theorem D_X6_tell_69 : qd cX6_tell 69 (.ireturn) 1 70 := ⟨by decide +kernel, rfl⟩
theorem D_X6_trace_0 : qd cX6_trace 0 (.iload_n 1) 1 1 := ⟨by decide +kernel, rfl⟩
theorem D_X6_trace_1 : qj cX6_trace 1 (.ifCond .lt 14) (14) 4 15 := ⟨by decide +kernel, rfl, by decide⟩
theorem D_X6_trace_4 : qd cX6_trace 4 (.iload_n 1) 1 5 := ⟨by decide +kernel, rfl⟩
theorem D_X6_trace_5 : qd cX6_trace 5 (.aload_n 0) 1 6 := ⟨by decide +kernel, rfl⟩
theorem D_X6_trace_6 : qd cX6_trace 6 (.getfield 50) 3 9 := ⟨by decide +kernel, rfl⟩
theorem D_X6_trace_9 : qd cX6_trace 9 (.getfield 261) 3 12 := ⟨by decide +kernel, rfl⟩
theorem D_X6_trace_12 : qj cX6_trace 12 (.if_icmp .lt 8) (8) 15 20 := ⟨by decide +kernel, rfl, by decide⟩
theorem D_X6_trace_15 : qd cX6_trace 15 (.ldc 208) 2 17 := ⟨by decide +kernel, rfl⟩
theorem D_X6_trace_17 : qj cX6_trace 17 (.goto 12) (12) 20 29 := ⟨by decide +kernel, rfl, by decide⟩
theorem D_X6_trace_20 : qd cX6_trace 20 (.aload_n 0) 1 21 := ⟨by decide +kernel, rfl⟩
theorem D_X6_trace_21 : qd cX6_trace 21 (.getfield 50) 3 24 := ⟨by decide +kernel, rfl⟩
theorem D_X6_trace_24 : qd cX6_trace 24 (.getfield 264) 3 27 := ⟨by decide +kernel, rfl⟩
theorem D_X6_trace_27 : qd cX6_trace 27 (.iload_n 1) 1 28 := ⟨by decide +kernel, rfl⟩
theorem D_X6_trace_28 : qd cX6_trace 28 (.iaload) 1 29 := ⟨by decide +kernel, rfl⟩
theorem D_X6_trace_29 : qd cX6_trace 29 (.ireturn) 1 30 := ⟨by decide +kernel, rfl⟩
theorem D_X6_undo_0 : qd cX6_undo 0 (.aload_n 0) 1 1 := ⟨by decide +kernel, rfl⟩
theorem D_X6_undo_1 : qd cX6_undo 1 (.getfield 32) 3 4 := ⟨by decide +kernel, rfl⟩
theorem D_X6_undo_4 : qd cX6_undo 4 (.aload_n 0) 1 5 := ⟨by decide +kernel, rfl⟩
theorem D_X6_undo_5 : qd cX6_undo 5 (.getfield 25) 3 8 := ⟨by decide +kernel, rfl⟩
theorem D_X6_undo_8 : qd cX6_undo 8 (.invokevirtual 129) 3 11 := ⟨by decide +kernel, rfl⟩
theorem D_X6_undo_11 : qj cX6_undo 11 (.ifCond .eq 13) (13) 14 24 := ⟨by decide +kernel, rfl, by decide⟩
theorem D_X6_undo_14 : qd cX6_undo 14 (.aload_n 0) 1 15 := ⟨by decide +kernel, rfl⟩
theorem D_X6_undo_15 : qd cX6_undo 15 (.getfield 32) 3 18 := ⟨by decide +kernel, rfl⟩
theorem D_X6_undo_18 : qd cX6_undo 18 (.getfield 133) 3 21 := ⟨by decide +kernel, rfl⟩
theorem D_X6_undo_21 : qj cX6_undo 21 (.goto 5) (5) 24 26 := ⟨by decide +kernel, rfl, by decide⟩
theorem D_X6_undo_24 : qd cX6_undo 24 (.ldc 134) 2 26 := ⟨by decide +kernel, rfl⟩
theorem D_X6_undo_26 : qd cX6_undo 26 (.ireturn) 1 27 := ⟨by decide +kernel, rfl⟩
theorem D_X6_whispered_0 : qd cX6_whispered 0 (.aload_n 0) 1 1 := ⟨by decide +kernel, rfl⟩
theorem D_X6_whispered_1 : qd cX6_whispered 1 (.invokevirtual 135) 3 4 := ⟨by decide +kernel, rfl⟩
theorem D_X6_whispered_4 : qj cX6_whispered 4 (.ifCond .eq 6) (6) 7 10 := ⟨by decide +kernel, rfl, by decide⟩
theorem D_X6_whispered_7 : qd cX6_whispered 7 (.ldc 134) 2 9 := ⟨by decide +kernel, rfl⟩
theorem D_X6_whispered_9 : qd cX6_whispered 9 (.ireturn) 1 10 := ⟨by decide +kernel, rfl⟩
theorem D_X6_whispered_10 : qd cX6_whispered 10 (.aload_n 0) 1 11 := ⟨by decide +kernel, rfl⟩
theorem D_X6_whispered_11 : qd cX6_whispered 11 (.iload_n 1) 1 12 := ⟨by decide +kernel, rfl⟩
theorem D_X6_whispered_12 : qd cX6_whispered 12 (.invokevirtual 173) 3 15 := ⟨by decide +kernel, rfl⟩
theorem D_X6_whispered_15 : qj cX6_whispered 15 (.ifCond .eq 23) (23) 18 38 := ⟨by decide +kernel, rfl, by decide⟩
theorem D_X6_whispered_18 : qd cX6_whispered 18 (.iload_n 2) 1 19 := ⟨by decide +kernel, rfl⟩
theorem D_X6_whispered_19 : qd cX6_whispered 19 (.invokestatic 55) 3 22 := ⟨by decide +kernel, rfl⟩
theorem D_X6_whispered_22 : qj cX6_whispered 22 (.ifCond .eq 16) (16) 25 38 := ⟨by decide +kernel, rfl, by decide⟩
theorem D_X6_whispered_25 : qd cX6_whispered 25 (.iload 4) 2 27 := ⟨by decide +kernel, rfl⟩
theorem D_X6_whispered_27 : qd cX6_whispered 27 (.iconst 1) 1 28 := ⟨by decide +kernel, rfl⟩
theorem D_X6_whispered_28 : qj cX6_whispered 28 (.if_icmp .lt 10) (10) 31 38 := ⟨by decide +kernel, rfl, by decide⟩
theorem D_X6_whispered_31 : qd cX6_whispered 31 (.iload 4) 2 33 := ⟨by decide +kernel, rfl⟩
theorem D_X6_whispered_33 : qd cX6_whispered 33 (.bipush 6) 2 35 := ⟨by decide +kernel, rfl⟩
theorem D_X6_whispered_35 : qj cX6_whispered 35 (.if_icmp .le 6) (6) 38 41 := ⟨by decide +kernel, rfl, by decide⟩
theorem D_X6_whispered_38 : qd cX6_whispered 38 (.ldc 59) 2 40 := ⟨by decide +kernel, rfl⟩
theorem D_X6_whispered_40 : qd cX6_whispered 40 (.ireturn) 1 41 := ⟨by decide +kernel, rfl⟩
theorem D_X6_whispered_41 : qd cX6_whispered 41 (.aload_n 0) 1 42 := ⟨by decide +kernel, rfl⟩
theorem D_X6_whispered_42 : qd cX6_whispered 42 (.getfield 11) 3 45 := ⟨by decide +kernel, rfl⟩
theorem D_X6_whispered_45 : qd cX6_whispered 45 (.iload_n 2) 1 46 := ⟨by decide +kernel, rfl⟩
theorem D_X6_whispered_46 : qd cX6_whispered 46 (.aaload) 1 47 := ⟨by decide +kernel, rfl⟩
theorem D_X6_whispered_47 : qd cX6_whispered 47 (.iload_n 3) 1 48 := ⟨by decide +kernel, rfl⟩
theorem D_X6_whispered_48 : qd cX6_whispered 48 (.iload 4) 2 50 := ⟨by decide +kernel, rfl⟩
theorem D_X6_whispered_50 : qd cX6_whispered 50 (.invokevirtual 71) 3 53 := ⟨by decide +kernel, rfl⟩
theorem D_X6_whispered_53 : qd cX6_whispered 53 (.istore 5) 2 55 := ⟨by decide +kernel, rfl⟩
theorem D_X6_whispered_55 : qd cX6_whispered 55 (.iload 5) 2 57 := ⟨by decide +kernel, rfl⟩
theorem D_X6_whispered_57 : qj cX6_whispered 57 (.ifCond .eq 12) (12) 60 69 := ⟨by decide +kernel, rfl, by decide⟩
theorem D_X6_whispered_60 : qd cX6_whispered 60 (.aload_n 0) 1 61 := ⟨by decide +kernel, rfl⟩
theorem D_X6_whispered_61 : qd cX6_whispered 61 (.iload 5) 2 63 := ⟨by decide +kernel, rfl⟩
theorem D_X6_whispered_63 : qd cX6_whispered 63 (.invokevirtual 60) 3 66 := ⟨by decide +kernel, rfl⟩
theorem D_X6_whispered_66 : qj cX6_whispered 66 (.goto 28) (28) 69 94 := ⟨by decide +kernel, rfl, by decide⟩
theorem D_X6_whispered_69 : qd cX6_whispered 69 (.aload_n 0) 1 70 := ⟨by decide +kernel, rfl⟩
theorem D_X6_whispered_70 : qd cX6_whispered 70 (.aload_n 0) 1 71 := ⟨by decide +kernel, rfl⟩
theorem D_X6_whispered_71 : qd cX6_whispered 71 (.getfield 43) 3 74 := ⟨by decide +kernel, rfl⟩
theorem D_X6_whispered_74 : qd cX6_whispered 74 (.aload_n 0) 1 75 := ⟨by decide +kernel, rfl⟩
theorem D_X6_whispered_75 : qd cX6_whispered 75 (.getfield 25) 3 78 := ⟨by decide +kernel, rfl⟩
theorem D_X6_whispered_78 : qd cX6_whispered 78 (.iload_n 1) 1 79 := ⟨by decide +kernel, rfl⟩
theorem D_X6_whispered_79 : qd cX6_whispered 79 (.aload_n 0) 1 80 := ⟨by decide +kernel, rfl⟩
theorem D_X6_whispered_80 : qd cX6_whispered 80 (.getfield 11) 3 83 := ⟨by decide +kernel, rfl⟩
theorem D_X6_whispered_83 : qd cX6_whispered 83 (.iload_n 2) 1 84 := ⟨by decide +kernel, rfl⟩
theorem D_X6_whispered_84 : qd cX6_whispered 84 (.aaload) 1 85 := ⟨by decide +kernel, rfl⟩
theorem D_X6_whispered_85 : qd cX6_whispered 85 (.iload_n 3) 1 86 := ⟨by decide +kernel, rfl⟩
theorem D_X6_whispered_86 : qd cX6_whispered 86 (.iload 4) 2 88 := ⟨by decide +kernel, rfl⟩
theorem D_X6_whispered_88 : qd cX6_whispered 88 (.invokevirtual 227) 3 91 := ⟨by decide +kernel, rfl⟩
theorem D_X6_whispered_91 : qd cX6_whispered 91 (.invokevirtual 68) 3 94 := ⟨by decide +kernel, rfl⟩
theorem D_X6_whispered_94 : qd cX6_whispered 94 (.ireturn) 1 95 := ⟨by decide +kernel, rfl⟩
theorem D_X6_who_0 : qd cX6_who 0 (.aload_n 0) 1 1 := ⟨by decide +kernel, rfl⟩
theorem D_X6_who_1 : qd cX6_who 1 (.iload_n 1) 1 2 := ⟨by decide +kernel, rfl⟩
theorem D_X6_who_2 : qd cX6_who 2 (.invokevirtual 150) 3 5 := ⟨by decide +kernel, rfl⟩
theorem D_X6_who_5 : qj cX6_who 5 (.ifCond .eq 23) (23) 8 28 := ⟨by decide +kernel, rfl, by decide⟩
theorem D_X6_who_8 : qd cX6_who 8 (.iload_n 2) 1 9 := ⟨by decide +kernel, rfl⟩
theorem D_X6_who_9 : qd cX6_who 9 (.invokestatic 55) 3 12 := ⟨by decide +kernel, rfl⟩
theorem D_X6_who_12 : qj cX6_who 12 (.ifCond .eq 16) (16) 15 28 := ⟨by decide +kernel, rfl, by decide⟩
theorem D_X6_who_15 : qd cX6_who 15 (.iload 4) 2 17 := ⟨by decide +kernel, rfl⟩
theorem D_X6_who_17 : qd cX6_who 17 (.iconst 1) 1 18 := ⟨by decide +kernel, rfl⟩
theorem D_X6_who_18 : qj cX6_who 18 (.if_icmp .lt 10) (10) 21 28 := ⟨by decide +kernel, rfl, by decide⟩
theorem D_X6_who_21 : qd cX6_who 21 (.iload 4) 2 23 := ⟨by decide +kernel, rfl⟩
theorem D_X6_who_23 : qd cX6_who 23 (.bipush 12) 2 25 := ⟨by decide +kernel, rfl⟩
theorem D_X6_who_25 : qj cX6_who 25 (.if_icmp .le 6) (6) 28 31 := ⟨by decide +kernel, rfl, by decide⟩
theorem D_X6_who_28 : qd cX6_who 28 (.ldc 59) 2 30 := ⟨by decide +kernel, rfl⟩
theorem D_X6_who_30 : qd cX6_who 30 (.ireturn) 1 31 := ⟨by decide +kernel, rfl⟩
theorem D_X6_who_31 : qd cX6_who 31 (.aload_n 0) 1 32 := ⟨by decide +kernel, rfl⟩
theorem D_X6_who_32 : qd cX6_who 32 (.getfield 11) 3 35 := ⟨by decide +kernel, rfl⟩
theorem D_X6_who_35 : qd cX6_who 35 (.iload_n 2) 1 36 := ⟨by decide +kernel, rfl⟩
theorem D_X6_who_36 : qd cX6_who 36 (.aaload) 1 37 := ⟨by decide +kernel, rfl⟩
theorem D_X6_who_37 : qd cX6_who 37 (.iload_n 3) 1 38 := ⟨by decide +kernel, rfl⟩
theorem D_X6_who_38 : qd cX6_who 38 (.iload 4) 2 40 := ⟨by decide +kernel, rfl⟩
theorem D_X6_who_40 : qd cX6_who 40 (.invokevirtual 71) 3 43 := ⟨by decide +kernel, rfl⟩
theorem D_X6_who_43 : qd cX6_who 43 (.istore 5) 2 45 := ⟨by decide +kernel, rfl⟩
theorem D_X6_who_45 : qd cX6_who 45 (.iload 5) 2 47 := ⟨by decide +kernel, rfl⟩
theorem D_X6_who_47 : qj cX6_who 47 (.ifCond .eq 12) (12) 50 59 := ⟨by decide +kernel, rfl, by decide⟩
theorem D_X6_who_50 : qd cX6_who 50 (.aload_n 0) 1 51 := ⟨by decide +kernel, rfl⟩
theorem D_X6_who_51 : qd cX6_who 51 (.iload 5) 2 53 := ⟨by decide +kernel, rfl⟩
theorem D_X6_who_53 : qd cX6_who 53 (.invokevirtual 60) 3 56 := ⟨by decide +kernel, rfl⟩
theorem D_X6_who_56 : qj cX6_who 56 (.goto 28) (28) 59 84 := ⟨by decide +kernel, rfl, by decide⟩
theorem D_X6_who_59 : qd cX6_who 59 (.aload_n 0) 1 60 := ⟨by decide +kernel, rfl⟩
theorem D_X6_who_60 : qd cX6_who 60 (.aload_n 0) 1 61 := ⟨by decide +kernel, rfl⟩
theorem D_X6_who_61 : qd cX6_who 61 (.getfield 43) 3 64 := ⟨by decide +kernel, rfl⟩
theorem D_X6_who_64 : qd cX6_who 64 (.aload_n 0) 1 65 := ⟨by decide +kernel, rfl⟩
theorem D_X6_who_65 : qd cX6_who 65 (.getfield 25) 3 68 := ⟨by decide +kernel, rfl⟩
theorem D_X6_who_68 : qd cX6_who 68 (.iload_n 1) 1 69 := ⟨by decide +kernel, rfl⟩
theorem D_X6_who_69 : qd cX6_who 69 (.aload_n 0) 1 70 := ⟨by decide +kernel, rfl⟩
theorem D_X6_who_70 : qd cX6_who 70 (.getfield 11) 3 73 := ⟨by decide +kernel, rfl⟩
theorem D_X6_who_73 : qd cX6_who 73 (.iload_n 2) 1 74 := ⟨by decide +kernel, rfl⟩
theorem D_X6_who_74 : qd cX6_who 74 (.aaload) 1 75 := ⟨by decide +kernel, rfl⟩
theorem D_X6_who_75 : qd cX6_who 75 (.iload_n 3) 1 76 := ⟨by decide +kernel, rfl⟩
theorem D_X6_who_76 : qd cX6_who 76 (.iload 4) 2 78 := ⟨by decide +kernel, rfl⟩
theorem D_X6_who_78 : qd cX6_who 78 (.invokevirtual 223) 3 81 := ⟨by decide +kernel, rfl⟩
theorem D_X6_who_81 : qd cX6_who 81 (.invokevirtual 68) 3 84 := ⟨by decide +kernel, rfl⟩
theorem D_X6_who_84 : qd cX6_who 84 (.ireturn) 1 85 := ⟨by decide +kernel, rfl⟩
theorem D_X6_yard_0 : qd cX6_yard 0 (.aload_n 0) 1 1 := ⟨by decide +kernel, rfl⟩
theorem D_X6_yard_1 : qd cX6_yard 1 (.getfield 18) 3 4 := ⟨by decide +kernel, rfl⟩
theorem D_X6_yard_4 : qd cX6_yard 4 (.invokevirtual 108) 3 7 := ⟨by decide +kernel, rfl⟩
theorem D_X6_yard_7 : qd cX6_yard 7 (.istore_n 1) 1 8 := ⟨by decide +kernel, rfl⟩
theorem D_X6_yard_8 : qd cX6_yard 8 (.iload_n 1) 1 9 := ⟨by decide +kernel, rfl⟩
theorem D_X6_yard_9 : qd cX6_yard 9 (.iconst (-1)) 1 10 := ⟨by decide +kernel, rfl⟩
theorem D_X6_yard_10 : qj cX6_yard 10 (.if_icmp .eq 8) (8) 13 18 := ⟨by decide +kernel, rfl, by decide⟩
theorem D_X6_yard_13 : qd cX6_yard 13 (.ldc 112) 2 15 := ⟨by decide +kernel, rfl⟩
theorem D_X6_yard_15 : qd cX6_yard 15 (.iload_n 1) 1 16 := ⟨by decide +kernel, rfl⟩
theorem D_X6_yard_16 : qd cX6_yard 16 (.isub) 1 17 := ⟨by decide +kernel, rfl⟩
theorem D_X6_yard_17 : qd cX6_yard 17 (.ireturn) 1 18 := ⟨by decide +kernel, rfl⟩
theorem D_X6_yard_18 : qd cX6_yard 18 (.aload_n 0) 1 19 := ⟨by decide +kernel, rfl⟩
theorem D_X6_yard_19 : qd cX6_yard 19 (.getfield 25) 3 22 := ⟨by decide +kernel, rfl⟩
theorem D_X6_yard_22 : qd cX6_yard 22 (.aload_n 0) 1 23 := ⟨by decide +kernel, rfl⟩
theorem D_X6_yard_23 : qd cX6_yard 23 (.getfield 18) 3 26 := ⟨by decide +kernel, rfl⟩
theorem D_X6_yard_26 : qd cX6_yard 26 (.getfield 113) 3 29 := ⟨by decide +kernel, rfl⟩
theorem D_X6_yard_29 : qd cX6_yard 29 (.invokevirtual 116) 3 32 := ⟨by decide +kernel, rfl⟩
theorem D_X6_yard_32 : qd cX6_yard 32 (.aload_n 0) 1 33 := ⟨by decide +kernel, rfl⟩
theorem D_X6_yard_33 : qd cX6_yard 33 (.getfield 32) 3 36 := ⟨by decide +kernel, rfl⟩
theorem D_X6_yard_36 : qd cX6_yard 36 (.invokevirtual 120) 3 39 := ⟨by decide +kernel, rfl⟩
theorem D_X6_yard_39 : qd cX6_yard 39 (.aload_n 0) 1 40 := ⟨by decide +kernel, rfl⟩
theorem D_X6_yard_40 : qd cX6_yard 40 (.getfield 25) 3 43 := ⟨by decide +kernel, rfl⟩
theorem D_X6_yard_43 : qd cX6_yard 43 (.getfield 123) 3 46 := ⟨by decide +kernel, rfl⟩
theorem D_X6_yard_46 : qd cX6_yard 46 (.ireturn) 1 47 := ⟨by decide +kernel, rfl⟩
theorem D_X6_years_0 : qd cX6_years 0 (.aload_n 0) 1 1 := ⟨by decide +kernel, rfl⟩
theorem D_X6_years_1 : qd cX6_years 1 (.invokevirtual 135) 3 4 := ⟨by decide +kernel, rfl⟩
theorem D_X6_years_4 : qj cX6_years 4 (.ifCond .eq 6) (6) 7 10 := ⟨by decide +kernel, rfl, by decide⟩
theorem D_X6_years_7 : qd cX6_years 7 (.ldc 134) 2 9 := ⟨by decide +kernel, rfl⟩
theorem D_X6_years_9 : qd cX6_years 9 (.ireturn) 1 10 := ⟨by decide +kernel, rfl⟩
theorem D_X6_years_10 : qd cX6_years 10 (.iload_n 1) 1 11 := ⟨by decide +kernel, rfl⟩
theorem D_X6_years_11 : qd cX6_years 11 (.iconst 1) 1 12 := ⟨by decide +kernel, rfl⟩
theorem D_X6_years_12 : qj cX6_years 12 (.if_icmp .lt 9) (9) 15 21 := ⟨by decide +kernel, rfl, by decide⟩
theorem D_X6_years_15 : qd cX6_years 15 (.iload_n 1) 1 16 := ⟨by decide +kernel, rfl⟩
theorem D_X6_years_16 : qd cX6_years 16 (.bipush 24) 2 18 := ⟨by decide +kernel, rfl⟩
theorem D_X6_years_18 : qj cX6_years 18 (.if_icmp .le 6) (6) 21 24 := ⟨by decide +kernel, rfl, by decide⟩
theorem D_X6_years_21 : qd cX6_years 21 (.ldc 59) 2 23 := ⟨by decide +kernel, rfl⟩
theorem D_X6_years_23 : qd cX6_years 23 (.ireturn) 1 24 := ⟨by decide +kernel, rfl⟩
theorem D_X6_years_24 : qd cX6_years 24 (.aload_n 0) 1 25 := ⟨by decide +kernel, rfl⟩
theorem D_X6_years_25 : qd cX6_years 25 (.getfield 25) 3 28 := ⟨by decide +kernel, rfl⟩
theorem D_X6_years_28 : qd cX6_years 28 (.getfield 138) 3 31 := ⟨by decide +kernel, rfl⟩
theorem D_X6_years_31 : qd cX6_years 31 (.iload_n 1) 1 32 := ⟨by decide +kernel, rfl⟩
theorem D_X6_years_32 : qd cX6_years 32 (.iadd) 1 33 := ⟨by decide +kernel, rfl⟩
theorem D_X6_years_33 : qd cX6_years 33 (.sipush 999) 3 36 := ⟨by decide +kernel, rfl⟩
theorem D_X6_years_36 : qj cX6_years 36 (.if_icmp .le 6) (6) 39 42 := ⟨by decide +kernel, rfl, by decide⟩
theorem D_X6_years_39 : qd cX6_years 39 (.ldc 107) 2 41 := ⟨by decide +kernel, rfl⟩
theorem D_X6_years_41 : qd cX6_years 41 (.ireturn) 1 42 := ⟨by decide +kernel, rfl⟩
theorem D_X6_years_42 : qd cX6_years 42 (.iconst 0) 1 43 := ⟨by decide +kernel, rfl⟩
theorem D_X6_years_43 : qd cX6_years 43 (.istore_n 2) 1 44 := ⟨by decide +kernel, rfl⟩
theorem D_X6_years_44 : qd cX6_years 44 (.iload_n 2) 1 45 := ⟨by decide +kernel, rfl⟩
theorem D_X6_years_45 : qd cX6_years 45 (.iload_n 1) 1 46 := ⟨by decide +kernel, rfl⟩
theorem D_X6_years_46 : qj cX6_years 46 (.if_icmp .ge 27) (27) 49 73 := ⟨by decide +kernel, rfl, by decide⟩
theorem D_X6_years_49 : qd cX6_years 49 (.aload_n 0) 1 50 := ⟨by decide +kernel, rfl⟩
theorem D_X6_years_50 : qd cX6_years 50 (.getfield 32) 3 53 := ⟨by decide +kernel, rfl⟩
theorem D_X6_years_53 : qd cX6_years 53 (.aload_n 0) 1 54 := ⟨by decide +kernel, rfl⟩
theorem D_X6_years_54 : qd cX6_years 54 (.getfield 25) 3 57 := ⟨by decide +kernel, rfl⟩
theorem D_X6_years_57 : qd cX6_years 57 (.invokevirtual 141) 3 60 := ⟨by decide +kernel, rfl⟩
theorem D_X6_years_60 : qd cX6_years 60 (.aload_n 0) 1 61 := ⟨by decide +kernel, rfl⟩
theorem D_X6_years_61 : qd cX6_years 61 (.getfield 25) 3 64 := ⟨by decide +kernel, rfl⟩
theorem D_X6_years_64 : qd cX6_years 64 (.invokevirtual 144) 3 67 := ⟨by decide +kernel, rfl⟩
theorem D_X6_years_67 : qd cX6_years 67 (.iinc 2 1) 3 70 := ⟨by decide +kernel, rfl⟩
theorem D_X6_years_70 : qj cX6_years 70 (.goto (-26)) (-26) 73 44 := ⟨by decide +kernel, rfl, by decide⟩
theorem D_X6_years_73 : qd cX6_years 73 (.aload_n 0) 1 74 := ⟨by decide +kernel, rfl⟩
theorem D_X6_years_74 : qd cX6_years 74 (.getfield 25) 3 77 := ⟨by decide +kernel, rfl⟩
theorem D_X6_years_77 : qd cX6_years 77 (.getfield 147) 3 80 := ⟨by decide +kernel, rfl⟩
theorem D_X6_years_80 : qd cX6_years 80 (.ireturn) 1 81 := ⟨by decide +kernel, rfl⟩
end
section
theorem D_X7_ahead_0 : qd cX7_ahead 0 (.aload_n 0) 1 1 := ⟨by decide +kernel, rfl⟩
theorem D_X7_ahead_1 : qd cX7_ahead 1 (.getfield 135) 3 4 := ⟨by decide +kernel, rfl⟩
theorem D_X7_ahead_4 : qj cX7_ahead 4 (.ifCond .ne 6) (6) 7 10 := ⟨by decide +kernel, rfl, by decide⟩
theorem D_X7_ahead_7 : qd cX7_ahead 7 (.ldc 162) 2 9 := ⟨by decide +kernel, rfl⟩
theorem D_X7_ahead_9 : qd cX7_ahead 9 (.ireturn) 1 10 := ⟨by decide +kernel, rfl⟩
theorem D_X7_ahead_10 : qd cX7_ahead 10 (.iload_n 1) 1 11 := ⟨by decide +kernel, rfl⟩
theorem D_X7_ahead_11 : qd cX7_ahead 11 (.i2l) 1 12 := ⟨by decide +kernel, rfl⟩
theorem D_X7_ahead_12 : qd cX7_ahead 12 (.lconst 0) 1 13 := ⟨by decide +kernel, rfl⟩
theorem D_X7_ahead_13 : qd cX7_ahead 13 (.ldc2_w 186) 3 16 := ⟨by decide +kernel, rfl⟩
theorem D_X7_ahead_16 : qd cX7_ahead 16 (.invokestatic 57) 3 19 := ⟨by decide +kernel, rfl⟩
theorem D_X7_ahead_19 : qj cX7_ahead 19 (.ifCond .ne 6) (6) 22 25 := ⟨by decide +kernel, rfl, by decide⟩
theorem D_X7_ahead_22 : qd cX7_ahead 22 (.ldc 67) 2 24 := ⟨by decide +kernel, rfl⟩
theorem D_X7_ahead_24 : qd cX7_ahead 24 (.ireturn) 1 25 := ⟨by decide +kernel, rfl⟩
theorem D_X7_ahead_25 : qd cX7_ahead 25 (.aload_n 0) 1 26 := ⟨by decide +kernel, rfl⟩
theorem D_X7_ahead_26 : qd cX7_ahead 26 (.invokevirtual 188) 3 29 := ⟨by decide +kernel, rfl⟩
theorem D_X7_ahead_29 : qd cX7_ahead 29 (.iconst 0) 1 30 := ⟨by decide +kernel, rfl⟩
theorem D_X7_ahead_30 : qd cX7_ahead 30 (.istore_n 2) 1 31 := ⟨by decide +kernel, rfl⟩
theorem D_X7_ahead_31 : qd cX7_ahead 31 (.iload_n 2) 1 32 := ⟨by decide +kernel, rfl⟩
theorem D_X7_ahead_32 : qd cX7_ahead 32 (.iload_n 1) 1 33 := ⟨by decide +kernel, rfl⟩
theorem D_X7_ahead_33 : qj cX7_ahead 33 (.if_icmp .ge 13) (13) 36 46 := ⟨by decide +kernel, rfl, by decide⟩
theorem D_X7_ahead_36 : qd cX7_ahead 36 (.aload_n 0) 1 37 := ⟨by decide +kernel, rfl⟩
theorem D_X7_ahead_37 : qd cX7_ahead 37 (.invokevirtual 168) 3 40 := ⟨by decide +kernel, rfl⟩
theorem D_X7_ahead_40 : qd cX7_ahead 40 (.iinc 2 1) 3 43 := ⟨by decide +kernel, rfl⟩
theorem D_X7_ahead_43 : qj cX7_ahead 43 (.goto (-12)) (-12) 46 31 := ⟨by decide +kernel, rfl, by decide⟩
theorem D_X7_ahead_46 : qd cX7_ahead 46 (.aload_n 0) 1 47 := ⟨by decide +kernel, rfl⟩
theorem D_X7_ahead_47 : qd cX7_ahead 47 (.getfield 19) 3 50 := ⟨by decide +kernel, rfl⟩
theorem D_X7_ahead_50 : qd cX7_ahead 50 (.iconst 5) 1 51 := ⟨by decide +kernel, rfl⟩
theorem D_X7_ahead_51 : qd cX7_ahead 51 (.iaload) 1 52 := ⟨by decide +kernel, rfl⟩
theorem D_X7_ahead_52 : qd cX7_ahead 52 (.istore_n 2) 1 53 := ⟨by decide +kernel, rfl⟩
theorem D_X7_ahead_53 : qd cX7_ahead 53 (.aload_n 0) 1 54 := ⟨by decide +kernel, rfl⟩
theorem D_X7_ahead_54 : qd cX7_ahead 54 (.invokevirtual 191) 3 57 := ⟨by decide +kernel, rfl⟩
theorem D_X7_ahead_57 : qd cX7_ahead 57 (.iload_n 2) 1 58 := ⟨by decide +kernel, rfl⟩
theorem D_X7_ahead_58 : qd cX7_ahead 58 (.ireturn) 1 59 := ⟨by decide +kernel, rfl⟩
theorem D_X7_allDreams_0 : qd cX7_allDreams 0 (.iconst 0) 1 1 := ⟨by decide +kernel, rfl⟩
theorem D_X7_allDreams_1 : qd cX7_allDreams 1 (.istore_n 1) 1 2 := ⟨by decide +kernel, rfl⟩
theorem D_X7_allDreams_2 : qd cX7_allDreams 2 (.iconst 0) 1 3 := ⟨by decide +kernel, rfl⟩
theorem D_X7_allDreams_3 : qd cX7_allDreams 3 (.istore_n 2) 1 4 := ⟨by decide +kernel, rfl⟩
theorem D_X7_allDreams_4 : qd cX7_allDreams 4 (.iload_n 2) 1 5 := ⟨by decide +kernel, rfl⟩
theorem D_X7_allDreams_5 : qd cX7_allDreams 5 (.aload_n 0) 1 6 := ⟨by decide +kernel, rfl⟩
theorem D_X7_allDreams_6 : qd cX7_allDreams 6 (.getfield 19) 3 9 := ⟨by decide +kernel, rfl⟩
theorem D_X7_allDreams_9 : qd cX7_allDreams 9 (.iconst 3) 1 10 := ⟨by decide +kernel, rfl⟩
theorem D_X7_allDreams_10 : qd cX7_allDreams 10 (.iaload) 1 11 := ⟨by decide +kernel, rfl⟩
theorem D_X7_allDreams_11 : qj cX7_allDreams 11 (.if_icmp .ge 17) (17) 14 28 := ⟨by decide +kernel, rfl, by decide⟩
theorem D_X7_allDreams_14 : qd cX7_allDreams 14 (.iload_n 1) 1 15 := ⟨by decide +kernel, rfl⟩
theorem D_X7_allDreams_15 : qd cX7_allDreams 15 (.aload_n 0) 1 16 := ⟨by decide +kernel, rfl⟩
theorem D_X7_allDreams_16 : qd cX7_allDreams 16 (.iload_n 2) 1 17 := ⟨by decide +kernel, rfl⟩
theorem D_X7_allDreams_17 : qd cX7_allDreams 17 (.invokevirtual 152) 3 20 := ⟨by decide +kernel, rfl⟩
theorem D_X7_allDreams_20 : qd cX7_allDreams 20 (.ior) 1 21 := ⟨by decide +kernel, rfl⟩
theorem D_X7_allDreams_21 : qd cX7_allDreams 21 (.istore_n 1) 1 22 := ⟨by decide +kernel, rfl⟩
theorem D_X7_allDreams_22 : qd cX7_allDreams 22 (.iinc 2 1) 3 25 := ⟨by decide +kernel, rfl⟩
theorem D_X7_allDreams_25 : qj cX7_allDreams 25 (.goto (-21)) (-21) 28 4 := ⟨by decide +kernel, rfl, by decide⟩
theorem D_X7_allDreams_28 : qd cX7_allDreams 28 (.iload_n 1) 1 29 := ⟨by decide +kernel, rfl⟩
theorem D_X7_allDreams_29 : qd cX7_allDreams 29 (.ireturn) 1 30 := ⟨by decide +kernel, rfl⟩
theorem D_X7_as_0 : qd cX7_as 0 (.aload_n 0) 1 1 := ⟨by decide +kernel, rfl⟩
theorem D_X7_as_1 : qd cX7_as 1 (.iload_n 1) 1 2 := ⟨by decide +kernel, rfl⟩
theorem D_X7_as_2 : qd cX7_as 2 (.invokevirtual 171) 3 5 := ⟨by decide +kernel, rfl⟩
theorem D_X7_as_5 : qj cX7_as 5 (.ifCond .eq 15) (15) 8 20 := ⟨by decide +kernel, rfl, by decide⟩
theorem D_X7_as_8 : qd cX7_as 8 (.iload_n 2) 1 9 := ⟨by decide +kernel, rfl⟩
theorem D_X7_as_9 : qd cX7_as 9 (.i2l) 1 10 := ⟨by decide +kernel, rfl⟩
theorem D_X7_as_10 : qd cX7_as 10 (.lconst 0) 1 11 := ⟨by decide +kernel, rfl⟩
theorem D_X7_as_11 : qd cX7_as 11 (.ldc2_w 243) 3 14 := ⟨by decide +kernel, rfl⟩
theorem D_X7_as_14 : qd cX7_as 14 (.invokestatic 57) 3 17 := ⟨by decide +kernel, rfl⟩
theorem D_X7_as_17 : qj cX7_as 17 (.ifCond .ne 6) (6) 20 23 := ⟨by decide +kernel, rfl, by decide⟩
theorem D_X7_as_20 : qd cX7_as 20 (.ldc 67) 2 22 := ⟨by decide +kernel, rfl⟩
theorem D_X7_as_22 : qd cX7_as 22 (.ireturn) 1 23 := ⟨by decide +kernel, rfl⟩
theorem D_X7_as_23 : qd cX7_as 23 (.aload_n 0) 1 24 := ⟨by decide +kernel, rfl⟩
theorem D_X7_as_24 : qd cX7_as 24 (.getfield 19) 3 27 := ⟨by decide +kernel, rfl⟩
theorem D_X7_as_27 : qd cX7_as 27 (.bipush 6) 2 29 := ⟨by decide +kernel, rfl⟩
theorem D_X7_as_29 : qd cX7_as 29 (.iload_n 1) 1 30 := ⟨by decide +kernel, rfl⟩
theorem D_X7_as_30 : qd cX7_as 30 (.iadd) 1 31 := ⟨by decide +kernel, rfl⟩
theorem D_X7_as_31 : qd cX7_as 31 (.iaload) 1 32 := ⟨by decide +kernel, rfl⟩
theorem D_X7_as_32 : qd cX7_as 32 (.iload_n 2) 1 33 := ⟨by decide +kernel, rfl⟩
theorem D_X7_as_33 : qd cX7_as 33 (.invokestatic 245) 3 36 := ⟨by decide +kernel, rfl⟩
theorem D_X7_as_36 : qj cX7_as 36 (.ifCond .eq 11) (11) 39 47 := ⟨by decide +kernel, rfl, by decide⟩
theorem D_X7_as_39 : qd cX7_as 39 (.aload_n 0) 1 40 := ⟨by decide +kernel, rfl⟩
theorem D_X7_as_40 : qd cX7_as 40 (.iload_n 1) 1 41 := ⟨by decide +kernel, rfl⟩
theorem D_X7_as_41 : qd cX7_as 41 (.invokevirtual 72) 3 44 := ⟨by decide +kernel, rfl⟩
theorem D_X7_as_44 : qj cX7_as 44 (.goto 8) (8) 47 52 := ⟨by decide +kernel, rfl, by decide⟩
theorem D_X7_as_47 : qd cX7_as 47 (.aload_n 0) 1 48 := ⟨by decide +kernel, rfl⟩
theorem D_X7_as_48 : qd cX7_as 48 (.iconst 3) 1 49 := ⟨by decide +kernel, rfl⟩
theorem D_X7_as_49 : qd cX7_as 49 (.invokevirtual 68) 3 52 := ⟨by decide +kernel, rfl⟩
theorem D_X7_as_52 : qd cX7_as 52 (.ireturn) 1 53 := ⟨by decide +kernel, rfl⟩
theorem D_X7_asLane_0 : qd cX7_asLane 0 (.iload_n 0) 1 1 := ⟨by decide +kernel, rfl⟩
theorem D_X7_asLane_1 : qj cX7_asLane 1 (.ifCond .ne 13) (13) 4 14 := ⟨by decide +kernel, rfl, by decide⟩
theorem D_X7_asLane_4 : qd cX7_asLane 4 (.iload_n 1) 1 5 := ⟨by decide +kernel, rfl⟩
theorem D_X7_asLane_5 : qd cX7_asLane 5 (.bipush 24) 2 7 := ⟨by decide +kernel, rfl⟩
theorem D_X7_asLane_7 : qd cX7_asLane 7 (.ishl) 1 8 := ⟨by decide +kernel, rfl⟩
theorem D_X7_asLane_8 : qd cX7_asLane 8 (.bipush 24) 2 10 := ⟨by decide +kernel, rfl⟩
theorem D_X7_asLane_10 : qd cX7_asLane 10 (.ishr) 1 11 := ⟨by decide +kernel, rfl⟩
theorem D_X7_asLane_11 : qj cX7_asLane 11 (.goto 19) (19) 14 30 := ⟨by decide +kernel, rfl, by decide⟩
theorem D_X7_asLane_14 : qd cX7_asLane 14 (.iload_n 0) 1 15 := ⟨by decide +kernel, rfl⟩
theorem D_X7_asLane_15 : qd cX7_asLane 15 (.iconst 1) 1 16 := ⟨by decide +kernel, rfl⟩
theorem D_X7_asLane_16 : qj cX7_asLane 16 (.if_icmp .ne 13) (13) 19 29 := ⟨by decide +kernel, rfl, by decide⟩
theorem D_X7_asLane_19 : qd cX7_asLane 19 (.iload_n 1) 1 20 := ⟨by decide +kernel, rfl⟩
theorem D_X7_asLane_20 : qd cX7_asLane 20 (.bipush 16) 2 22 := ⟨by decide +kernel, rfl⟩
theorem D_X7_asLane_22 : qd cX7_asLane 22 (.ishl) 1 23 := ⟨by decide +kernel, rfl⟩
theorem D_X7_asLane_23 : qd cX7_asLane 23 (.bipush 16) 2 25 := ⟨by decide +kernel, rfl⟩
theorem D_X7_asLane_25 : qd cX7_asLane 25 (.ishr) 1 26 := ⟨by decide +kernel, rfl⟩
theorem D_X7_asLane_26 : qj cX7_asLane 26 (.goto 4) (4) 29 30 := ⟨by decide +kernel, rfl, by decide⟩
theorem D_X7_asLane_29 : qd cX7_asLane 29 (.iload_n 1) 1 30 := ⟨by decide +kernel, rfl⟩
theorem D_X7_asLane_30 : qd cX7_asLane 30 (.ireturn) 1 31 := ⟨by decide +kernel, rfl⟩
theorem D_X7_ask_0 : qd cX7_ask 0 (.aload_n 0) 1 1 := ⟨by decide +kernel, rfl⟩
theorem D_X7_ask_1 : qd cX7_ask 1 (.iload_n 1) 1 2 := ⟨by decide +kernel, rfl⟩
theorem D_X7_ask_2 : qd cX7_ask 2 (.invokevirtual 171) 3 5 := ⟨by decide +kernel, rfl⟩
theorem D_X7_ask_5 : qj cX7_ask 5 (.ifCond .eq 13) (13) 8 18 := ⟨by decide +kernel, rfl, by decide⟩
theorem D_X7_ask_8 : qd cX7_ask 8 (.iload_n 2) 1 9 := ⟨by decide +kernel, rfl⟩
theorem D_X7_ask_9 : qd cX7_ask 9 (.i2l) 1 10 := ⟨by decide +kernel, rfl⟩
theorem D_X7_ask_10 : qd cX7_ask 10 (.lconst 0) 1 11 := ⟨by decide +kernel, rfl⟩
theorem D_X7_ask_11 : qd cX7_ask 11 (.lconst 1) 1 12 := ⟨by decide +kernel, rfl⟩
theorem D_X7_ask_12 : qd cX7_ask 12 (.invokestatic 57) 3 15 := ⟨by decide +kernel, rfl⟩
theorem D_X7_ask_15 : qj cX7_ask 15 (.ifCond .ne 6) (6) 18 21 := ⟨by decide +kernel, rfl, by decide⟩
theorem D_X7_ask_18 : qd cX7_ask 18 (.ldc 67) 2 20 := ⟨by decide +kernel, rfl⟩
theorem D_X7_ask_20 : qd cX7_ask 20 (.ireturn) 1 21 := ⟨by decide +kernel, rfl⟩
theorem D_X7_ask_21 : qd cX7_ask 21 (.aload_n 0) 1 22 := ⟨by decide +kernel, rfl⟩
theorem D_X7_ask_22 : qd cX7_ask 22 (.iconst 0) 1 23 := ⟨by decide +kernel, rfl⟩
theorem D_X7_ask_23 : qd cX7_ask 23 (.putfield 248) 3 26 := ⟨by decide +kernel, rfl⟩
theorem D_X7_ask_26 : qd cX7_ask 26 (.iload_n 2) 1 27 := ⟨by decide +kernel, rfl⟩
theorem D_X7_ask_27 : qj cX7_ask 27 (.ifCond .ne 11) (11) 30 38 := ⟨by decide +kernel, rfl, by decide⟩
theorem D_X7_ask_30 : qd cX7_ask 30 (.aload_n 0) 1 31 := ⟨by decide +kernel, rfl⟩
theorem D_X7_ask_31 : qd cX7_ask 31 (.iload_n 1) 1 32 := ⟨by decide +kernel, rfl⟩
theorem D_X7_ask_32 : qd cX7_ask 32 (.invokevirtual 272) 3 35 := ⟨by decide +kernel, rfl⟩
theorem D_X7_ask_35 : qj cX7_ask 35 (.goto 8) (8) 38 43 := ⟨by decide +kernel, rfl, by decide⟩
theorem D_X7_ask_38 : qd cX7_ask 38 (.aload_n 0) 1 39 := ⟨by decide +kernel, rfl⟩
theorem D_X7_ask_39 : qd cX7_ask 39 (.iload_n 1) 1 40 := ⟨by decide +kernel, rfl⟩
theorem D_X7_ask_40 : qd cX7_ask 40 (.invokevirtual 266) 3 43 := ⟨by decide +kernel, rfl⟩
theorem D_X7_ask_43 : qd cX7_ask 43 (.ireturn) 1 44 := ⟨by decide +kernel, rfl⟩
theorem D_X7_awake_0 : qd cX7_awake 0 (.aload_n 0) 1 1 := ⟨by decide +kernel, rfl⟩
theorem D_X7_awake_1 : qd cX7_awake 1 (.getfield 135) 3 4 := ⟨by decide +kernel, rfl⟩
theorem D_X7_awake_4 : qj cX7_awake 4 (.ifCond .ne 7) (7) 7 11 := ⟨by decide +kernel, rfl, by decide⟩
theorem D_X7_awake_7 : qd cX7_awake 7 (.ldc2_w 231) 3 10 := ⟨by decide +kernel, rfl⟩
theorem D_X7_awake_10 : qd cX7_awake 10 (.lreturn) 1 11 := ⟨by decide +kernel, rfl⟩
theorem D_X7_awake_11 : qd cX7_awake 11 (.aload_n 0) 1 12 := ⟨by decide +kernel, rfl⟩
theorem D_X7_awake_12 : qd cX7_awake 12 (.iload_n 1) 1 13 := ⟨by decide +kernel, rfl⟩
theorem D_X7_awake_13 : qd cX7_awake 13 (.invokevirtual 180) 3 16 := ⟨by decide +kernel, rfl⟩
theorem D_X7_awake_16 : qj cX7_awake 16 (.ifCond .eq 25) (25) 19 41 := ⟨by decide +kernel, rfl, by decide⟩
theorem D_X7_awake_19 : qd cX7_awake 19 (.iload_n 2) 1 20 := ⟨by decide +kernel, rfl⟩
theorem D_X7_awake_20 : qd cX7_awake 20 (.i2l) 1 21 := ⟨by decide +kernel, rfl⟩
theorem D_X7_awake_21 : qd cX7_awake 21 (.lconst 0) 1 22 := ⟨by decide +kernel, rfl⟩
theorem D_X7_awake_22 : qd cX7_awake 22 (.ldc2_w 233) 3 25 := ⟨by decide +kernel, rfl⟩
theorem D_X7_awake_25 : qd cX7_awake 25 (.invokestatic 57) 3 28 := ⟨by decide +kernel, rfl⟩
theorem D_X7_awake_28 : qj cX7_awake 28 (.ifCond .eq 13) (13) 31 41 := ⟨by decide +kernel, rfl, by decide⟩
theorem D_X7_awake_31 : qd cX7_awake 31 (.iload_n 3) 1 32 := ⟨by decide +kernel, rfl⟩
theorem D_X7_awake_32 : qd cX7_awake 32 (.i2l) 1 33 := ⟨by decide +kernel, rfl⟩
theorem D_X7_awake_33 : qd cX7_awake 33 (.lconst 0) 1 34 := ⟨by decide +kernel, rfl⟩
theorem D_X7_awake_34 : qd cX7_awake 34 (.lconst 1) 1 35 := ⟨by decide +kernel, rfl⟩
theorem D_X7_awake_35 : qd cX7_awake 35 (.invokestatic 57) 3 38 := ⟨by decide +kernel, rfl⟩
theorem D_X7_awake_38 : qj cX7_awake 38 (.ifCond .ne 7) (7) 41 45 := ⟨by decide +kernel, rfl, by decide⟩
theorem D_X7_awake_41 : qd cX7_awake 41 (.ldc2_w 235) 3 44 := ⟨by decide +kernel, rfl⟩
theorem D_X7_awake_44 : qd cX7_awake 44 (.lreturn) 1 45 := ⟨by decide +kernel, rfl⟩
theorem D_X7_awake_45 : qd cX7_awake 45 (.lconst 0) 1 46 := ⟨by decide +kernel, rfl⟩
theorem D_X7_awake_46 : qd cX7_awake 46 (.lstore 4) 2 48 := ⟨by decide +kernel, rfl⟩
theorem D_X7_awake_48 : qd cX7_awake 48 (.lconst 1) 1 49 := ⟨by decide +kernel, rfl⟩
theorem D_X7_awake_49 : qd cX7_awake 49 (.lstore 6) 2 51 := ⟨by decide +kernel, rfl⟩
theorem D_X7_awake_51 : qd cX7_awake 51 (.iconst 0) 1 52 := ⟨by decide +kernel, rfl⟩
theorem D_X7_awake_52 : qd cX7_awake 52 (.istore 8) 2 54 := ⟨by decide +kernel, rfl⟩
theorem D_X7_awake_54 : qd cX7_awake 54 (.iload 8) 2 56 := ⟨by decide +kernel, rfl⟩
theorem D_X7_awake_56 : qd cX7_awake 56 (.aload_n 0) 1 57 := ⟨by decide +kernel, rfl⟩
theorem D_X7_awake_57 : qd cX7_awake 57 (.getfield 19) 3 60 := ⟨by decide +kernel, rfl⟩
theorem D_X7_awake_60 : qd cX7_awake 60 (.iconst 3) 1 61 := ⟨by decide +kernel, rfl⟩
theorem D_X7_awake_61 : qd cX7_awake 61 (.iaload) 1 62 := ⟨by decide +kernel, rfl⟩
theorem D_X7_awake_62 : qj cX7_awake 62 (.if_icmp .ge 17) (17) 65 79 := ⟨by decide +kernel, rfl, by decide⟩
theorem D_X7_awake_65 : qd cX7_awake 65 (.lload 6) 2 67 := ⟨by decide +kernel, rfl⟩
theorem D_X7_awake_67 : qd cX7_awake 67 (.ldc2_w 233) 3 70 := ⟨by decide +kernel, rfl⟩
theorem D_X7_awake_70 : qd cX7_awake 70 (.lmul) 1 71 := ⟨by decide +kernel, rfl⟩
theorem D_X7_awake_71 : qd cX7_awake 71 (.lstore 6) 2 73 := ⟨by decide +kernel, rfl⟩
theorem D_X7_awake_73 : qd cX7_awake 73 (.iinc 8 1) 3 76 := ⟨by decide +kernel, rfl⟩
theorem D_X7_awake_76 : qj cX7_awake 76 (.goto (-22)) (-22) 79 54 := ⟨by decide +kernel, rfl, by decide⟩
theorem D_X7_awake_79 : qd cX7_awake 79 (.iconst 0) 1 80 := ⟨by decide +kernel, rfl⟩
theorem D_X7_awake_80 : qd cX7_awake 80 (.istore 8) 2 82 := ⟨by decide +kernel, rfl⟩
theorem D_X7_awake_82 : qd cX7_awake 82 (.iload 8) 2 84 := ⟨by decide +kernel, rfl⟩
theorem D_X7_awake_84 : qd cX7_awake 84 (.iconst 1) 1 85 := ⟨by decide +kernel, rfl⟩
theorem D_X7_awake_85 : qd cX7_awake 85 (.aload_n 0) 1 86 := ⟨by decide +kernel, rfl⟩
theorem D_X7_awake_86 : qd cX7_awake 86 (.getfield 19) 3 89 := ⟨by decide +kernel, rfl⟩
theorem D_X7_awake_89 : qd cX7_awake 89 (.iconst 3) 1 90 := ⟨by decide +kernel, rfl⟩
theorem D_X7_awake_90 : qd cX7_awake 90 (.iaload) 1 91 := ⟨by decide +kernel, rfl⟩
theorem D_X7_awake_91 : qd cX7_awake 91 (.ishl) 1 92 := ⟨by decide +kernel, rfl⟩
theorem D_X7_awake_92 : qj cX7_awake 92 (.if_icmp .ge 124) (124) 95 216 := ⟨by decide +kernel, rfl, by decide⟩
theorem D_X7_awake_95 : qd cX7_awake 95 (.lconst 1) 1 96 := ⟨by decide +kernel, rfl⟩
theorem D_X7_awake_96 : qd cX7_awake 96 (.lstore 9) 2 98 := ⟨by decide +kernel, rfl⟩
theorem D_X7_awake_98 : qd cX7_awake 98 (.iconst 0) 1 99 := ⟨by decide +kernel, rfl⟩
theorem D_X7_awake_99 : qd cX7_awake 99 (.istore 11) 2 101 := ⟨by decide +kernel, rfl⟩
theorem D_X7_awake_101 : qd cX7_awake 101 (.iconst 0) 1 102 := ⟨by decide +kernel, rfl⟩
theorem D_X7_awake_102 : qd cX7_awake 102 (.istore 12) 2 104 := ⟨by decide +kernel, rfl⟩
theorem D_X7_awake_104 : qd cX7_awake 104 (.iload 12) 2 106 := ⟨by decide +kernel, rfl⟩
theorem D_X7_awake_106 : qd cX7_awake 106 (.aload_n 0) 1 107 := ⟨by decide +kernel, rfl⟩
theorem D_X7_awake_107 : qd cX7_awake 107 (.getfield 19) 3 110 := ⟨by decide +kernel, rfl⟩
theorem D_X7_awake_110 : qd cX7_awake 110 (.iconst 3) 1 111 := ⟨by decide +kernel, rfl⟩
theorem D_X7_awake_111 : qd cX7_awake 111 (.iaload) 1 112 := ⟨by decide +kernel, rfl⟩
theorem D_X7_awake_112 : qj cX7_awake 112 (.if_icmp .ge 69) (69) 115 181 := ⟨by decide +kernel, rfl, by decide⟩
theorem D_X7_awake_115 : qd cX7_awake 115 (.lload 9) 2 117 := ⟨by decide +kernel, rfl⟩
theorem D_X7_awake_117 : qd cX7_awake 117 (.iload 8) 2 119 := ⟨by decide +kernel, rfl⟩
theorem D_X7_awake_119 : qd cX7_awake 119 (.iload 12) 2 121 := ⟨by decide +kernel, rfl⟩
theorem D_X7_awake_121 : qd cX7_awake 121 (.invokestatic 142) 3 124 := ⟨by decide +kernel, rfl⟩
theorem D_X7_awake_124 : qj cX7_awake 124 (.ifCond .eq 8) (8) 127 132 := ⟨by decide +kernel, rfl, by decide⟩
theorem D_X7_awake_127 : qd cX7_awake 127 (.iload_n 2) 1 128 := ⟨by decide +kernel, rfl⟩
theorem D_X7_awake_128 : qd cX7_awake 128 (.i2l) 1 129 := ⟨by decide +kernel, rfl⟩
theorem D_X7_awake_129 : qj cX7_awake 129 (.goto 8) (8) 132 137 := ⟨by decide +kernel, rfl, by decide⟩
theorem D_X7_awake_132 : qd cX7_awake 132 (.bipush 10) 2 134 := ⟨by decide +kernel, rfl⟩
theorem D_X7_awake_134 : qd cX7_awake 134 (.iload_n 2) 1 135 := ⟨by decide +kernel, rfl⟩
theorem D_X7_awake_135 : qd cX7_awake 135 (.isub) 1 136 := ⟨by decide +kernel, rfl⟩
theorem D_X7_awake_136 : qd cX7_awake 136 (.i2l) 1 137 := ⟨by decide +kernel, rfl⟩
theorem D_X7_awake_137 : qd cX7_awake 137 (.lmul) 1 138 := ⟨by decide +kernel, rfl⟩
theorem D_X7_awake_138 : qd cX7_awake 138 (.lstore 9) 2 140 := ⟨by decide +kernel, rfl⟩
theorem D_X7_awake_140 : qd cX7_awake 140 (.iload 11) 2 142 := ⟨by decide +kernel, rfl⟩
theorem D_X7_awake_142 : qj cX7_awake 142 (.ifCond .ne 26) (26) 145 168 := ⟨by decide +kernel, rfl, by decide⟩
theorem D_X7_awake_145 : qd cX7_awake 145 (.iload 8) 2 147 := ⟨by decide +kernel, rfl⟩
theorem D_X7_awake_147 : qd cX7_awake 147 (.iload 12) 2 149 := ⟨by decide +kernel, rfl⟩
theorem D_X7_awake_149 : qd cX7_awake 149 (.invokestatic 142) 3 152 := ⟨by decide +kernel, rfl⟩
theorem D_X7_awake_152 : qj cX7_awake 152 (.ifCond .ne 20) (20) 155 172 := ⟨by decide +kernel, rfl, by decide⟩
theorem D_X7_awake_155 : qd cX7_awake 155 (.aload_n 0) 1 156 := ⟨by decide +kernel, rfl⟩
theorem D_X7_awake_156 : qd cX7_awake 156 (.iload 12) 2 158 := ⟨by decide +kernel, rfl⟩
theorem D_X7_awake_158 : qd cX7_awake 158 (.invokevirtual 152) 3 161 := ⟨by decide +kernel, rfl⟩
theorem D_X7_awake_161 : qd cX7_awake 161 (.iload_n 1) 1 162 := ⟨by decide +kernel, rfl⟩
theorem D_X7_awake_162 : qd cX7_awake 162 (.invokestatic 142) 3 165 := ⟨by decide +kernel, rfl⟩
theorem D_X7_awake_165 : qj cX7_awake 165 (.ifCond .eq 7) (7) 168 172 := ⟨by decide +kernel, rfl, by decide⟩
theorem D_X7_awake_168 : qd cX7_awake 168 (.iconst 1) 1 169 := ⟨by decide +kernel, rfl⟩
theorem D_X7_awake_169 : qj cX7_awake 169 (.goto 4) (4) 172 173 := ⟨by decide +kernel, rfl, by decide⟩
theorem D_X7_awake_172 : qd cX7_awake 172 (.iconst 0) 1 173 := ⟨by decide +kernel, rfl⟩
theorem D_X7_awake_173 : qd cX7_awake 173 (.istore 11) 2 175 := ⟨by decide +kernel, rfl⟩
theorem D_X7_awake_175 : qd cX7_awake 175 (.iinc 12 1) 3 178 := ⟨by decide +kernel, rfl⟩
theorem D_X7_awake_178 : qj cX7_awake 178 (.goto (-74)) (-74) 181 104 := ⟨by decide +kernel, rfl, by decide⟩
theorem D_X7_awake_181 : qd cX7_awake 181 (.lload 4) 2 183 := ⟨by decide +kernel, rfl⟩
theorem D_X7_awake_183 : qd cX7_awake 183 (.iload 11) 2 185 := ⟨by decide +kernel, rfl⟩
theorem D_X7_awake_185 : qj cX7_awake 185 (.ifCond .eq 21) (21) 188 206 := ⟨by decide +kernel, rfl, by decide⟩
theorem D_X7_awake_188 : qd cX7_awake 188 (.aload_n 0) 1 189 := ⟨by decide +kernel, rfl⟩
theorem D_X7_awake_189 : qd cX7_awake 189 (.getfield 19) 3 192 := ⟨by decide +kernel, rfl⟩
theorem D_X7_awake_192 : qd cX7_awake 192 (.iconst 5) 1 193 := ⟨by decide +kernel, rfl⟩
theorem D_X7_awake_193 : qd cX7_awake 193 (.iaload) 1 194 := ⟨by decide +kernel, rfl⟩
theorem D_X7_awake_194 : qd cX7_awake 194 (.iload_n 1) 1 195 := ⟨by decide +kernel, rfl⟩
theorem D_X7_awake_195 : qd cX7_awake 195 (.invokestatic 142) 3 198 := ⟨by decide +kernel, rfl⟩
theorem D_X7_awake_198 : qj cX7_awake 198 (.ifCond .eq 8) (8) 201 206 := ⟨by decide +kernel, rfl, by decide⟩
theorem D_X7_awake_201 : qd cX7_awake 201 (.lload 9) 2 203 := ⟨by decide +kernel, rfl⟩
theorem D_X7_awake_203 : qj cX7_awake 203 (.goto 4) (4) 206 207 := ⟨by decide +kernel, rfl, by decide⟩
theorem D_X7_awake_206 : qd cX7_awake 206 (.lconst 0) 1 207 := ⟨by decide +kernel, rfl⟩
theorem D_X7_awake_207 : qd cX7_awake 207 (.ladd) 1 208 := ⟨by decide +kernel, rfl⟩
theorem D_X7_awake_208 : qd cX7_awake 208 (.lstore 4) 2 210 := ⟨by decide +kernel, rfl⟩
theorem D_X7_awake_210 : qd cX7_awake 210 (.iinc 8 1) 3 213 := ⟨by decide +kernel, rfl⟩
theorem D_X7_awake_213 : qj cX7_awake 213 (.goto (-131)) (-131) 216 82 := ⟨by decide +kernel, rfl, by decide⟩
theorem D_X7_awake_216 : qd cX7_awake 216 (.lload 4) 2 218 := ⟨by decide +kernel, rfl⟩
theorem D_X7_awake_218 : qd cX7_awake 218 (.lstore 8) 2 220 := ⟨by decide +kernel, rfl⟩
theorem D_X7_awake_220 : qd cX7_awake 220 (.lload 6) 2 222 := ⟨by decide +kernel, rfl⟩
theorem D_X7_awake_222 : qd cX7_awake 222 (.lstore 10) 2 224 := ⟨by decide +kernel, rfl⟩
theorem D_X7_awake_224 : qd cX7_awake 224 (.lload 10) 2 226 := ⟨by decide +kernel, rfl⟩
theorem D_X7_awake_226 : qd cX7_awake 226 (.lconst 0) 1 227 := ⟨by decide +kernel, rfl⟩
theorem D_X7_awake_227 : qd cX7_awake 227 (.lcmp) 1 228 := ⟨by decide +kernel, rfl⟩
theorem D_X7_awake_228 : qj cX7_awake 228 (.ifCond .eq 21) (21) 231 249 := ⟨by decide +kernel, rfl, by decide⟩
theorem D_X7_awake_231 : qd cX7_awake 231 (.lload 8) 2 233 := ⟨by decide +kernel, rfl⟩
theorem D_X7_awake_233 : qd cX7_awake 233 (.lload 10) 2 235 := ⟨by decide +kernel, rfl⟩
theorem D_X7_awake_235 : qd cX7_awake 235 (.lrem) 1 236 := ⟨by decide +kernel, rfl⟩
theorem D_X7_awake_236 : qd cX7_awake 236 (.lstore 12) 2 238 := ⟨by decide +kernel, rfl⟩
theorem D_X7_awake_238 : qd cX7_awake 238 (.lload 10) 2 240 := ⟨by decide +kernel, rfl⟩
theorem D_X7_awake_240 : qd cX7_awake 240 (.lstore 8) 2 242 := ⟨by decide +kernel, rfl⟩
theorem D_X7_awake_242 : qd cX7_awake 242 (.lload 12) 2 244 := ⟨by decide +kernel, rfl⟩
theorem D_X7_awake_244 : qd cX7_awake 244 (.lstore 10) 2 246 := ⟨by decide +kernel, rfl⟩
theorem D_X7_awake_246 : qj cX7_awake 246 (.goto (-22)) (-22) 249 224 := ⟨by decide +kernel, rfl, by decide⟩
theorem D_X7_awake_249 : qd cX7_awake 249 (.iload_n 3) 1 250 := ⟨by decide +kernel, rfl⟩
theorem D_X7_awake_250 : qj cX7_awake 250 (.ifCond .ne 11) (11) 253 261 := ⟨by decide +kernel, rfl, by decide⟩
theorem D_X7_awake_253 : qd cX7_awake 253 (.lload 4) 2 255 := ⟨by decide +kernel, rfl⟩
theorem D_X7_awake_255 : qd cX7_awake 255 (.lload 8) 2 257 := ⟨by decide +kernel, rfl⟩
theorem D_X7_awake_257 : qd cX7_awake 257 (.ldiv) 1 258 := ⟨by decide +kernel, rfl⟩
theorem D_X7_awake_258 : qj cX7_awake 258 (.goto 8) (8) 261 266 := ⟨by decide +kernel, rfl, by decide⟩
theorem D_X7_awake_261 : qd cX7_awake 261 (.lload 6) 2 263 := ⟨by decide +kernel, rfl⟩
theorem D_X7_awake_263 : qd cX7_awake 263 (.lload 8) 2 265 := ⟨by decide +kernel, rfl⟩
theorem D_X7_awake_265 : qd cX7_awake 265 (.ldiv) 1 266 := ⟨by decide +kernel, rfl⟩
theorem D_X7_awake_266 : qd cX7_awake 266 (.lreturn) 1 267 := ⟨by decide +kernel, rfl⟩
theorem D_X7_begin_0 : qd cX7_begin 0 (.aload_n 0) 1 1 := ⟨by decide +kernel, rfl⟩
theorem D_X7_begin_1 : qd cX7_begin 1 (.getfield 248) 3 4 := ⟨by decide +kernel, rfl⟩
theorem D_X7_begin_4 : qd cX7_begin 4 (.bipush 16) 2 6 := ⟨by decide +kernel, rfl⟩
theorem D_X7_begin_6 : qj cX7_begin 6 (.if_icmp .ge 23) (23) 9 29 := ⟨by decide +kernel, rfl, by decide⟩
theorem D_X7_begin_9 : qd cX7_begin 9 (.aload_n 0) 1 10 := ⟨by decide +kernel, rfl⟩
theorem D_X7_begin_10 : qd cX7_begin 10 (.getfield 47) 3 13 := ⟨by decide +kernel, rfl⟩
theorem D_X7_begin_13 : qd cX7_begin 13 (.aload_n 0) 1 14 := ⟨by decide +kernel, rfl⟩
theorem D_X7_begin_14 : qd cX7_begin 14 (.getfield 248) 3 17 := ⟨by decide +kernel, rfl⟩
theorem D_X7_begin_17 : qd cX7_begin 17 (.iload_n 1) 1 18 := ⟨by decide +kernel, rfl⟩
theorem D_X7_begin_18 : qd cX7_begin 18 (.iastore) 1 19 := ⟨by decide +kernel, rfl⟩
theorem D_X7_begin_19 : qd cX7_begin 19 (.aload_n 0) 1 20 := ⟨by decide +kernel, rfl⟩
theorem D_X7_begin_20 : qd cX7_begin 20 (.dup) 1 21 := ⟨by decide +kernel, rfl⟩
theorem D_X7_begin_21 : qd cX7_begin 21 (.getfield 248) 3 24 := ⟨by decide +kernel, rfl⟩
theorem D_X7_begin_24 : qd cX7_begin 24 (.iconst 1) 1 25 := ⟨by decide +kernel, rfl⟩
theorem D_X7_begin_25 : qd cX7_begin 25 (.iadd) 1 26 := ⟨by decide +kernel, rfl⟩
theorem D_X7_begin_26 : qd cX7_begin 26 (.putfield 248) 3 29 := ⟨by decide +kernel, rfl⟩
theorem D_X7_begin_29 : qd cX7_begin 29 (.return_) 1 30 := ⟨by decide +kernel, rfl⟩
theorem D_X7_bound_0 : qd cX7_bound 0 (.aload_n 0) 1 1 := ⟨by decide +kernel, rfl⟩
theorem D_X7_bound_1 : qd cX7_bound 1 (.getfield 135) 3 4 := ⟨by decide +kernel, rfl⟩
theorem D_X7_bound_4 : qj cX7_bound 4 (.ifCond .ne 6) (6) 7 10 := ⟨by decide +kernel, rfl, by decide⟩
theorem D_X7_bound_7 : qd cX7_bound 7 (.ldc 162) 2 9 := ⟨by decide +kernel, rfl⟩
theorem D_X7_bound_9 : qd cX7_bound 9 (.ireturn) 1 10 := ⟨by decide +kernel, rfl⟩
theorem D_X7_bound_10 : qd cX7_bound 10 (.aload_n 0) 1 11 := ⟨by decide +kernel, rfl⟩
theorem D_X7_bound_11 : qd cX7_bound 11 (.iload_n 1) 1 12 := ⟨by decide +kernel, rfl⟩
theorem D_X7_bound_12 : qd cX7_bound 12 (.invokevirtual 180) 3 15 := ⟨by decide +kernel, rfl⟩
theorem D_X7_bound_15 : qj cX7_bound 15 (.ifCond .eq 12) (12) 18 27 := ⟨by decide +kernel, rfl, by decide⟩
theorem D_X7_bound_18 : qd cX7_bound 18 (.aload_n 0) 1 19 := ⟨by decide +kernel, rfl⟩
theorem D_X7_bound_19 : qd cX7_bound 19 (.iload_n 1) 1 20 := ⟨by decide +kernel, rfl⟩
theorem D_X7_bound_20 : qd cX7_bound 20 (.iconst 1) 1 21 := ⟨by decide +kernel, rfl⟩
theorem D_X7_bound_21 : qd cX7_bound 21 (.invokevirtual 198) 3 24 := ⟨by decide +kernel, rfl⟩
theorem D_X7_bound_24 : qj cX7_bound 24 (.goto 5) (5) 27 29 := ⟨by decide +kernel, rfl, by decide⟩
theorem D_X7_bound_27 : qd cX7_bound 27 (.ldc 67) 2 29 := ⟨by decide +kernel, rfl⟩
theorem D_X7_bound_29 : qd cX7_bound 29 (.ireturn) 1 30 := ⟨by decide +kernel, rfl⟩
theorem D_X7_bury_0 : qd cX7_bury 0 (.aload_n 0) 1 1 := ⟨by decide +kernel, rfl⟩
theorem D_X7_bury_1 : qd cX7_bury 1 (.iload_n 2) 1 2 := ⟨by decide +kernel, rfl⟩
theorem D_X7_bury_2 : qd cX7_bury 2 (.invokevirtual 171) 3 5 := ⟨by decide +kernel, rfl⟩
theorem D_X7_bury_5 : qj cX7_bury 5 (.ifCond .eq 11) (11) 8 16 := ⟨by decide +kernel, rfl, by decide⟩
theorem D_X7_bury_8 : qd cX7_bury 8 (.aload_n 0) 1 9 := ⟨by decide +kernel, rfl⟩
theorem D_X7_bury_9 : qd cX7_bury 9 (.iload_n 1) 1 10 := ⟨by decide +kernel, rfl⟩
theorem D_X7_bury_10 : qd cX7_bury 10 (.invokevirtual 180) 3 13 := ⟨by decide +kernel, rfl⟩
theorem D_X7_bury_13 : qj cX7_bury 13 (.ifCond .ne 6) (6) 16 19 := ⟨by decide +kernel, rfl, by decide⟩
theorem D_X7_bury_16 : qd cX7_bury 16 (.ldc 67) 2 18 := ⟨by decide +kernel, rfl⟩
theorem D_X7_bury_18 : qd cX7_bury 18 (.ireturn) 1 19 := ⟨by decide +kernel, rfl⟩
theorem D_X7_bury_19 : qd cX7_bury 19 (.aload_n 0) 1 20 := ⟨by decide +kernel, rfl⟩
theorem D_X7_bury_20 : qd cX7_bury 20 (.getfield 19) 3 23 := ⟨by decide +kernel, rfl⟩
theorem D_X7_bury_23 : qd cX7_bury 23 (.iconst 5) 1 24 := ⟨by decide +kernel, rfl⟩
theorem D_X7_bury_24 : qd cX7_bury 24 (.iaload) 1 25 := ⟨by decide +kernel, rfl⟩
theorem D_X7_bury_25 : qd cX7_bury 25 (.iload_n 1) 1 26 := ⟨by decide +kernel, rfl⟩
theorem D_X7_bury_26 : qd cX7_bury 26 (.invokestatic 142) 3 29 := ⟨by decide +kernel, rfl⟩
theorem D_X7_bury_29 : qj cX7_bury 29 (.ifCond .eq 6) (6) 32 35 := ⟨by decide +kernel, rfl, by decide⟩
theorem D_X7_bury_32 : qd cX7_bury 32 (.ldc 162) 2 34 := ⟨by decide +kernel, rfl⟩
theorem D_X7_bury_34 : qd cX7_bury 34 (.ireturn) 1 35 := ⟨by decide +kernel, rfl⟩
theorem D_X7_bury_35 : qd cX7_bury 35 (.aload_n 0) 1 36 := ⟨by decide +kernel, rfl⟩
theorem D_X7_bury_36 : qd cX7_bury 36 (.invokevirtual 165) 3 39 := ⟨by decide +kernel, rfl⟩
theorem D_X7_bury_39 : qd cX7_bury 39 (.aload_n 0) 1 40 := ⟨by decide +kernel, rfl⟩
theorem D_X7_bury_40 : qd cX7_bury 40 (.getfield 19) 3 43 := ⟨by decide +kernel, rfl⟩
theorem D_X7_bury_43 : qd cX7_bury 43 (.iconst 5) 1 44 := ⟨by decide +kernel, rfl⟩
theorem D_X7_bury_44 : qd cX7_bury 44 (.dup2) 1 45 := ⟨by decide +kernel, rfl⟩
theorem D_X7_bury_45 : qd cX7_bury 45 (.iaload) 1 46 := ⟨by decide +kernel, rfl⟩
theorem D_X7_bury_46 : qd cX7_bury 46 (.iconst 1) 1 47 := ⟨by decide +kernel, rfl⟩
theorem D_X7_bury_47 : qd cX7_bury 47 (.iload_n 1) 1 48 := ⟨by decide +kernel, rfl⟩
theorem D_X7_bury_48 : qd cX7_bury 48 (.ishl) 1 49 := ⟨by decide +kernel, rfl⟩
theorem D_X7_bury_49 : qd cX7_bury 49 (.ior) 1 50 := ⟨by decide +kernel, rfl⟩
theorem D_X7_bury_50 : qd cX7_bury 50 (.iastore) 1 51 := ⟨by decide +kernel, rfl⟩
theorem D_X7_bury_51 : qd cX7_bury 51 (.aload_n 0) 1 52 := ⟨by decide +kernel, rfl⟩
theorem D_X7_bury_52 : qd cX7_bury 52 (.getfield 19) 3 55 := ⟨by decide +kernel, rfl⟩
theorem D_X7_bury_55 : qd cX7_bury 55 (.bipush 21) 2 57 := ⟨by decide +kernel, rfl⟩
theorem D_X7_bury_57 : qd cX7_bury 57 (.bipush 6) 2 59 := ⟨by decide +kernel, rfl⟩
theorem D_X7_bury_59 : qd cX7_bury 59 (.iload_n 2) 1 60 := ⟨by decide +kernel, rfl⟩
theorem D_X7_bury_60 : qd cX7_bury 60 (.imul) 1 61 := ⟨by decide +kernel, rfl⟩
theorem D_X7_bury_61 : qd cX7_bury 61 (.iadd) 1 62 := ⟨by decide +kernel, rfl⟩
theorem D_X7_bury_62 : qd cX7_bury 62 (.iload_n 1) 1 63 := ⟨by decide +kernel, rfl⟩
theorem D_X7_bury_63 : qd cX7_bury 63 (.iadd) 1 64 := ⟨by decide +kernel, rfl⟩
theorem D_X7_bury_64 : qd cX7_bury 64 (.bipush 27) 2 66 := ⟨by decide +kernel, rfl⟩
theorem D_X7_bury_66 : qd cX7_bury 66 (.iastore) 1 67 := ⟨by decide +kernel, rfl⟩
theorem D_X7_bury_67 : qd cX7_bury 67 (.aload_n 0) 1 68 := ⟨by decide +kernel, rfl⟩
theorem D_X7_bury_68 : qd cX7_bury 68 (.getfield 19) 3 71 := ⟨by decide +kernel, rfl⟩
theorem D_X7_bury_71 : qd cX7_bury 71 (.iconst 5) 1 72 := ⟨by decide +kernel, rfl⟩
theorem D_X7_bury_72 : qd cX7_bury 72 (.iaload) 1 73 := ⟨by decide +kernel, rfl⟩
theorem D_X7_bury_73 : qd cX7_bury 73 (.ireturn) 1 74 := ⟨by decide +kernel, rfl⟩
theorem D_X7_cheese_0 : qd cX7_cheese 0 (.aload_n 0) 1 1 := ⟨by decide +kernel, rfl⟩
theorem D_X7_cheese_1 : qd cX7_cheese 1 (.getfield 135) 3 4 := ⟨by decide +kernel, rfl⟩
theorem D_X7_cheese_4 : qj cX7_cheese 4 (.ifCond .ne 6) (6) 7 10 := ⟨by decide +kernel, rfl, by decide⟩
theorem D_X7_cheese_7 : qd cX7_cheese 7 (.ldc 162) 2 9 := ⟨by decide +kernel, rfl⟩
theorem D_X7_cheese_9 : qd cX7_cheese 9 (.ireturn) 1 10 := ⟨by decide +kernel, rfl⟩
theorem D_X7_cheese_10 : qd cX7_cheese 10 (.iload_n 1) 1 11 := ⟨by decide +kernel, rfl⟩
theorem D_X7_cheese_11 : qd cX7_cheese 11 (.i2l) 1 12 := ⟨by decide +kernel, rfl⟩
theorem D_X7_cheese_12 : qd cX7_cheese 12 (.lconst 1) 1 13 := ⟨by decide +kernel, rfl⟩
theorem D_X7_cheese_13 : qd cX7_cheese 13 (.ldc2_w 186) 3 16 := ⟨by decide +kernel, rfl⟩
theorem D_X7_cheese_16 : qd cX7_cheese 16 (.invokestatic 57) 3 19 := ⟨by decide +kernel, rfl⟩
theorem D_X7_cheese_19 : qj cX7_cheese 19 (.ifCond .ne 6) (6) 22 25 := ⟨by decide +kernel, rfl, by decide⟩
theorem D_X7_cheese_22 : qd cX7_cheese 22 (.ldc 67) 2 24 := ⟨by decide +kernel, rfl⟩
theorem D_X7_cheese_24 : qd cX7_cheese 24 (.ireturn) 1 25 := ⟨by decide +kernel, rfl⟩
theorem D_X7_cheese_25 : qd cX7_cheese 25 (.aload_n 0) 1 26 := ⟨by decide +kernel, rfl⟩
theorem D_X7_cheese_26 : qd cX7_cheese 26 (.invokevirtual 188) 3 29 := ⟨by decide +kernel, rfl⟩
theorem D_X7_cheese_29 : qd cX7_cheese 29 (.iconst 0) 1 30 := ⟨by decide +kernel, rfl⟩
theorem D_X7_cheese_30 : qd cX7_cheese 30 (.istore_n 2) 1 31 := ⟨by decide +kernel, rfl⟩
theorem D_X7_cheese_31 : qd cX7_cheese 31 (.iconst 0) 1 32 := ⟨by decide +kernel, rfl⟩
theorem D_X7_cheese_32 : qd cX7_cheese 32 (.istore_n 3) 1 33 := ⟨by decide +kernel, rfl⟩
theorem D_X7_cheese_33 : qd cX7_cheese 33 (.iload_n 3) 1 34 := ⟨by decide +kernel, rfl⟩
theorem D_X7_cheese_34 : qd cX7_cheese 34 (.iload_n 1) 1 35 := ⟨by decide +kernel, rfl⟩
theorem D_X7_cheese_35 : qj cX7_cheese 35 (.if_icmp .ge 70) (70) 38 105 := ⟨by decide +kernel, rfl, by decide⟩
theorem D_X7_cheese_38 : qd cX7_cheese 38 (.iconst 0) 1 39 := ⟨by decide +kernel, rfl⟩
theorem D_X7_cheese_39 : qd cX7_cheese 39 (.istore 4) 2 41 := ⟨by decide +kernel, rfl⟩
theorem D_X7_cheese_41 : qd cX7_cheese 41 (.iload 4) 2 43 := ⟨by decide +kernel, rfl⟩
theorem D_X7_cheese_43 : qd cX7_cheese 43 (.aload_n 0) 1 44 := ⟨by decide +kernel, rfl⟩
theorem D_X7_cheese_44 : qd cX7_cheese 44 (.getfield 19) 3 47 := ⟨by decide +kernel, rfl⟩
theorem D_X7_cheese_47 : qd cX7_cheese 47 (.iconst 3) 1 48 := ⟨by decide +kernel, rfl⟩
theorem D_X7_cheese_48 : qd cX7_cheese 48 (.iaload) 1 49 := ⟨by decide +kernel, rfl⟩
theorem D_X7_cheese_49 : qj cX7_cheese 49 (.if_icmp .ge 46) (46) 52 95 := ⟨by decide +kernel, rfl, by decide⟩
theorem D_X7_cheese_52 : qd cX7_cheese 52 (.aload_n 0) 1 53 := ⟨by decide +kernel, rfl⟩
theorem D_X7_cheese_53 : qd cX7_cheese 53 (.getfield 19) 3 56 := ⟨by decide +kernel, rfl⟩
theorem D_X7_cheese_56 : qd cX7_cheese 56 (.bipush 11) 2 58 := ⟨by decide +kernel, rfl⟩
theorem D_X7_cheese_58 : qd cX7_cheese 58 (.iload 4) 2 60 := ⟨by decide +kernel, rfl⟩
theorem D_X7_cheese_60 : qd cX7_cheese 60 (.iadd) 1 61 := ⟨by decide +kernel, rfl⟩
theorem D_X7_cheese_61 : qd cX7_cheese 61 (.aload_n 0) 1 62 := ⟨by decide +kernel, rfl⟩
theorem D_X7_cheese_62 : qd cX7_cheese 62 (.iload 4) 2 64 := ⟨by decide +kernel, rfl⟩
theorem D_X7_cheese_64 : qd cX7_cheese 64 (.invokevirtual 228) 3 67 := ⟨by decide +kernel, rfl⟩
theorem D_X7_cheese_67 : qj cX7_cheese 67 (.ifCond .eq 7) (7) 70 74 := ⟨by decide +kernel, rfl, by decide⟩
theorem D_X7_cheese_70 : qd cX7_cheese 70 (.iconst 1) 1 71 := ⟨by decide +kernel, rfl⟩
theorem D_X7_cheese_71 : qj cX7_cheese 71 (.goto 4) (4) 74 75 := ⟨by decide +kernel, rfl, by decide⟩
theorem D_X7_cheese_74 : qd cX7_cheese 74 (.iconst 0) 1 75 := ⟨by decide +kernel, rfl⟩
theorem D_X7_cheese_75 : qd cX7_cheese 75 (.iastore) 1 76 := ⟨by decide +kernel, rfl⟩
theorem D_X7_cheese_76 : qd cX7_cheese 76 (.iload_n 2) 1 77 := ⟨by decide +kernel, rfl⟩
theorem D_X7_cheese_77 : qd cX7_cheese 77 (.aload_n 0) 1 78 := ⟨by decide +kernel, rfl⟩
theorem D_X7_cheese_78 : qd cX7_cheese 78 (.getfield 19) 3 81 := ⟨by decide +kernel, rfl⟩
theorem D_X7_cheese_81 : qd cX7_cheese 81 (.bipush 11) 2 83 := ⟨by decide +kernel, rfl⟩
theorem D_X7_cheese_83 : qd cX7_cheese 83 (.iload 4) 2 85 := ⟨by decide +kernel, rfl⟩
theorem D_X7_cheese_85 : qd cX7_cheese 85 (.iadd) 1 86 := ⟨by decide +kernel, rfl⟩
theorem D_X7_cheese_86 : qd cX7_cheese 86 (.iaload) 1 87 := ⟨by decide +kernel, rfl⟩
theorem D_X7_cheese_87 : qd cX7_cheese 87 (.iadd) 1 88 := ⟨by decide +kernel, rfl⟩
theorem D_X7_cheese_88 : qd cX7_cheese 88 (.istore_n 2) 1 89 := ⟨by decide +kernel, rfl⟩
theorem D_X7_cheese_89 : qd cX7_cheese 89 (.iinc 4 1) 3 92 := ⟨by decide +kernel, rfl⟩
theorem D_X7_cheese_92 : qj cX7_cheese 92 (.goto (-51)) (-51) 95 41 := ⟨by decide +kernel, rfl, by decide⟩
theorem D_X7_cheese_95 : qd cX7_cheese 95 (.aload_n 0) 1 96 := ⟨by decide +kernel, rfl⟩
theorem D_X7_cheese_96 : qd cX7_cheese 96 (.invokevirtual 168) 3 99 := ⟨by decide +kernel, rfl⟩
theorem D_X7_cheese_99 : qd cX7_cheese 99 (.iinc 3 1) 3 102 := ⟨by decide +kernel, rfl⟩
theorem D_X7_cheese_102 : qj cX7_cheese 102 (.goto (-69)) (-69) 105 33 := ⟨by decide +kernel, rfl, by decide⟩
theorem D_X7_cheese_105 : qd cX7_cheese 105 (.aload_n 0) 1 106 := ⟨by decide +kernel, rfl⟩
theorem D_X7_cheese_106 : qd cX7_cheese 106 (.invokevirtual 191) 3 109 := ⟨by decide +kernel, rfl⟩
theorem D_X7_cheese_109 : qd cX7_cheese 109 (.iload_n 2) 1 110 := ⟨by decide +kernel, rfl⟩
theorem D_X7_cheese_110 : qd cX7_cheese 110 (.ireturn) 1 111 := ⟨by decide +kernel, rfl⟩
theorem D_X7_copy_0 : qd cX7_copy 0 (.iload_n 1) 1 1 := ⟨by decide +kernel, rfl⟩
theorem D_X7_copy_1 : qd cX7_copy 1 (.invokestatic 61) 3 4 := ⟨by decide +kernel, rfl⟩
theorem D_X7_copy_4 : qj cX7_copy 4 (.ifCond .eq 10) (10) 7 14 := ⟨by decide +kernel, rfl, by decide⟩
theorem D_X7_copy_7 : qd cX7_copy 7 (.iload_n 3) 1 8 := ⟨by decide +kernel, rfl⟩
theorem D_X7_copy_8 : qd cX7_copy 8 (.invokestatic 61) 3 11 := ⟨by decide +kernel, rfl⟩
theorem D_X7_copy_11 : qj cX7_copy 11 (.ifCond .ne 6) (6) 14 17 := ⟨by decide +kernel, rfl, by decide⟩
theorem D_X7_copy_14 : qd cX7_copy 14 (.ldc 67) 2 16 := ⟨by decide +kernel, rfl⟩
theorem D_X7_copy_16 : qd cX7_copy 16 (.ireturn) 1 17 := ⟨by decide +kernel, rfl⟩
theorem D_X7_copy_17 : qd cX7_copy 17 (.aload_n 0) 1 18 := ⟨by decide +kernel, rfl⟩
theorem D_X7_copy_18 : qd cX7_copy 18 (.getfield 13) 3 21 := ⟨by decide +kernel, rfl⟩
theorem D_X7_copy_21 : qd cX7_copy 21 (.iload_n 1) 1 22 := ⟨by decide +kernel, rfl⟩
theorem D_X7_copy_22 : qd cX7_copy 22 (.iaload) 1 23 := ⟨by decide +kernel, rfl⟩
theorem D_X7_copy_23 : qj cX7_copy 23 (.ifCond .lt 12) (12) 26 35 := ⟨by decide +kernel, rfl, by decide⟩
theorem D_X7_copy_26 : qd cX7_copy 26 (.aload_n 0) 1 27 := ⟨by decide +kernel, rfl⟩
theorem D_X7_copy_27 : qd cX7_copy 27 (.getfield 13) 3 30 := ⟨by decide +kernel, rfl⟩
theorem D_X7_copy_30 : qd cX7_copy 30 (.iload_n 3) 1 31 := ⟨by decide +kernel, rfl⟩
theorem D_X7_copy_31 : qd cX7_copy 31 (.iaload) 1 32 := ⟨by decide +kernel, rfl⟩
theorem D_X7_copy_32 : qj cX7_copy 32 (.ifCond .ge 9) (9) 35 41 := ⟨by decide +kernel, rfl, by decide⟩
theorem D_X7_copy_35 : qd cX7_copy 35 (.aload_n 0) 1 36 := ⟨by decide +kernel, rfl⟩
theorem D_X7_copy_36 : qd cX7_copy 36 (.iconst 1) 1 37 := ⟨by decide +kernel, rfl⟩
theorem D_X7_copy_37 : qd cX7_copy 37 (.invokevirtual 68) 3 40 := ⟨by decide +kernel, rfl⟩
theorem D_X7_copy_40 : qd cX7_copy 40 (.ireturn) 1 41 := ⟨by decide +kernel, rfl⟩
theorem D_X7_copy_41 : qd cX7_copy 41 (.aload_n 0) 1 42 := ⟨by decide +kernel, rfl⟩
theorem D_X7_copy_42 : qd cX7_copy 42 (.getfield 7) 3 45 := ⟨by decide +kernel, rfl⟩
theorem D_X7_copy_45 : qd cX7_copy 45 (.iload_n 1) 1 46 := ⟨by decide +kernel, rfl⟩
theorem D_X7_copy_46 : qd cX7_copy 46 (.iaload) 1 47 := ⟨by decide +kernel, rfl⟩
theorem D_X7_copy_47 : qd cX7_copy 47 (.aload_n 0) 1 48 := ⟨by decide +kernel, rfl⟩
theorem D_X7_copy_48 : qd cX7_copy 48 (.getfield 7) 3 51 := ⟨by decide +kernel, rfl⟩
theorem D_X7_copy_51 : qd cX7_copy 51 (.iload_n 3) 1 52 := ⟨by decide +kernel, rfl⟩
theorem D_X7_copy_52 : qd cX7_copy 52 (.iaload) 1 53 := ⟨by decide +kernel, rfl⟩
theorem D_X7_copy_53 : qj cX7_copy 53 (.if_icmp .eq 9) (9) 56 62 := ⟨by decide +kernel, rfl, by decide⟩
theorem D_X7_copy_56 : qd cX7_copy 56 (.aload_n 0) 1 57 := ⟨by decide +kernel, rfl⟩
theorem D_X7_copy_57 : qd cX7_copy 57 (.iconst 5) 1 58 := ⟨by decide +kernel, rfl⟩
theorem D_X7_copy_58 : qd cX7_copy 58 (.invokevirtual 68) 3 61 := ⟨by decide +kernel, rfl⟩
theorem D_X7_copy_61 : qd cX7_copy 61 (.ireturn) 1 62 := ⟨by decide +kernel, rfl⟩
theorem D_X7_copy_62 : qd cX7_copy 62 (.iload 5) 2 64 := ⟨by decide +kernel, rfl⟩
theorem D_X7_copy_64 : qj cX7_copy 64 (.ifCond .lt 44) (44) 67 108 := ⟨by decide +kernel, rfl, by decide⟩
theorem D_X7_copy_67 : qd cX7_copy 67 (.iload_n 2) 1 68 := ⟨by decide +kernel, rfl⟩
theorem D_X7_copy_68 : qd cX7_copy 68 (.i2l) 1 69 := ⟨by decide +kernel, rfl⟩
theorem D_X7_copy_69 : qd cX7_copy 69 (.lconst 0) 1 70 := ⟨by decide +kernel, rfl⟩
theorem D_X7_copy_70 : qd cX7_copy 70 (.aload_n 0) 1 71 := ⟨by decide +kernel, rfl⟩
theorem D_X7_copy_71 : qd cX7_copy 71 (.getfield 13) 3 74 := ⟨by decide +kernel, rfl⟩
theorem D_X7_copy_74 : qd cX7_copy 74 (.iload_n 1) 1 75 := ⟨by decide +kernel, rfl⟩
theorem D_X7_copy_75 : qd cX7_copy 75 (.iaload) 1 76 := ⟨by decide +kernel, rfl⟩
theorem D_X7_copy_76 : qd cX7_copy 76 (.i2l) 1 77 := ⟨by decide +kernel, rfl⟩
theorem D_X7_copy_77 : qd cX7_copy 77 (.iload 5) 2 79 := ⟨by decide +kernel, rfl⟩
theorem D_X7_copy_79 : qd cX7_copy 79 (.i2l) 1 80 := ⟨by decide +kernel, rfl⟩
theorem D_X7_copy_80 : qd cX7_copy 80 (.lsub) 1 81 := ⟨by decide +kernel, rfl⟩
theorem D_X7_copy_81 : qd cX7_copy 81 (.invokestatic 57) 3 84 := ⟨by decide +kernel, rfl⟩
theorem D_X7_copy_84 : qj cX7_copy 84 (.ifCond .eq 24) (24) 87 108 := ⟨by decide +kernel, rfl, by decide⟩
theorem D_X7_copy_87 : qd cX7_copy 87 (.iload 4) 2 89 := ⟨by decide +kernel, rfl⟩
theorem D_X7_copy_89 : qd cX7_copy 89 (.i2l) 1 90 := ⟨by decide +kernel, rfl⟩
theorem D_X7_copy_90 : qd cX7_copy 90 (.lconst 0) 1 91 := ⟨by decide +kernel, rfl⟩
theorem D_X7_copy_91 : qd cX7_copy 91 (.aload_n 0) 1 92 := ⟨by decide +kernel, rfl⟩
theorem D_X7_copy_92 : qd cX7_copy 92 (.getfield 13) 3 95 := ⟨by decide +kernel, rfl⟩
theorem D_X7_copy_95 : qd cX7_copy 95 (.iload_n 3) 1 96 := ⟨by decide +kernel, rfl⟩
theorem D_X7_copy_96 : qd cX7_copy 96 (.iaload) 1 97 := ⟨by decide +kernel, rfl⟩
theorem D_X7_copy_97 : qd cX7_copy 97 (.i2l) 1 98 := ⟨by decide +kernel, rfl⟩
theorem D_X7_copy_98 : qd cX7_copy 98 (.iload 5) 2 100 := ⟨by decide +kernel, rfl⟩
theorem D_X7_copy_100 : qd cX7_copy 100 (.i2l) 1 101 := ⟨by decide +kernel, rfl⟩
theorem D_X7_copy_101 : qd cX7_copy 101 (.lsub) 1 102 := ⟨by decide +kernel, rfl⟩
theorem D_X7_copy_102 : qd cX7_copy 102 (.invokestatic 57) 3 105 := ⟨by decide +kernel, rfl⟩
theorem D_X7_copy_105 : qj cX7_copy 105 (.ifCond .ne 9) (9) 108 114 := ⟨by decide +kernel, rfl, by decide⟩
theorem D_X7_copy_108 : qd cX7_copy 108 (.aload_n 0) 1 109 := ⟨by decide +kernel, rfl⟩
theorem D_X7_copy_109 : qd cX7_copy 109 (.iconst 2) 1 110 := ⟨by decide +kernel, rfl⟩
theorem D_X7_copy_110 : qd cX7_copy 110 (.invokevirtual 68) 3 113 := ⟨by decide +kernel, rfl⟩
theorem D_X7_copy_113 : qd cX7_copy 113 (.ireturn) 1 114 := ⟨by decide +kernel, rfl⟩
theorem D_X7_copy_114 : qd cX7_copy 114 (.iconst 0) 1 115 := ⟨by decide +kernel, rfl⟩
theorem D_X7_copy_115 : qd cX7_copy 115 (.istore 6) 2 117 := ⟨by decide +kernel, rfl⟩
theorem D_X7_copy_117 : qd cX7_copy 117 (.iload 6) 2 119 := ⟨by decide +kernel, rfl⟩
theorem D_X7_copy_119 : qd cX7_copy 119 (.iload 5) 2 121 := ⟨by decide +kernel, rfl⟩
theorem D_X7_copy_121 : qj cX7_copy 121 (.if_icmp .ge 30) (30) 124 151 := ⟨by decide +kernel, rfl, by decide⟩
theorem D_X7_copy_124 : qd cX7_copy 124 (.aload_n 0) 1 125 := ⟨by decide +kernel, rfl⟩
theorem D_X7_copy_125 : qd cX7_copy 125 (.getfield 22) 3 128 := ⟨by decide +kernel, rfl⟩
theorem D_X7_copy_128 : qd cX7_copy 128 (.iload 6) 2 130 := ⟨by decide +kernel, rfl⟩
theorem D_X7_copy_130 : qd cX7_copy 130 (.aload_n 0) 1 131 := ⟨by decide +kernel, rfl⟩
theorem D_X7_copy_131 : qd cX7_copy 131 (.getfield 16) 3 134 := ⟨by decide +kernel, rfl⟩
theorem D_X7_copy_134 : qd cX7_copy 134 (.bipush 40) 2 136 := ⟨by decide +kernel, rfl⟩
theorem D_X7_copy_136 : qd cX7_copy 136 (.iload_n 1) 1 137 := ⟨by decide +kernel, rfl⟩
theorem D_X7_copy_137 : qd cX7_copy 137 (.imul) 1 138 := ⟨by decide +kernel, rfl⟩
theorem D_X7_copy_138 : qd cX7_copy 138 (.iload_n 2) 1 139 := ⟨by decide +kernel, rfl⟩
theorem D_X7_copy_139 : qd cX7_copy 139 (.iadd) 1 140 := ⟨by decide +kernel, rfl⟩
theorem D_X7_copy_140 : qd cX7_copy 140 (.iload 6) 2 142 := ⟨by decide +kernel, rfl⟩
theorem D_X7_copy_142 : qd cX7_copy 142 (.iadd) 1 143 := ⟨by decide +kernel, rfl⟩
theorem D_X7_copy_143 : qd cX7_copy 143 (.iaload) 1 144 := ⟨by decide +kernel, rfl⟩
theorem D_X7_copy_144 : qd cX7_copy 144 (.iastore) 1 145 := ⟨by decide +kernel, rfl⟩
theorem D_X7_copy_145 : qd cX7_copy 145 (.iinc 6 1) 3 148 := ⟨by decide +kernel, rfl⟩
theorem D_X7_copy_148 : qj cX7_copy 148 (.goto (-31)) (-31) 151 117 := ⟨by decide +kernel, rfl, by decide⟩
theorem D_X7_copy_151 : qd cX7_copy 151 (.iconst 0) 1 152 := ⟨by decide +kernel, rfl⟩
theorem D_X7_copy_152 : qd cX7_copy 152 (.istore 6) 2 154 := ⟨by decide +kernel, rfl⟩
theorem D_X7_copy_154 : qd cX7_copy 154 (.iload 6) 2 156 := ⟨by decide +kernel, rfl⟩
theorem D_X7_copy_156 : qd cX7_copy 156 (.iload 5) 2 158 := ⟨by decide +kernel, rfl⟩
theorem D_X7_copy_158 : qj cX7_copy 158 (.if_icmp .ge 31) (31) 161 189 := ⟨by decide +kernel, rfl, by decide⟩
theorem D_X7_copy_161 : qd cX7_copy 161 (.aload_n 0) 1 162 := ⟨by decide +kernel, rfl⟩
theorem D_X7_copy_162 : qd cX7_copy 162 (.getfield 16) 3 165 := ⟨by decide +kernel, rfl⟩
theorem D_X7_copy_165 : qd cX7_copy 165 (.bipush 40) 2 167 := ⟨by decide +kernel, rfl⟩
theorem D_X7_copy_167 : qd cX7_copy 167 (.iload_n 3) 1 168 := ⟨by decide +kernel, rfl⟩
theorem D_X7_copy_168 : qd cX7_copy 168 (.imul) 1 169 := ⟨by decide +kernel, rfl⟩
theorem D_X7_copy_169 : qd cX7_copy 169 (.iload 4) 2 171 := ⟨by decide +kernel, rfl⟩
theorem D_X7_copy_171 : qd cX7_copy 171 (.iadd) 1 172 := ⟨by decide +kernel, rfl⟩
theorem D_X7_copy_172 : qd cX7_copy 172 (.iload 6) 2 174 := ⟨by decide +kernel, rfl⟩
theorem D_X7_copy_174 : qd cX7_copy 174 (.iadd) 1 175 := ⟨by decide +kernel, rfl⟩
theorem D_X7_copy_175 : qd cX7_copy 175 (.aload_n 0) 1 176 := ⟨by decide +kernel, rfl⟩
theorem D_X7_copy_176 : qd cX7_copy 176 (.getfield 22) 3 179 := ⟨by decide +kernel, rfl⟩
theorem D_X7_copy_179 : qd cX7_copy 179 (.iload 6) 2 181 := ⟨by decide +kernel, rfl⟩
theorem D_X7_copy_181 : qd cX7_copy 181 (.iaload) 1 182 := ⟨by decide +kernel, rfl⟩
theorem D_X7_copy_182 : qd cX7_copy 182 (.iastore) 1 183 := ⟨by decide +kernel, rfl⟩
theorem D_X7_copy_183 : qd cX7_copy 183 (.iinc 6 1) 3 186 := ⟨by decide +kernel, rfl⟩
theorem D_X7_copy_186 : qj cX7_copy 186 (.goto (-32)) (-32) 189 154 := ⟨by decide +kernel, rfl, by decide⟩
theorem D_X7_copy_189 : qd cX7_copy 189 (.aload_n 0) 1 190 := ⟨by decide +kernel, rfl⟩
theorem D_X7_copy_190 : qd cX7_copy 190 (.iload 5) 2 192 := ⟨by decide +kernel, rfl⟩
theorem D_X7_copy_192 : qd cX7_copy 192 (.invokevirtual 72) 3 195 := ⟨by decide +kernel, rfl⟩
theorem D_X7_copy_195 : qd cX7_copy 195 (.ireturn) 1 196 := ⟨by decide +kernel, rfl⟩
theorem D_X7_count_0 : qd cX7_count 0 (.iconst 0) 1 1 := ⟨by decide +kernel, rfl⟩
theorem D_X7_count_1 : qd cX7_count 1 (.istore_n 2) 1 2 := ⟨by decide +kernel, rfl⟩
theorem D_X7_count_2 : qd cX7_count 2 (.iconst 0) 1 3 := ⟨by decide +kernel, rfl⟩
theorem D_X7_count_3 : qd cX7_count 3 (.istore_n 3) 1 4 := ⟨by decide +kernel, rfl⟩
theorem D_X7_count_4 : qd cX7_count 4 (.iload_n 3) 1 5 := ⟨by decide +kernel, rfl⟩
theorem D_X7_count_5 : qd cX7_count 5 (.bipush 8) 2 7 := ⟨by decide +kernel, rfl⟩
theorem D_X7_count_7 : qj cX7_count 7 (.if_icmp .ge 26) (26) 10 33 := ⟨by decide +kernel, rfl, by decide⟩
theorem D_X7_count_10 : qd cX7_count 10 (.iload_n 2) 1 11 := ⟨by decide +kernel, rfl⟩
theorem D_X7_count_11 : qd cX7_count 11 (.aload_n 0) 1 12 := ⟨by decide +kernel, rfl⟩
theorem D_X7_count_12 : qd cX7_count 12 (.getfield 13) 3 15 := ⟨by decide +kernel, rfl⟩
theorem D_X7_count_15 : qd cX7_count 15 (.iload_n 3) 1 16 := ⟨by decide +kernel, rfl⟩
theorem D_X7_count_16 : qd cX7_count 16 (.iaload) 1 17 := ⟨by decide +kernel, rfl⟩
theorem D_X7_count_17 : qj cX7_count 17 (.ifCond .lt 7) (7) 20 24 := ⟨by decide +kernel, rfl, by decide⟩
theorem D_X7_count_20 : qd cX7_count 20 (.iconst 1) 1 21 := ⟨by decide +kernel, rfl⟩
theorem D_X7_count_21 : qj cX7_count 21 (.goto 4) (4) 24 25 := ⟨by decide +kernel, rfl, by decide⟩
theorem D_X7_count_24 : qd cX7_count 24 (.iconst 0) 1 25 := ⟨by decide +kernel, rfl⟩
theorem D_X7_count_25 : qd cX7_count 25 (.iadd) 1 26 := ⟨by decide +kernel, rfl⟩
theorem D_X7_count_26 : qd cX7_count 26 (.istore_n 2) 1 27 := ⟨by decide +kernel, rfl⟩
theorem D_X7_count_27 : qd cX7_count 27 (.iinc 3 1) 3 30 := ⟨by decide +kernel, rfl⟩
theorem D_X7_count_30 : qj cX7_count 30 (.goto (-26)) (-26) 33 4 := ⟨by decide +kernel, rfl, by decide⟩
theorem D_X7_count_33 : qd cX7_count 33 (.iload_n 1) 1 34 := ⟨by decide +kernel, rfl⟩
theorem D_X7_count_34 : qd cX7_count 34 (.tableswitch 91 0 7 #[46, 48, 55, 62, 69, 76, 81, 86]) 46 80 := ⟨by decide +kernel, rfl⟩
theorem D_X7_count_80 : qd cX7_count 80 (.iload_n 2) 1 81 := ⟨by decide +kernel, rfl⟩
theorem D_X7_count_81 : qd cX7_count 81 (.ireturn) 1 82 := ⟨by decide +kernel, rfl⟩
theorem D_X7_count_82 : qd cX7_count 82 (.aload_n 0) 1 83 := ⟨by decide +kernel, rfl⟩
theorem D_X7_count_83 : qd cX7_count 83 (.getfield 19) 3 86 := ⟨by decide +kernel, rfl⟩
theorem D_X7_count_86 : qd cX7_count 86 (.iconst 0) 1 87 := ⟨by decide +kernel, rfl⟩
theorem D_X7_count_87 : qd cX7_count 87 (.iaload) 1 88 := ⟨by decide +kernel, rfl⟩
theorem D_X7_count_88 : qd cX7_count 88 (.ireturn) 1 89 := ⟨by decide +kernel, rfl⟩
theorem D_X7_count_89 : qd cX7_count 89 (.aload_n 0) 1 90 := ⟨by decide +kernel, rfl⟩
theorem D_X7_count_90 : qd cX7_count 90 (.getfield 19) 3 93 := ⟨by decide +kernel, rfl⟩
theorem D_X7_count_93 : qd cX7_count 93 (.iconst 3) 1 94 := ⟨by decide +kernel, rfl⟩
theorem D_X7_count_94 : qd cX7_count 94 (.iaload) 1 95 := ⟨by decide +kernel, rfl⟩
theorem D_X7_count_95 : qd cX7_count 95 (.ireturn) 1 96 := ⟨by decide +kernel, rfl⟩
theorem D_X7_count_96 : qd cX7_count 96 (.aload_n 0) 1 97 := ⟨by decide +kernel, rfl⟩
theorem D_X7_count_97 : qd cX7_count 97 (.getfield 19) 3 100 := ⟨by decide +kernel, rfl⟩
theorem D_X7_count_100 : qd cX7_count 100 (.iconst 4) 1 101 := ⟨by decide +kernel, rfl⟩
theorem D_X7_count_101 : qd cX7_count 101 (.iaload) 1 102 := ⟨by decide +kernel, rfl⟩
theorem D_X7_count_102 : qd cX7_count 102 (.ireturn) 1 103 := ⟨by decide +kernel, rfl⟩
theorem D_X7_count_103 : qd cX7_count 103 (.aload_n 0) 1 104 := ⟨by decide +kernel, rfl⟩
theorem D_X7_count_104 : qd cX7_count 104 (.getfield 19) 3 107 := ⟨by decide +kernel, rfl⟩
theorem D_X7_count_107 : qd cX7_count 107 (.iconst 5) 1 108 := ⟨by decide +kernel, rfl⟩
theorem D_X7_count_108 : qd cX7_count 108 (.iaload) 1 109 := ⟨by decide +kernel, rfl⟩
theorem D_X7_count_109 : qd cX7_count 109 (.ireturn) 1 110 := ⟨by decide +kernel, rfl⟩
theorem D_X7_count_110 : qd cX7_count 110 (.aload_n 0) 1 111 := ⟨by decide +kernel, rfl⟩
theorem D_X7_count_111 : qd cX7_count 111 (.invokevirtual 174) 3 114 := ⟨by decide +kernel, rfl⟩
theorem D_X7_count_114 : qd cX7_count 114 (.ireturn) 1 115 := ⟨by decide +kernel, rfl⟩
theorem D_X7_count_115 : qd cX7_count 115 (.aload_n 0) 1 116 := ⟨by decide +kernel, rfl⟩
theorem D_X7_count_116 : qd cX7_count 116 (.getfield 139) 3 119 := ⟨by decide +kernel, rfl⟩
theorem D_X7_count_119 : qd cX7_count 119 (.ireturn) 1 120 := ⟨by decide +kernel, rfl⟩
theorem D_X7_count_120 : qd cX7_count 120 (.aload_n 0) 1 121 := ⟨by decide +kernel, rfl⟩
theorem D_X7_count_121 : qd cX7_count 121 (.getfield 81) 3 124 := ⟨by decide +kernel, rfl⟩
theorem D_X7_count_124 : qd cX7_count 124 (.ireturn) 1 125 := ⟨by decide +kernel, rfl⟩
theorem D_X7_count_125 : qd cX7_count 125 (.ldc 67) 2 127 := ⟨by decide +kernel, rfl⟩
theorem D_X7_count_127 : qd cX7_count 127 (.ireturn) 1 128 := ⟨by decide +kernel, rfl⟩
theorem D_X7_drawn_0 : qd cX7_drawn 0 (.aload_n 0) 1 1 := ⟨by decide +kernel, rfl⟩
theorem D_X7_drawn_1 : qd cX7_drawn 1 (.getfield 135) 3 4 := ⟨by decide +kernel, rfl⟩
theorem D_X7_drawn_4 : qj cX7_drawn 4 (.ifCond .ne 6) (6) 7 10 := ⟨by decide +kernel, rfl, by decide⟩
theorem D_X7_drawn_7 : qd cX7_drawn 7 (.ldc 162) 2 9 := ⟨by decide +kernel, rfl⟩
theorem D_X7_drawn_9 : qd cX7_drawn 9 (.ireturn) 1 10 := ⟨by decide +kernel, rfl⟩
theorem D_X7_drawn_10 : qd cX7_drawn 10 (.iload_n 1) 1 11 := ⟨by decide +kernel, rfl⟩
theorem D_X7_drawn_11 : qd cX7_drawn 11 (.i2l) 1 12 := ⟨by decide +kernel, rfl⟩
theorem D_X7_drawn_12 : qd cX7_drawn 12 (.lconst 0) 1 13 := ⟨by decide +kernel, rfl⟩
theorem D_X7_drawn_13 : qd cX7_drawn 13 (.ldc2_w 186) 3 16 := ⟨by decide +kernel, rfl⟩
theorem D_X7_drawn_16 : qd cX7_drawn 16 (.invokestatic 57) 3 19 := ⟨by decide +kernel, rfl⟩
theorem D_X7_drawn_19 : qj cX7_drawn 19 (.ifCond .eq 25) (25) 22 44 := ⟨by decide +kernel, rfl, by decide⟩
theorem D_X7_drawn_22 : qd cX7_drawn 22 (.iload_n 2) 1 23 := ⟨by decide +kernel, rfl⟩
theorem D_X7_drawn_23 : qd cX7_drawn 23 (.i2l) 1 24 := ⟨by decide +kernel, rfl⟩
theorem D_X7_drawn_24 : qd cX7_drawn 24 (.lconst 1) 1 25 := ⟨by decide +kernel, rfl⟩
theorem D_X7_drawn_25 : qd cX7_drawn 25 (.ldc2_w 237) 3 28 := ⟨by decide +kernel, rfl⟩
theorem D_X7_drawn_28 : qd cX7_drawn 28 (.invokestatic 57) 3 31 := ⟨by decide +kernel, rfl⟩
theorem D_X7_drawn_31 : qj cX7_drawn 31 (.ifCond .eq 13) (13) 34 44 := ⟨by decide +kernel, rfl, by decide⟩
theorem D_X7_drawn_34 : qd cX7_drawn 34 (.iload_n 3) 1 35 := ⟨by decide +kernel, rfl⟩
theorem D_X7_drawn_35 : qd cX7_drawn 35 (.i2l) 1 36 := ⟨by decide +kernel, rfl⟩
theorem D_X7_drawn_36 : qd cX7_drawn 36 (.lconst 0) 1 37 := ⟨by decide +kernel, rfl⟩
theorem D_X7_drawn_37 : qd cX7_drawn 37 (.lconst 1) 1 38 := ⟨by decide +kernel, rfl⟩
theorem D_X7_drawn_38 : qd cX7_drawn 38 (.invokestatic 57) 3 41 := ⟨by decide +kernel, rfl⟩
theorem D_X7_drawn_41 : qj cX7_drawn 41 (.ifCond .ne 6) (6) 44 47 := ⟨by decide +kernel, rfl, by decide⟩
theorem D_X7_drawn_44 : qd cX7_drawn 44 (.ldc 67) 2 46 := ⟨by decide +kernel, rfl⟩
theorem D_X7_drawn_46 : qd cX7_drawn 46 (.ireturn) 1 47 := ⟨by decide +kernel, rfl⟩
theorem D_X7_drawn_47 : qd cX7_drawn 47 (.aload_n 0) 1 48 := ⟨by decide +kernel, rfl⟩
theorem D_X7_drawn_48 : qd cX7_drawn 48 (.invokevirtual 188) 3 51 := ⟨by decide +kernel, rfl⟩
theorem D_X7_drawn_51 : qd cX7_drawn 51 (.iload_n 2) 1 52 := ⟨by decide +kernel, rfl⟩
theorem D_X7_drawn_52 : qd cX7_drawn 52 (.i2l) 1 53 := ⟨by decide +kernel, rfl⟩
theorem D_X7_drawn_53 : qd cX7_drawn 53 (.lstore 4) 2 55 := ⟨by decide +kernel, rfl⟩
theorem D_X7_drawn_55 : qd cX7_drawn 55 (.iconst 0) 1 56 := ⟨by decide +kernel, rfl⟩
theorem D_X7_drawn_56 : qd cX7_drawn 56 (.istore 6) 2 58 := ⟨by decide +kernel, rfl⟩
theorem D_X7_drawn_58 : qd cX7_drawn 58 (.iload 6) 2 60 := ⟨by decide +kernel, rfl⟩
theorem D_X7_drawn_60 : qd cX7_drawn 60 (.iload_n 1) 1 61 := ⟨by decide +kernel, rfl⟩
theorem D_X7_drawn_61 : qj cX7_drawn 61 (.if_icmp .ge 85) (85) 64 146 := ⟨by decide +kernel, rfl, by decide⟩
theorem D_X7_drawn_64 : qd cX7_drawn 64 (.lload 4) 2 66 := ⟨by decide +kernel, rfl⟩
theorem D_X7_drawn_66 : qd cX7_drawn 66 (.ldc2_w 239) 3 69 := ⟨by decide +kernel, rfl⟩
theorem D_X7_drawn_69 : qd cX7_drawn 69 (.lmul) 1 70 := ⟨by decide +kernel, rfl⟩
theorem D_X7_drawn_70 : qd cX7_drawn 70 (.ldc2_w 241) 3 73 := ⟨by decide +kernel, rfl⟩
theorem D_X7_drawn_73 : qd cX7_drawn 73 (.lrem) 1 74 := ⟨by decide +kernel, rfl⟩
theorem D_X7_drawn_74 : qd cX7_drawn 74 (.lstore 4) 2 76 := ⟨by decide +kernel, rfl⟩
theorem D_X7_drawn_76 : qd cX7_drawn 76 (.aload_n 0) 1 77 := ⟨by decide +kernel, rfl⟩
theorem D_X7_drawn_77 : qd cX7_drawn 77 (.getfield 19) 3 80 := ⟨by decide +kernel, rfl⟩
theorem D_X7_drawn_80 : qd cX7_drawn 80 (.bipush 11) 2 82 := ⟨by decide +kernel, rfl⟩
theorem D_X7_drawn_82 : qd cX7_drawn 82 (.lload 4) 2 84 := ⟨by decide +kernel, rfl⟩
theorem D_X7_drawn_84 : qd cX7_drawn 84 (.aload_n 0) 1 85 := ⟨by decide +kernel, rfl⟩
theorem D_X7_drawn_85 : qd cX7_drawn 85 (.getfield 19) 3 88 := ⟨by decide +kernel, rfl⟩
theorem D_X7_drawn_88 : qd cX7_drawn 88 (.iconst 3) 1 89 := ⟨by decide +kernel, rfl⟩
theorem D_X7_drawn_89 : qd cX7_drawn 89 (.iaload) 1 90 := ⟨by decide +kernel, rfl⟩
theorem D_X7_drawn_90 : qd cX7_drawn 90 (.i2l) 1 91 := ⟨by decide +kernel, rfl⟩
theorem D_X7_drawn_91 : qd cX7_drawn 91 (.lrem) 1 92 := ⟨by decide +kernel, rfl⟩
theorem D_X7_drawn_92 : qd cX7_drawn 92 (.l2i) 1 93 := ⟨by decide +kernel, rfl⟩
theorem D_X7_drawn_93 : qd cX7_drawn 93 (.iadd) 1 94 := ⟨by decide +kernel, rfl⟩
theorem D_X7_drawn_94 : qd cX7_drawn 94 (.iconst 1) 1 95 := ⟨by decide +kernel, rfl⟩
theorem D_X7_drawn_95 : qd cX7_drawn 95 (.iastore) 1 96 := ⟨by decide +kernel, rfl⟩
theorem D_X7_drawn_96 : qd cX7_drawn 96 (.lload 4) 2 98 := ⟨by decide +kernel, rfl⟩
theorem D_X7_drawn_98 : qd cX7_drawn 98 (.ldc2_w 243) 3 101 := ⟨by decide +kernel, rfl⟩
theorem D_X7_drawn_101 : qd cX7_drawn 101 (.lrem) 1 102 := ⟨by decide +kernel, rfl⟩
theorem D_X7_drawn_102 : qd cX7_drawn 102 (.l2i) 1 103 := ⟨by decide +kernel, rfl⟩
theorem D_X7_drawn_103 : qd cX7_drawn 103 (.istore 7) 2 105 := ⟨by decide +kernel, rfl⟩
theorem D_X7_drawn_105 : qd cX7_drawn 105 (.lload 4) 2 107 := ⟨by decide +kernel, rfl⟩
theorem D_X7_drawn_107 : qd cX7_drawn 107 (.ldc2_w 212) 3 110 := ⟨by decide +kernel, rfl⟩
theorem D_X7_drawn_110 : qd cX7_drawn 110 (.lrem) 1 111 := ⟨by decide +kernel, rfl⟩
theorem D_X7_drawn_111 : qd cX7_drawn 111 (.lconst 0) 1 112 := ⟨by decide +kernel, rfl⟩
theorem D_X7_drawn_112 : qd cX7_drawn 112 (.lcmp) 1 113 := ⟨by decide +kernel, rfl⟩
theorem D_X7_drawn_113 : qj cX7_drawn 113 (.ifCond .ne 23) (23) 116 136 := ⟨by decide +kernel, rfl, by decide⟩
theorem D_X7_drawn_116 : qd cX7_drawn 116 (.aload_n 0) 1 117 := ⟨by decide +kernel, rfl⟩
theorem D_X7_drawn_117 : qd cX7_drawn 117 (.iload 7) 2 119 := ⟨by decide +kernel, rfl⟩
theorem D_X7_drawn_119 : qd cX7_drawn 119 (.invokevirtual 171) 3 122 := ⟨by decide +kernel, rfl⟩
theorem D_X7_drawn_122 : qj cX7_drawn 122 (.ifCond .eq 14) (14) 125 136 := ⟨by decide +kernel, rfl, by decide⟩
theorem D_X7_drawn_125 : qd cX7_drawn 125 (.aload_n 0) 1 126 := ⟨by decide +kernel, rfl⟩
theorem D_X7_drawn_126 : qd cX7_drawn 126 (.getfield 19) 3 129 := ⟨by decide +kernel, rfl⟩
theorem D_X7_drawn_129 : qd cX7_drawn 129 (.bipush 16) 2 131 := ⟨by decide +kernel, rfl⟩
theorem D_X7_drawn_131 : qd cX7_drawn 131 (.iload 7) 2 133 := ⟨by decide +kernel, rfl⟩
theorem D_X7_drawn_133 : qd cX7_drawn 133 (.iadd) 1 134 := ⟨by decide +kernel, rfl⟩
theorem D_X7_drawn_134 : qd cX7_drawn 134 (.iconst 1) 1 135 := ⟨by decide +kernel, rfl⟩
theorem D_X7_drawn_135 : qd cX7_drawn 135 (.iastore) 1 136 := ⟨by decide +kernel, rfl⟩
theorem D_X7_drawn_136 : qd cX7_drawn 136 (.aload_n 0) 1 137 := ⟨by decide +kernel, rfl⟩
theorem D_X7_drawn_137 : qd cX7_drawn 137 (.invokevirtual 168) 3 140 := ⟨by decide +kernel, rfl⟩
theorem D_X7_drawn_140 : qd cX7_drawn 140 (.iinc 6 1) 3 143 := ⟨by decide +kernel, rfl⟩
theorem D_X7_drawn_143 : qj cX7_drawn 143 (.goto (-85)) (-85) 146 58 := ⟨by decide +kernel, rfl, by decide⟩
theorem D_X7_drawn_146 : qd cX7_drawn 146 (.iconst 0) 1 147 := ⟨by decide +kernel, rfl⟩
theorem D_X7_drawn_147 : qd cX7_drawn 147 (.istore 6) 2 149 := ⟨by decide +kernel, rfl⟩
theorem D_X7_drawn_149 : qd cX7_drawn 149 (.iconst 0) 1 150 := ⟨by decide +kernel, rfl⟩
theorem D_X7_drawn_150 : qd cX7_drawn 150 (.istore 7) 2 152 := ⟨by decide +kernel, rfl⟩
theorem D_X7_drawn_152 : qd cX7_drawn 152 (.iload 7) 2 154 := ⟨by decide +kernel, rfl⟩
theorem D_X7_drawn_154 : qd cX7_drawn 154 (.aload_n 0) 1 155 := ⟨by decide +kernel, rfl⟩
theorem D_X7_drawn_155 : qd cX7_drawn 155 (.getfield 19) 3 158 := ⟨by decide +kernel, rfl⟩
theorem D_X7_drawn_158 : qd cX7_drawn 158 (.iconst 3) 1 159 := ⟨by decide +kernel, rfl⟩
theorem D_X7_drawn_159 : qd cX7_drawn 159 (.iaload) 1 160 := ⟨by decide +kernel, rfl⟩
theorem D_X7_drawn_160 : qj cX7_drawn 160 (.if_icmp .ge 20) (20) 163 180 := ⟨by decide +kernel, rfl, by decide⟩
theorem D_X7_drawn_163 : qd cX7_drawn 163 (.iload 6) 2 165 := ⟨by decide +kernel, rfl⟩
theorem D_X7_drawn_165 : qd cX7_drawn 165 (.aload_n 0) 1 166 := ⟨by decide +kernel, rfl⟩
theorem D_X7_drawn_166 : qd cX7_drawn 166 (.iload 7) 2 168 := ⟨by decide +kernel, rfl⟩
theorem D_X7_drawn_168 : qd cX7_drawn 168 (.invokevirtual 183) 3 171 := ⟨by decide +kernel, rfl⟩
theorem D_X7_drawn_171 : qd cX7_drawn 171 (.iadd) 1 172 := ⟨by decide +kernel, rfl⟩
theorem D_X7_drawn_172 : qd cX7_drawn 172 (.istore 6) 2 174 := ⟨by decide +kernel, rfl⟩
theorem D_X7_drawn_174 : qd cX7_drawn 174 (.iinc 7 1) 3 177 := ⟨by decide +kernel, rfl⟩
theorem D_X7_drawn_177 : qj cX7_drawn 177 (.goto (-25)) (-25) 180 152 := ⟨by decide +kernel, rfl, by decide⟩
theorem D_X7_drawn_180 : qd cX7_drawn 180 (.iload_n 3) 1 181 := ⟨by decide +kernel, rfl⟩
theorem D_X7_drawn_181 : qj cX7_drawn 181 (.ifCond .ne 12) (12) 184 193 := ⟨by decide +kernel, rfl, by decide⟩
theorem D_X7_drawn_184 : qd cX7_drawn 184 (.aload_n 0) 1 185 := ⟨by decide +kernel, rfl⟩
theorem D_X7_drawn_185 : qd cX7_drawn 185 (.getfield 19) 3 188 := ⟨by decide +kernel, rfl⟩
theorem D_X7_drawn_188 : qd cX7_drawn 188 (.iconst 5) 1 189 := ⟨by decide +kernel, rfl⟩
theorem D_X7_drawn_189 : qd cX7_drawn 189 (.iaload) 1 190 := ⟨by decide +kernel, rfl⟩
theorem D_X7_drawn_190 : qj cX7_drawn 190 (.goto 5) (5) 193 195 := ⟨by decide +kernel, rfl, by decide⟩
theorem D_X7_drawn_193 : qd cX7_drawn 193 (.iload 6) 2 195 := ⟨by decide +kernel, rfl⟩
theorem D_X7_drawn_195 : qd cX7_drawn 195 (.istore 7) 2 197 := ⟨by decide +kernel, rfl⟩
theorem D_X7_drawn_197 : qd cX7_drawn 197 (.aload_n 0) 1 198 := ⟨by decide +kernel, rfl⟩
theorem D_X7_drawn_198 : qd cX7_drawn 198 (.invokevirtual 191) 3 201 := ⟨by decide +kernel, rfl⟩
theorem D_X7_drawn_201 : qd cX7_drawn 201 (.iload 7) 2 203 := ⟨by decide +kernel, rfl⟩
theorem D_X7_drawn_203 : qd cX7_drawn 203 (.ireturn) 1 204 := ⟨by decide +kernel, rfl⟩
theorem D_X7_dreamerMark_0 : qd cX7_dreamerMark 0 (.aload_n 0) 1 1 := ⟨by decide +kernel, rfl⟩
theorem D_X7_dreamerMark_1 : qd cX7_dreamerMark 1 (.bipush 21) 2 3 := ⟨by decide +kernel, rfl⟩
theorem D_X7_dreamerMark_3 : qd cX7_dreamerMark 3 (.invokevirtual 251) 3 6 := ⟨by decide +kernel, rfl⟩
theorem D_X7_dreamerMark_6 : qd cX7_dreamerMark 6 (.aload_n 0) 1 7 := ⟨by decide +kernel, rfl⟩
theorem D_X7_dreamerMark_7 : qd cX7_dreamerMark 7 (.iload_n 1) 1 8 := ⟨by decide +kernel, rfl⟩
theorem D_X7_dreamerMark_8 : qd cX7_dreamerMark 8 (.bipush 20) 2 10 := ⟨by decide +kernel, rfl⟩
theorem D_X7_dreamerMark_10 : qd cX7_dreamerMark 10 (.invokevirtual 254) 3 13 := ⟨by decide +kernel, rfl⟩
theorem D_X7_dreamerMark_13 : qd cX7_dreamerMark 13 (.aload_n 0) 1 14 := ⟨by decide +kernel, rfl⟩
theorem D_X7_dreamerMark_14 : qd cX7_dreamerMark 14 (.iload_n 1) 1 15 := ⟨by decide +kernel, rfl⟩
theorem D_X7_dreamerMark_15 : qd cX7_dreamerMark 15 (.iconst 0) 1 16 := ⟨by decide +kernel, rfl⟩
theorem D_X7_dreamerMark_16 : qd cX7_dreamerMark 16 (.invokevirtual 146) 3 19 := ⟨by decide +kernel, rfl⟩
theorem D_X7_dreamerMark_19 : qd cX7_dreamerMark 19 (.iadd) 1 20 := ⟨by decide +kernel, rfl⟩
theorem D_X7_dreamerMark_20 : qd cX7_dreamerMark 20 (.ireturn) 1 21 := ⟨by decide +kernel, rfl⟩
theorem D_X7_dreamerSize_0 : qd cX7_dreamerSize 0 (.aload_n 0) 1 1 := ⟨by decide +kernel, rfl⟩
theorem D_X7_dreamerSize_1 : qd cX7_dreamerSize 1 (.bipush 11) 2 3 := ⟨by decide +kernel, rfl⟩
theorem D_X7_dreamerSize_3 : qd cX7_dreamerSize 3 (.invokevirtual 251) 3 6 := ⟨by decide +kernel, rfl⟩
theorem D_X7_dreamerSize_6 : qd cX7_dreamerSize 6 (.aload_n 0) 1 7 := ⟨by decide +kernel, rfl⟩
theorem D_X7_dreamerSize_7 : qd cX7_dreamerSize 7 (.iload_n 1) 1 8 := ⟨by decide +kernel, rfl⟩
theorem D_X7_dreamerSize_8 : qd cX7_dreamerSize 8 (.bipush 10) 2 10 := ⟨by decide +kernel, rfl⟩
theorem D_X7_dreamerSize_10 : qd cX7_dreamerSize 10 (.invokevirtual 254) 3 13 := ⟨by decide +kernel, rfl⟩
theorem D_X7_dreamerSize_13 : qd cX7_dreamerSize 13 (.istore_n 2) 1 14 := ⟨by decide +kernel, rfl⟩
theorem D_X7_dreamerSize_14 : qd cX7_dreamerSize 14 (.iload_n 2) 1 15 := ⟨by decide +kernel, rfl⟩
theorem D_X7_dreamerSize_15 : qd cX7_dreamerSize 15 (.aload_n 0) 1 16 := ⟨by decide +kernel, rfl⟩
theorem D_X7_dreamerSize_16 : qd cX7_dreamerSize 16 (.iload_n 1) 1 17 := ⟨by decide +kernel, rfl⟩
theorem D_X7_dreamerSize_17 : qd cX7_dreamerSize 17 (.invokevirtual 266) 3 20 := ⟨by decide +kernel, rfl⟩
theorem D_X7_dreamerSize_20 : qd cX7_dreamerSize 20 (.iadd) 1 21 := ⟨by decide +kernel, rfl⟩
theorem D_X7_dreamerSize_21 : qd cX7_dreamerSize 21 (.ireturn) 1 22 := ⟨by decide +kernel, rfl⟩
theorem D_X7_dreams_0 : qd cX7_dreams 0 (.aload_n 0) 1 1 := ⟨by decide +kernel, rfl⟩
theorem D_X7_dreams_1 : qd cX7_dreams 1 (.getfield 19) 3 4 := ⟨by decide +kernel, rfl⟩
theorem D_X7_dreams_4 : qd cX7_dreams 4 (.bipush 6) 2 6 := ⟨by decide +kernel, rfl⟩
theorem D_X7_dreams_6 : qd cX7_dreams 6 (.iload_n 1) 1 7 := ⟨by decide +kernel, rfl⟩
theorem D_X7_dreams_7 : qd cX7_dreams 7 (.iadd) 1 8 := ⟨by decide +kernel, rfl⟩
theorem D_X7_dreams_8 : qd cX7_dreams 8 (.iaload) 1 9 := ⟨by decide +kernel, rfl⟩
theorem D_X7_dreams_9 : qd cX7_dreams 9 (.istore_n 2) 1 10 := ⟨by decide +kernel, rfl⟩
theorem D_X7_dreams_10 : qd cX7_dreams 10 (.aload_n 0) 1 11 := ⟨by decide +kernel, rfl⟩
theorem D_X7_dreams_11 : qd cX7_dreams 11 (.iload_n 1) 1 12 := ⟨by decide +kernel, rfl⟩
theorem D_X7_dreams_12 : qd cX7_dreams 12 (.aload_n 0) 1 13 := ⟨by decide +kernel, rfl⟩
theorem D_X7_dreams_13 : qd cX7_dreams 13 (.getfield 19) 3 16 := ⟨by decide +kernel, rfl⟩
theorem D_X7_dreams_16 : qd cX7_dreams 16 (.iconst 5) 1 17 := ⟨by decide +kernel, rfl⟩
theorem D_X7_dreams_17 : qd cX7_dreams 17 (.iaload) 1 18 := ⟨by decide +kernel, rfl⟩
theorem D_X7_dreams_18 : qd cX7_dreams 18 (.invokevirtual 149) 3 21 := ⟨by decide +kernel, rfl⟩
theorem D_X7_dreams_21 : qd cX7_dreams 21 (.istore_n 3) 1 22 := ⟨by decide +kernel, rfl⟩
theorem D_X7_dreams_22 : qd cX7_dreams 22 (.iconst 0) 1 23 := ⟨by decide +kernel, rfl⟩
theorem D_X7_dreams_23 : qd cX7_dreams 23 (.istore 4) 2 25 := ⟨by decide +kernel, rfl⟩
theorem D_X7_dreams_25 : qd cX7_dreams 25 (.iload_n 2) 1 26 := ⟨by decide +kernel, rfl⟩
theorem D_X7_dreams_26 : qd cX7_dreams 26 (.iconst 4) 1 27 := ⟨by decide +kernel, rfl⟩
theorem D_X7_dreams_27 : qj cX7_dreams 27 (.if_icmp .lt 34) (34) 30 61 := ⟨by decide +kernel, rfl, by decide⟩
theorem D_X7_dreams_30 : qd cX7_dreams 30 (.iconst 1) 1 31 := ⟨by decide +kernel, rfl⟩
theorem D_X7_dreams_31 : qd cX7_dreams 31 (.aload_n 0) 1 32 := ⟨by decide +kernel, rfl⟩
theorem D_X7_dreams_32 : qd cX7_dreams 32 (.getfield 19) 3 35 := ⟨by decide +kernel, rfl⟩
theorem D_X7_dreams_35 : qd cX7_dreams 35 (.iconst 4) 1 36 := ⟨by decide +kernel, rfl⟩
theorem D_X7_dreams_36 : qd cX7_dreams 36 (.iaload) 1 37 := ⟨by decide +kernel, rfl⟩
theorem D_X7_dreams_37 : qd cX7_dreams 37 (.aload_n 0) 1 38 := ⟨by decide +kernel, rfl⟩
theorem D_X7_dreams_38 : qd cX7_dreams 38 (.getfield 19) 3 41 := ⟨by decide +kernel, rfl⟩
theorem D_X7_dreams_41 : qd cX7_dreams 41 (.iconst 0) 1 42 := ⟨by decide +kernel, rfl⟩
theorem D_X7_dreams_42 : qd cX7_dreams 42 (.iaload) 1 43 := ⟨by decide +kernel, rfl⟩
theorem D_X7_dreams_43 : qd cX7_dreams 43 (.irem) 1 44 := ⟨by decide +kernel, rfl⟩
theorem D_X7_dreams_44 : qd cX7_dreams 44 (.ishl) 1 45 := ⟨by decide +kernel, rfl⟩
theorem D_X7_dreams_45 : qd cX7_dreams 45 (.iload_n 2) 1 46 := ⟨by decide +kernel, rfl⟩
theorem D_X7_dreams_46 : qd cX7_dreams 46 (.iconst 5) 1 47 := ⟨by decide +kernel, rfl⟩
theorem D_X7_dreams_47 : qj cX7_dreams 47 (.if_icmp .ne 7) (7) 50 54 := ⟨by decide +kernel, rfl, by decide⟩
theorem D_X7_dreams_50 : qd cX7_dreams 50 (.iconst 1) 1 51 := ⟨by decide +kernel, rfl⟩
theorem D_X7_dreams_51 : qj cX7_dreams 51 (.goto 4) (4) 54 55 := ⟨by decide +kernel, rfl, by decide⟩
theorem D_X7_dreams_54 : qd cX7_dreams 54 (.iconst 0) 1 55 := ⟨by decide +kernel, rfl⟩
theorem D_X7_dreams_55 : qd cX7_dreams 55 (.ior) 1 56 := ⟨by decide +kernel, rfl⟩
theorem D_X7_dreams_56 : qd cX7_dreams 56 (.istore 4) 2 58 := ⟨by decide +kernel, rfl⟩
theorem D_X7_dreams_58 : qj cX7_dreams 58 (.goto 78) (78) 61 136 := ⟨by decide +kernel, rfl, by decide⟩
theorem D_X7_dreams_61 : qd cX7_dreams 61 (.iload_n 3) 1 62 := ⟨by decide +kernel, rfl⟩
theorem D_X7_dreams_62 : qj cX7_dreams 62 (.ifCond .lt 74) (74) 65 136 := ⟨by decide +kernel, rfl, by decide⟩
theorem D_X7_dreams_65 : qd cX7_dreams 65 (.iload_n 2) 1 66 := ⟨by decide +kernel, rfl⟩
theorem D_X7_dreams_66 : qd cX7_dreams 66 (.iconst 3) 1 67 := ⟨by decide +kernel, rfl⟩
theorem D_X7_dreams_67 : qj cX7_dreams 67 (.if_icmp .ne 18) (18) 70 85 := ⟨by decide +kernel, rfl, by decide⟩
theorem D_X7_dreams_70 : qd cX7_dreams 70 (.iconst 1) 1 71 := ⟨by decide +kernel, rfl⟩
theorem D_X7_dreams_71 : qd cX7_dreams 71 (.iload_n 3) 1 72 := ⟨by decide +kernel, rfl⟩
theorem D_X7_dreams_72 : qd cX7_dreams 72 (.iconst 1) 1 73 := ⟨by decide +kernel, rfl⟩
theorem D_X7_dreams_73 : qd cX7_dreams 73 (.iadd) 1 74 := ⟨by decide +kernel, rfl⟩
theorem D_X7_dreams_74 : qd cX7_dreams 74 (.aload_n 0) 1 75 := ⟨by decide +kernel, rfl⟩
theorem D_X7_dreams_75 : qd cX7_dreams 75 (.getfield 19) 3 78 := ⟨by decide +kernel, rfl⟩
theorem D_X7_dreams_78 : qd cX7_dreams 78 (.iconst 0) 1 79 := ⟨by decide +kernel, rfl⟩
theorem D_X7_dreams_79 : qd cX7_dreams 79 (.iaload) 1 80 := ⟨by decide +kernel, rfl⟩
theorem D_X7_dreams_80 : qd cX7_dreams 80 (.irem) 1 81 := ⟨by decide +kernel, rfl⟩
theorem D_X7_dreams_81 : qd cX7_dreams 81 (.ishl) 1 82 := ⟨by decide +kernel, rfl⟩
theorem D_X7_dreams_82 : qj cX7_dreams 82 (.goto 6) (6) 85 88 := ⟨by decide +kernel, rfl, by decide⟩
theorem D_X7_dreams_85 : qd cX7_dreams 85 (.iconst 1) 1 86 := ⟨by decide +kernel, rfl⟩
theorem D_X7_dreams_86 : qd cX7_dreams 86 (.iload_n 3) 1 87 := ⟨by decide +kernel, rfl⟩
theorem D_X7_dreams_87 : qd cX7_dreams 87 (.ishl) 1 88 := ⟨by decide +kernel, rfl⟩
theorem D_X7_dreams_88 : qd cX7_dreams 88 (.istore 4) 2 90 := ⟨by decide +kernel, rfl⟩
theorem D_X7_dreams_90 : qd cX7_dreams 90 (.iload_n 2) 1 91 := ⟨by decide +kernel, rfl⟩
theorem D_X7_dreams_91 : qd cX7_dreams 91 (.iconst 2) 1 92 := ⟨by decide +kernel, rfl⟩
theorem D_X7_dreams_92 : qj cX7_dreams 92 (.if_icmp .ne 23) (23) 95 115 := ⟨by decide +kernel, rfl, by decide⟩
theorem D_X7_dreams_95 : qd cX7_dreams 95 (.aload_n 0) 1 96 := ⟨by decide +kernel, rfl⟩
theorem D_X7_dreams_96 : qd cX7_dreams 96 (.iload_n 1) 1 97 := ⟨by decide +kernel, rfl⟩
theorem D_X7_dreams_97 : qd cX7_dreams 97 (.aload_n 0) 1 98 := ⟨by decide +kernel, rfl⟩
theorem D_X7_dreams_98 : qd cX7_dreams 98 (.getfield 19) 3 101 := ⟨by decide +kernel, rfl⟩
theorem D_X7_dreams_101 : qd cX7_dreams 101 (.iconst 5) 1 102 := ⟨by decide +kernel, rfl⟩
theorem D_X7_dreams_102 : qd cX7_dreams 102 (.iaload) 1 103 := ⟨by decide +kernel, rfl⟩
theorem D_X7_dreams_103 : qd cX7_dreams 103 (.iconst 1) 1 104 := ⟨by decide +kernel, rfl⟩
theorem D_X7_dreams_104 : qd cX7_dreams 104 (.iload_n 3) 1 105 := ⟨by decide +kernel, rfl⟩
theorem D_X7_dreams_105 : qd cX7_dreams 105 (.ishl) 1 106 := ⟨by decide +kernel, rfl⟩
theorem D_X7_dreams_106 : qd cX7_dreams 106 (.iconst (-1)) 1 107 := ⟨by decide +kernel, rfl⟩
theorem D_X7_dreams_107 : qd cX7_dreams 107 (.ixor) 1 108 := ⟨by decide +kernel, rfl⟩
theorem D_X7_dreams_108 : qd cX7_dreams 108 (.iand) 1 109 := ⟨by decide +kernel, rfl⟩
theorem D_X7_dreams_109 : qd cX7_dreams 109 (.invokevirtual 149) 3 112 := ⟨by decide +kernel, rfl⟩
theorem D_X7_dreams_112 : qj cX7_dreams 112 (.goto 4) (4) 115 116 := ⟨by decide +kernel, rfl, by decide⟩
theorem D_X7_dreams_115 : qd cX7_dreams 115 (.iconst (-1)) 1 116 := ⟨by decide +kernel, rfl⟩
theorem D_X7_dreams_116 : qd cX7_dreams 116 (.istore 5) 2 118 := ⟨by decide +kernel, rfl⟩
theorem D_X7_dreams_118 : qd cX7_dreams 118 (.iload 4) 2 120 := ⟨by decide +kernel, rfl⟩
theorem D_X7_dreams_120 : qd cX7_dreams 120 (.iload 5) 2 122 := ⟨by decide +kernel, rfl⟩
theorem D_X7_dreams_122 : qj cX7_dreams 122 (.ifCond .ge 7) (7) 125 129 := ⟨by decide +kernel, rfl, by decide⟩
theorem D_X7_dreams_125 : qd cX7_dreams 125 (.iconst 0) 1 126 := ⟨by decide +kernel, rfl⟩
theorem D_X7_dreams_126 : qj cX7_dreams 126 (.goto 7) (7) 129 133 := ⟨by decide +kernel, rfl, by decide⟩
theorem D_X7_dreams_129 : qd cX7_dreams 129 (.iconst 1) 1 130 := ⟨by decide +kernel, rfl⟩
theorem D_X7_dreams_130 : qd cX7_dreams 130 (.iload 5) 2 132 := ⟨by decide +kernel, rfl⟩
theorem D_X7_dreams_132 : qd cX7_dreams 132 (.ishl) 1 133 := ⟨by decide +kernel, rfl⟩
theorem D_X7_dreams_133 : qd cX7_dreams 133 (.ior) 1 134 := ⟨by decide +kernel, rfl⟩
theorem D_X7_dreams_134 : qd cX7_dreams 134 (.istore 4) 2 136 := ⟨by decide +kernel, rfl⟩
theorem D_X7_dreams_136 : qd cX7_dreams 136 (.iconst 0) 1 137 := ⟨by decide +kernel, rfl⟩
theorem D_X7_dreams_137 : qd cX7_dreams 137 (.istore 5) 2 139 := ⟨by decide +kernel, rfl⟩
theorem D_X7_dreams_139 : qd cX7_dreams 139 (.iload 5) 2 141 := ⟨by decide +kernel, rfl⟩
theorem D_X7_dreams_141 : qd cX7_dreams 141 (.aload_n 0) 1 142 := ⟨by decide +kernel, rfl⟩
theorem D_X7_dreams_142 : qd cX7_dreams 142 (.getfield 19) 3 145 := ⟨by decide +kernel, rfl⟩
theorem D_X7_dreams_145 : qd cX7_dreams 145 (.iconst 0) 1 146 := ⟨by decide +kernel, rfl⟩
theorem D_X7_dreams_146 : qd cX7_dreams 146 (.iaload) 1 147 := ⟨by decide +kernel, rfl⟩
theorem D_X7_dreams_147 : qj cX7_dreams 147 (.if_icmp .ge 59) (59) 150 206 := ⟨by decide +kernel, rfl, by decide⟩
theorem D_X7_dreams_150 : qd cX7_dreams 150 (.aload_n 0) 1 151 := ⟨by decide +kernel, rfl⟩
theorem D_X7_dreams_151 : qd cX7_dreams 151 (.getfield 19) 3 154 := ⟨by decide +kernel, rfl⟩
theorem D_X7_dreams_154 : qd cX7_dreams 154 (.bipush 16) 2 156 := ⟨by decide +kernel, rfl⟩
theorem D_X7_dreams_156 : qd cX7_dreams 156 (.iload_n 1) 1 157 := ⟨by decide +kernel, rfl⟩
theorem D_X7_dreams_157 : qd cX7_dreams 157 (.iadd) 1 158 := ⟨by decide +kernel, rfl⟩
theorem D_X7_dreams_158 : qd cX7_dreams 158 (.iaload) 1 159 := ⟨by decide +kernel, rfl⟩
theorem D_X7_dreams_159 : qd cX7_dreams 159 (.iconst 1) 1 160 := ⟨by decide +kernel, rfl⟩
theorem D_X7_dreams_160 : qj cX7_dreams 160 (.if_icmp .ne 46) (46) 163 206 := ⟨by decide +kernel, rfl, by decide⟩
theorem D_X7_dreams_163 : qd cX7_dreams 163 (.iload 4) 2 165 := ⟨by decide +kernel, rfl⟩
theorem D_X7_dreams_165 : qd cX7_dreams 165 (.aload_n 0) 1 166 := ⟨by decide +kernel, rfl⟩
theorem D_X7_dreams_166 : qd cX7_dreams 166 (.getfield 19) 3 169 := ⟨by decide +kernel, rfl⟩
theorem D_X7_dreams_169 : qd cX7_dreams 169 (.iconst 5) 1 170 := ⟨by decide +kernel, rfl⟩
theorem D_X7_dreams_170 : qd cX7_dreams 170 (.iaload) 1 171 := ⟨by decide +kernel, rfl⟩
theorem D_X7_dreams_171 : qd cX7_dreams 171 (.iload 5) 2 173 := ⟨by decide +kernel, rfl⟩
theorem D_X7_dreams_173 : qd cX7_dreams 173 (.invokestatic 142) 3 176 := ⟨by decide +kernel, rfl⟩
theorem D_X7_dreams_176 : qj cX7_dreams 176 (.ifCond .eq 20) (20) 179 196 := ⟨by decide +kernel, rfl, by decide⟩
theorem D_X7_dreams_179 : qd cX7_dreams 179 (.aload_n 0) 1 180 := ⟨by decide +kernel, rfl⟩
theorem D_X7_dreams_180 : qd cX7_dreams 180 (.iload_n 1) 1 181 := ⟨by decide +kernel, rfl⟩
theorem D_X7_dreams_181 : qd cX7_dreams 181 (.iload 5) 2 183 := ⟨by decide +kernel, rfl⟩
theorem D_X7_dreams_183 : qd cX7_dreams 183 (.invokevirtual 146) 3 186 := ⟨by decide +kernel, rfl⟩
theorem D_X7_dreams_186 : qj cX7_dreams 186 (.ifCond .le 10) (10) 189 196 := ⟨by decide +kernel, rfl, by decide⟩
theorem D_X7_dreams_189 : qd cX7_dreams 189 (.iconst 1) 1 190 := ⟨by decide +kernel, rfl⟩
theorem D_X7_dreams_190 : qd cX7_dreams 190 (.iload 5) 2 192 := ⟨by decide +kernel, rfl⟩
theorem D_X7_dreams_192 : qd cX7_dreams 192 (.ishl) 1 193 := ⟨by decide +kernel, rfl⟩
theorem D_X7_dreams_193 : qj cX7_dreams 193 (.goto 4) (4) 196 197 := ⟨by decide +kernel, rfl, by decide⟩
theorem D_X7_dreams_196 : qd cX7_dreams 196 (.iconst 0) 1 197 := ⟨by decide +kernel, rfl⟩
theorem D_X7_dreams_197 : qd cX7_dreams 197 (.ior) 1 198 := ⟨by decide +kernel, rfl⟩
theorem D_X7_dreams_198 : qd cX7_dreams 198 (.istore 4) 2 200 := ⟨by decide +kernel, rfl⟩
theorem D_X7_dreams_200 : qd cX7_dreams 200 (.iinc 5 1) 3 203 := ⟨by decide +kernel, rfl⟩
theorem D_X7_dreams_203 : qj cX7_dreams 203 (.goto (-64)) (-64) 206 139 := ⟨by decide +kernel, rfl, by decide⟩
theorem D_X7_dreams_206 : qd cX7_dreams 206 (.iload 4) 2 208 := ⟨by decide +kernel, rfl⟩
theorem D_X7_dreams_208 : qd cX7_dreams 208 (.ireturn) 1 209 := ⟨by decide +kernel, rfl⟩
theorem D_X7_drop_0 : qd cX7_drop 0 (.iload_n 1) 1 1 := ⟨by decide +kernel, rfl⟩
theorem D_X7_drop_1 : qd cX7_drop 1 (.invokestatic 61) 3 4 := ⟨by decide +kernel, rfl⟩
theorem D_X7_drop_4 : qj cX7_drop 4 (.ifCond .ne 6) (6) 7 10 := ⟨by decide +kernel, rfl, by decide⟩
theorem D_X7_drop_7 : qd cX7_drop 7 (.ldc 67) 2 9 := ⟨by decide +kernel, rfl⟩
theorem D_X7_drop_9 : qd cX7_drop 9 (.ireturn) 1 10 := ⟨by decide +kernel, rfl⟩
theorem D_X7_drop_10 : qd cX7_drop 10 (.aload_n 0) 1 11 := ⟨by decide +kernel, rfl⟩
theorem D_X7_drop_11 : qd cX7_drop 11 (.getfield 13) 3 14 := ⟨by decide +kernel, rfl⟩
theorem D_X7_drop_14 : qd cX7_drop 14 (.iload_n 1) 1 15 := ⟨by decide +kernel, rfl⟩
theorem D_X7_drop_15 : qd cX7_drop 15 (.iaload) 1 16 := ⟨by decide +kernel, rfl⟩
theorem D_X7_drop_16 : qj cX7_drop 16 (.ifCond .ge 9) (9) 19 25 := ⟨by decide +kernel, rfl, by decide⟩
theorem D_X7_drop_19 : qd cX7_drop 19 (.aload_n 0) 1 20 := ⟨by decide +kernel, rfl⟩
theorem D_X7_drop_20 : qd cX7_drop 20 (.iconst 1) 1 21 := ⟨by decide +kernel, rfl⟩
theorem D_X7_drop_21 : qd cX7_drop 21 (.invokevirtual 68) 3 24 := ⟨by decide +kernel, rfl⟩
theorem D_X7_drop_24 : qd cX7_drop 24 (.ireturn) 1 25 := ⟨by decide +kernel, rfl⟩
theorem D_X7_drop_25 : qd cX7_drop 25 (.aload_n 0) 1 26 := ⟨by decide +kernel, rfl⟩
theorem D_X7_drop_26 : qd cX7_drop 26 (.getfield 13) 3 29 := ⟨by decide +kernel, rfl⟩
theorem D_X7_drop_29 : qd cX7_drop 29 (.iload_n 1) 1 30 := ⟨by decide +kernel, rfl⟩
theorem D_X7_drop_30 : qd cX7_drop 30 (.iaload) 1 31 := ⟨by decide +kernel, rfl⟩
theorem D_X7_drop_31 : qd cX7_drop 31 (.istore_n 2) 1 32 := ⟨by decide +kernel, rfl⟩
theorem D_X7_drop_32 : qd cX7_drop 32 (.aload_n 0) 1 33 := ⟨by decide +kernel, rfl⟩
theorem D_X7_drop_33 : qd cX7_drop 33 (.getfield 13) 3 36 := ⟨by decide +kernel, rfl⟩
theorem D_X7_drop_36 : qd cX7_drop 36 (.iload_n 1) 1 37 := ⟨by decide +kernel, rfl⟩
theorem D_X7_drop_37 : qd cX7_drop 37 (.iconst (-1)) 1 38 := ⟨by decide +kernel, rfl⟩
theorem D_X7_drop_38 : qd cX7_drop 38 (.iastore) 1 39 := ⟨by decide +kernel, rfl⟩
theorem D_X7_drop_39 : qd cX7_drop 39 (.aload_n 0) 1 40 := ⟨by decide +kernel, rfl⟩
theorem D_X7_drop_40 : qd cX7_drop 40 (.iload_n 2) 1 41 := ⟨by decide +kernel, rfl⟩
theorem D_X7_drop_41 : qd cX7_drop 41 (.invokevirtual 72) 3 44 := ⟨by decide +kernel, rfl⟩
theorem D_X7_drop_44 : qd cX7_drop 44 (.ireturn) 1 45 := ⟨by decide +kernel, rfl⟩
theorem D_X7_dug_0 : qd cX7_dug 0 (.aload_n 0) 1 1 := ⟨by decide +kernel, rfl⟩
theorem D_X7_dug_1 : qd cX7_dug 1 (.getfield 135) 3 4 := ⟨by decide +kernel, rfl⟩
theorem D_X7_dug_4 : qj cX7_dug 4 (.ifCond .ne 6) (6) 7 10 := ⟨by decide +kernel, rfl, by decide⟩
theorem D_X7_dug_7 : qd cX7_dug 7 (.ldc 162) 2 9 := ⟨by decide +kernel, rfl⟩
theorem D_X7_dug_9 : qd cX7_dug 9 (.ireturn) 1 10 := ⟨by decide +kernel, rfl⟩
theorem D_X7_dug_10 : qd cX7_dug 10 (.aload_n 0) 1 11 := ⟨by decide +kernel, rfl⟩
theorem D_X7_dug_11 : qd cX7_dug 11 (.iload_n 1) 1 12 := ⟨by decide +kernel, rfl⟩
theorem D_X7_dug_12 : qd cX7_dug 12 (.invokevirtual 180) 3 15 := ⟨by decide +kernel, rfl⟩
theorem D_X7_dug_15 : qj cX7_dug 15 (.ifCond .eq 12) (12) 18 27 := ⟨by decide +kernel, rfl, by decide⟩
theorem D_X7_dug_18 : qd cX7_dug 18 (.aload_n 0) 1 19 := ⟨by decide +kernel, rfl⟩
theorem D_X7_dug_19 : qd cX7_dug 19 (.iload_n 1) 1 20 := ⟨by decide +kernel, rfl⟩
theorem D_X7_dug_20 : qd cX7_dug 20 (.iconst 0) 1 21 := ⟨by decide +kernel, rfl⟩
theorem D_X7_dug_21 : qd cX7_dug 21 (.invokevirtual 198) 3 24 := ⟨by decide +kernel, rfl⟩
theorem D_X7_dug_24 : qj cX7_dug 24 (.goto 5) (5) 27 29 := ⟨by decide +kernel, rfl, by decide⟩
theorem D_X7_dug_27 : qd cX7_dug 27 (.ldc 67) 2 29 := ⟨by decide +kernel, rfl⟩
theorem D_X7_dug_29 : qd cX7_dug 29 (.ireturn) 1 30 := ⟨by decide +kernel, rfl⟩
theorem D_X7_dugIn_0 : qd cX7_dugIn 0 (.aload_n 0) 1 1 := ⟨by decide +kernel, rfl⟩
theorem D_X7_dugIn_1 : qd cX7_dugIn 1 (.invokevirtual 188) 3 4 := ⟨by decide +kernel, rfl⟩
theorem D_X7_dugIn_4 : qd cX7_dugIn 4 (.iconst 0) 1 5 := ⟨by decide +kernel, rfl⟩
theorem D_X7_dugIn_5 : qd cX7_dugIn 5 (.istore_n 3) 1 6 := ⟨by decide +kernel, rfl⟩
theorem D_X7_dugIn_6 : qd cX7_dugIn 6 (.iload_n 3) 1 7 := ⟨by decide +kernel, rfl⟩
theorem D_X7_dugIn_7 : qd cX7_dugIn 7 (.bipush 40) 2 9 := ⟨by decide +kernel, rfl⟩
theorem D_X7_dugIn_9 : qj cX7_dugIn 9 (.if_icmp .ge 34) (34) 12 43 := ⟨by decide +kernel, rfl, by decide⟩
theorem D_X7_dugIn_12 : qd cX7_dugIn 12 (.aload_n 0) 1 13 := ⟨by decide +kernel, rfl⟩
theorem D_X7_dugIn_13 : qd cX7_dugIn 13 (.getfield 19) 3 16 := ⟨by decide +kernel, rfl⟩
theorem D_X7_dugIn_16 : qd cX7_dugIn 16 (.iconst 5) 1 17 := ⟨by decide +kernel, rfl⟩
theorem D_X7_dugIn_17 : qd cX7_dugIn 17 (.iaload) 1 18 := ⟨by decide +kernel, rfl⟩
theorem D_X7_dugIn_18 : qd cX7_dugIn 18 (.iload_n 1) 1 19 := ⟨by decide +kernel, rfl⟩
theorem D_X7_dugIn_19 : qd cX7_dugIn 19 (.invokestatic 142) 3 22 := ⟨by decide +kernel, rfl⟩
theorem D_X7_dugIn_22 : qj cX7_dugIn 22 (.ifCond .eq 21) (21) 25 43 := ⟨by decide +kernel, rfl, by decide⟩
theorem D_X7_dugIn_25 : qd cX7_dugIn 25 (.iload_n 2) 1 26 := ⟨by decide +kernel, rfl⟩
theorem D_X7_dugIn_26 : qj cX7_dugIn 26 (.ifCond .eq 7) (7) 29 33 := ⟨by decide +kernel, rfl, by decide⟩
theorem D_X7_dugIn_29 : qd cX7_dugIn 29 (.aload_n 0) 1 30 := ⟨by decide +kernel, rfl⟩
theorem D_X7_dugIn_30 : qd cX7_dugIn 30 (.invokevirtual 194) 3 33 := ⟨by decide +kernel, rfl⟩
theorem D_X7_dugIn_33 : qd cX7_dugIn 33 (.aload_n 0) 1 34 := ⟨by decide +kernel, rfl⟩
theorem D_X7_dugIn_34 : qd cX7_dugIn 34 (.invokevirtual 168) 3 37 := ⟨by decide +kernel, rfl⟩
theorem D_X7_dugIn_37 : qd cX7_dugIn 37 (.iinc 3 1) 3 40 := ⟨by decide +kernel, rfl⟩
theorem D_X7_dugIn_40 : qj cX7_dugIn 40 (.goto (-34)) (-34) 43 6 := ⟨by decide +kernel, rfl, by decide⟩
theorem D_X7_dugIn_43 : qd cX7_dugIn 43 (.aload_n 0) 1 44 := ⟨by decide +kernel, rfl⟩
theorem D_X7_dugIn_44 : qd cX7_dugIn 44 (.getfield 19) 3 47 := ⟨by decide +kernel, rfl⟩
theorem D_X7_dugIn_47 : qd cX7_dugIn 47 (.iconst 5) 1 48 := ⟨by decide +kernel, rfl⟩
theorem D_X7_dugIn_48 : qd cX7_dugIn 48 (.iaload) 1 49 := ⟨by decide +kernel, rfl⟩
theorem D_X7_dugIn_49 : qd cX7_dugIn 49 (.iload_n 1) 1 50 := ⟨by decide +kernel, rfl⟩
theorem D_X7_dugIn_50 : qd cX7_dugIn 50 (.invokestatic 142) 3 53 := ⟨by decide +kernel, rfl⟩
theorem D_X7_dugIn_53 : qj cX7_dugIn 53 (.ifCond .ne 7) (7) 56 60 := ⟨by decide +kernel, rfl, by decide⟩
theorem D_X7_dugIn_56 : qd cX7_dugIn 56 (.iconst 1) 1 57 := ⟨by decide +kernel, rfl⟩
theorem D_X7_dugIn_57 : qj cX7_dugIn 57 (.goto 4) (4) 60 61 := ⟨by decide +kernel, rfl, by decide⟩
theorem D_X7_dugIn_60 : qd cX7_dugIn 60 (.iconst 0) 1 61 := ⟨by decide +kernel, rfl⟩
theorem D_X7_dugIn_61 : qd cX7_dugIn 61 (.istore 4) 2 63 := ⟨by decide +kernel, rfl⟩
theorem D_X7_dugIn_63 : qd cX7_dugIn 63 (.aload_n 0) 1 64 := ⟨by decide +kernel, rfl⟩
theorem D_X7_dugIn_64 : qd cX7_dugIn 64 (.invokevirtual 191) 3 67 := ⟨by decide +kernel, rfl⟩
theorem D_X7_dugIn_67 : qd cX7_dugIn 67 (.iload 4) 2 69 := ⟨by decide +kernel, rfl⟩
theorem D_X7_dugIn_69 : qj cX7_dugIn 69 (.ifCond .eq 7) (7) 72 76 := ⟨by decide +kernel, rfl, by decide⟩
theorem D_X7_dugIn_72 : qd cX7_dugIn 72 (.iload_n 3) 1 73 := ⟨by decide +kernel, rfl⟩
theorem D_X7_dugIn_73 : qj cX7_dugIn 73 (.goto 5) (5) 76 78 := ⟨by decide +kernel, rfl, by decide⟩
theorem D_X7_dugIn_76 : qd cX7_dugIn 76 (.ldc 197) 2 78 := ⟨by decide +kernel, rfl⟩
theorem D_X7_dugIn_78 : qd cX7_dugIn 78 (.ireturn) 1 79 := ⟨by decide +kernel, rfl⟩
theorem D_X7_fault_0 : qd cX7_fault 0 (.aload_n 0) 1 1 := ⟨by decide +kernel, rfl⟩
theorem D_X7_fault_1 : qd cX7_fault 1 (.getfield 131) 3 4 := ⟨by decide +kernel, rfl⟩
theorem D_X7_fault_4 : qd cX7_fault 4 (.ireturn) 1 5 := ⟨by decide +kernel, rfl⟩
theorem D_X7_faults_0 : qd cX7_faults 0 (.aload_n 0) 1 1 := ⟨by decide +kernel, rfl⟩
theorem D_X7_faults_1 : qd cX7_faults 1 (.iload_n 1) 1 2 := ⟨by decide +kernel, rfl⟩
theorem D_X7_faults_2 : qd cX7_faults 2 (.putfield 105) 3 5 := ⟨by decide +kernel, rfl⟩
theorem D_X7_faults_5 : qd cX7_faults 5 (.iconst 0) 1 6 := ⟨by decide +kernel, rfl⟩
theorem D_X7_faults_6 : qd cX7_faults 6 (.ireturn) 1 7 := ⟨by decide +kernel, rfl⟩
theorem D_X7_feed_0 : qd cX7_feed 0 (.iload_n 1) 1 1 := ⟨by decide +kernel, rfl⟩
theorem D_X7_feed_1 : qd cX7_feed 1 (.i2l) 1 2 := ⟨by decide +kernel, rfl⟩
theorem D_X7_feed_2 : qd cX7_feed 2 (.lconst 0) 1 3 := ⟨by decide +kernel, rfl⟩
theorem D_X7_feed_3 : qd cX7_feed 3 (.ldc2_w 79) 3 6 := ⟨by decide +kernel, rfl⟩
theorem D_X7_feed_6 : qd cX7_feed 6 (.invokestatic 57) 3 9 := ⟨by decide +kernel, rfl⟩
theorem D_X7_feed_9 : qj cX7_feed 9 (.ifCond .ne 6) (6) 12 15 := ⟨by decide +kernel, rfl, by decide⟩
theorem D_X7_feed_12 : qd cX7_feed 12 (.ldc 67) 2 14 := ⟨by decide +kernel, rfl⟩
theorem D_X7_feed_14 : qd cX7_feed 14 (.ireturn) 1 15 := ⟨by decide +kernel, rfl⟩
theorem D_X7_feed_15 : qd cX7_feed 15 (.aload_n 0) 1 16 := ⟨by decide +kernel, rfl⟩
theorem D_X7_feed_16 : qd cX7_feed 16 (.getfield 81) 3 19 := ⟨by decide +kernel, rfl⟩
theorem D_X7_feed_19 : qd cX7_feed 19 (.bipush 120) 2 21 := ⟨by decide +kernel, rfl⟩
theorem D_X7_feed_21 : qj cX7_feed 21 (.if_icmp .ne 6) (6) 24 27 := ⟨by decide +kernel, rfl, by decide⟩
theorem D_X7_feed_24 : qd cX7_feed 24 (.ldc 84) 2 26 := ⟨by decide +kernel, rfl⟩
theorem D_X7_feed_26 : qd cX7_feed 26 (.ireturn) 1 27 := ⟨by decide +kernel, rfl⟩
theorem D_X7_feed_27 : qd cX7_feed 27 (.aload_n 0) 1 28 := ⟨by decide +kernel, rfl⟩
theorem D_X7_feed_28 : qd cX7_feed 28 (.getfield 25) 3 31 := ⟨by decide +kernel, rfl⟩
theorem D_X7_feed_31 : qd cX7_feed 31 (.aload_n 0) 1 32 := ⟨by decide +kernel, rfl⟩
theorem D_X7_feed_32 : qd cX7_feed 32 (.getfield 81) 3 35 := ⟨by decide +kernel, rfl⟩
theorem D_X7_feed_35 : qd cX7_feed 35 (.iload_n 1) 1 36 := ⟨by decide +kernel, rfl⟩
theorem D_X7_feed_36 : qd cX7_feed 36 (.iastore) 1 37 := ⟨by decide +kernel, rfl⟩
theorem D_X7_feed_37 : qd cX7_feed 37 (.aload_n 0) 1 38 := ⟨by decide +kernel, rfl⟩
theorem D_X7_feed_38 : qd cX7_feed 38 (.dup) 1 39 := ⟨by decide +kernel, rfl⟩
theorem D_X7_feed_39 : qd cX7_feed 39 (.getfield 81) 3 42 := ⟨by decide +kernel, rfl⟩
theorem D_X7_feed_42 : qd cX7_feed 42 (.iconst 1) 1 43 := ⟨by decide +kernel, rfl⟩
theorem D_X7_feed_43 : qd cX7_feed 43 (.iadd) 1 44 := ⟨by decide +kernel, rfl⟩
theorem D_X7_feed_44 : qd cX7_feed 44 (.putfield 81) 3 47 := ⟨by decide +kernel, rfl⟩
theorem D_X7_feed_47 : qd cX7_feed 47 (.aload_n 0) 1 48 := ⟨by decide +kernel, rfl⟩
theorem D_X7_feed_48 : qd cX7_feed 48 (.getfield 81) 3 51 := ⟨by decide +kernel, rfl⟩
theorem D_X7_feed_51 : qd cX7_feed 51 (.ireturn) 1 52 := ⟨by decide +kernel, rfl⟩
theorem D_X7_feedAll_0 : qd cX7_feedAll 0 (.iconst 0) 1 1 := ⟨by decide +kernel, rfl⟩
theorem D_X7_feedAll_1 : qd cX7_feedAll 1 (.istore_n 1) 1 2 := ⟨by decide +kernel, rfl⟩
theorem D_X7_feedAll_2 : qd cX7_feedAll 2 (.iload_n 1) 1 3 := ⟨by decide +kernel, rfl⟩
theorem D_X7_feedAll_3 : qd cX7_feedAll 3 (.aload_n 0) 1 4 := ⟨by decide +kernel, rfl⟩
theorem D_X7_feedAll_4 : qd cX7_feedAll 4 (.getfield 19) 3 7 := ⟨by decide +kernel, rfl⟩
theorem D_X7_feedAll_7 : qd cX7_feedAll 7 (.iconst 3) 1 8 := ⟨by decide +kernel, rfl⟩
theorem D_X7_feedAll_8 : qd cX7_feedAll 8 (.iaload) 1 9 := ⟨by decide +kernel, rfl⟩
theorem D_X7_feedAll_9 : qj cX7_feedAll 9 (.if_icmp .ge 19) (19) 12 28 := ⟨by decide +kernel, rfl, by decide⟩
theorem D_X7_feedAll_12 : qd cX7_feedAll 12 (.aload_n 0) 1 13 := ⟨by decide +kernel, rfl⟩
theorem D_X7_feedAll_13 : qd cX7_feedAll 13 (.getfield 19) 3 16 := ⟨by decide +kernel, rfl⟩
theorem D_X7_feedAll_16 : qd cX7_feedAll 16 (.bipush 11) 2 18 := ⟨by decide +kernel, rfl⟩
theorem D_X7_feedAll_18 : qd cX7_feedAll 18 (.iload_n 1) 1 19 := ⟨by decide +kernel, rfl⟩
theorem D_X7_feedAll_19 : qd cX7_feedAll 19 (.iadd) 1 20 := ⟨by decide +kernel, rfl⟩
theorem D_X7_feedAll_20 : qd cX7_feedAll 20 (.iconst 1) 1 21 := ⟨by decide +kernel, rfl⟩
theorem D_X7_feedAll_21 : qd cX7_feedAll 21 (.iastore) 1 22 := ⟨by decide +kernel, rfl⟩
theorem D_X7_feedAll_22 : qd cX7_feedAll 22 (.iinc 1 1) 3 25 := ⟨by decide +kernel, rfl⟩
theorem D_X7_feedAll_25 : qj cX7_feedAll 25 (.goto (-23)) (-23) 28 2 := ⟨by decide +kernel, rfl, by decide⟩
theorem D_X7_feedAll_28 : qd cX7_feedAll 28 (.return_) 1 29 := ⟨by decide +kernel, rfl⟩
theorem D_X7_fever_0 : qd cX7_fever 0 (.aload_n 0) 1 1 := ⟨by decide +kernel, rfl⟩
theorem D_X7_fever_1 : qd cX7_fever 1 (.iload_n 1) 1 2 := ⟨by decide +kernel, rfl⟩
theorem D_X7_fever_2 : qd cX7_fever 2 (.invokevirtual 171) 3 5 := ⟨by decide +kernel, rfl⟩
theorem D_X7_fever_5 : qj cX7_fever 5 (.ifCond .ne 6) (6) 8 11 := ⟨by decide +kernel, rfl, by decide⟩
theorem D_X7_fever_8 : qd cX7_fever 8 (.ldc 67) 2 10 := ⟨by decide +kernel, rfl⟩
theorem D_X7_fever_10 : qd cX7_fever 10 (.ireturn) 1 11 := ⟨by decide +kernel, rfl⟩
theorem D_X7_fever_11 : qd cX7_fever 11 (.aload_n 0) 1 12 := ⟨by decide +kernel, rfl⟩
theorem D_X7_fever_12 : qd cX7_fever 12 (.getfield 19) 3 15 := ⟨by decide +kernel, rfl⟩
theorem D_X7_fever_15 : qd cX7_fever 15 (.bipush 16) 2 17 := ⟨by decide +kernel, rfl⟩
theorem D_X7_fever_17 : qd cX7_fever 17 (.iload_n 1) 1 18 := ⟨by decide +kernel, rfl⟩
theorem D_X7_fever_18 : qd cX7_fever 18 (.iadd) 1 19 := ⟨by decide +kernel, rfl⟩
theorem D_X7_fever_19 : qd cX7_fever 19 (.iaload) 1 20 := ⟨by decide +kernel, rfl⟩
theorem D_X7_fever_20 : qd cX7_fever 20 (.iconst 1) 1 21 := ⟨by decide +kernel, rfl⟩
theorem D_X7_fever_21 : qj cX7_fever 21 (.if_icmp .ne 6) (6) 24 27 := ⟨by decide +kernel, rfl, by decide⟩
theorem D_X7_fever_24 : qd cX7_fever 24 (.ldc 162) 2 26 := ⟨by decide +kernel, rfl⟩
theorem D_X7_fever_26 : qd cX7_fever 26 (.ireturn) 1 27 := ⟨by decide +kernel, rfl⟩
theorem D_X7_fever_27 : qd cX7_fever 27 (.aload_n 0) 1 28 := ⟨by decide +kernel, rfl⟩
theorem D_X7_fever_28 : qd cX7_fever 28 (.invokevirtual 165) 3 31 := ⟨by decide +kernel, rfl⟩
theorem D_X7_fever_31 : qd cX7_fever 31 (.aload_n 0) 1 32 := ⟨by decide +kernel, rfl⟩
theorem D_X7_fever_32 : qd cX7_fever 32 (.getfield 19) 3 35 := ⟨by decide +kernel, rfl⟩
theorem D_X7_fever_35 : qd cX7_fever 35 (.bipush 16) 2 37 := ⟨by decide +kernel, rfl⟩
theorem D_X7_fever_37 : qd cX7_fever 37 (.iload_n 1) 1 38 := ⟨by decide +kernel, rfl⟩
theorem D_X7_fever_38 : qd cX7_fever 38 (.iadd) 1 39 := ⟨by decide +kernel, rfl⟩
theorem D_X7_fever_39 : qd cX7_fever 39 (.iconst 1) 1 40 := ⟨by decide +kernel, rfl⟩
theorem D_X7_fever_40 : qd cX7_fever 40 (.iastore) 1 41 := ⟨by decide +kernel, rfl⟩
theorem D_X7_fever_41 : qd cX7_fever 41 (.aload_n 0) 1 42 := ⟨by decide +kernel, rfl⟩
theorem D_X7_fever_42 : qd cX7_fever 42 (.iload_n 1) 1 43 := ⟨by decide +kernel, rfl⟩
theorem D_X7_fever_43 : qd cX7_fever 43 (.invokevirtual 152) 3 46 := ⟨by decide +kernel, rfl⟩
theorem D_X7_fever_46 : qd cX7_fever 46 (.ireturn) 1 47 := ⟨by decide +kernel, rfl⟩
theorem D_X7_find_0 : qd cX7_find 0 (.aload_n 0) 1 1 := ⟨by decide +kernel, rfl⟩
theorem D_X7_find_1 : qd cX7_find 1 (.iload_n 1) 1 2 := ⟨by decide +kernel, rfl⟩
theorem D_X7_find_2 : qd cX7_find 2 (.putfield 50) 3 5 := ⟨by decide +kernel, rfl⟩
theorem D_X7_find_5 : qd cX7_find 5 (.ldc 54) 2 7 := ⟨by decide +kernel, rfl⟩
theorem D_X7_find_7 : qd cX7_find 7 (.iload_n 1) 1 8 := ⟨by decide +kernel, rfl⟩
theorem D_X7_find_8 : qd cX7_find 8 (.isub) 1 9 := ⟨by decide +kernel, rfl⟩
theorem D_X7_find_9 : qd cX7_find 9 (.ireturn) 1 10 := ⟨by decide +kernel, rfl⟩
theorem D_X7_findWay_0 : qd cX7_findWay 0 (.iconst 1) 1 1 := ⟨by decide +kernel, rfl⟩
theorem D_X7_findWay_1 : qd cX7_findWay 1 (.aload_n 0) 1 2 := ⟨by decide +kernel, rfl⟩
theorem D_X7_findWay_2 : qd cX7_findWay 2 (.getfield 19) 3 5 := ⟨by decide +kernel, rfl⟩
theorem D_X7_findWay_5 : qd cX7_findWay 5 (.iconst 3) 1 6 := ⟨by decide +kernel, rfl⟩
theorem D_X7_findWay_6 : qd cX7_findWay 6 (.iaload) 1 7 := ⟨by decide +kernel, rfl⟩
theorem D_X7_findWay_7 : qd cX7_findWay 7 (.ishl) 1 8 := ⟨by decide +kernel, rfl⟩
theorem D_X7_findWay_8 : qd cX7_findWay 8 (.istore_n 3) 1 9 := ⟨by decide +kernel, rfl⟩
theorem D_X7_findWay_9 : qd cX7_findWay 9 (.iconst 1) 1 10 := ⟨by decide +kernel, rfl⟩
theorem D_X7_findWay_10 : qd cX7_findWay 10 (.istore 4) 2 12 := ⟨by decide +kernel, rfl⟩
theorem D_X7_findWay_12 : qd cX7_findWay 12 (.iconst 0) 1 13 := ⟨by decide +kernel, rfl⟩
theorem D_X7_findWay_13 : qd cX7_findWay 13 (.istore 5) 2 15 := ⟨by decide +kernel, rfl⟩
theorem D_X7_findWay_15 : qd cX7_findWay 15 (.iload 5) 2 17 := ⟨by decide +kernel, rfl⟩
theorem D_X7_findWay_17 : qd cX7_findWay 17 (.iload_n 2) 1 18 := ⟨by decide +kernel, rfl⟩
theorem D_X7_findWay_18 : qj cX7_findWay 18 (.if_icmp .ge 15) (15) 21 33 := ⟨by decide +kernel, rfl, by decide⟩
theorem D_X7_findWay_21 : qd cX7_findWay 21 (.iload 4) 2 23 := ⟨by decide +kernel, rfl⟩
theorem D_X7_findWay_23 : qd cX7_findWay 23 (.iload_n 3) 1 24 := ⟨by decide +kernel, rfl⟩
theorem D_X7_findWay_24 : qd cX7_findWay 24 (.imul) 1 25 := ⟨by decide +kernel, rfl⟩
theorem D_X7_findWay_25 : qd cX7_findWay 25 (.istore 4) 2 27 := ⟨by decide +kernel, rfl⟩
theorem D_X7_findWay_27 : qd cX7_findWay 27 (.iinc 5 1) 3 30 := ⟨by decide +kernel, rfl⟩
theorem D_X7_findWay_30 : qj cX7_findWay 30 (.goto (-15)) (-15) 33 15 := ⟨by decide +kernel, rfl, by decide⟩
theorem D_X7_findWay_33 : qd cX7_findWay 33 (.iconst (-1)) 1 34 := ⟨by decide +kernel, rfl⟩
theorem D_X7_findWay_34 : qd cX7_findWay 34 (.istore 5) 2 36 := ⟨by decide +kernel, rfl⟩
theorem D_X7_findWay_36 : qd cX7_findWay 36 (.aload_n 0) 1 37 := ⟨by decide +kernel, rfl⟩
theorem D_X7_findWay_37 : qd cX7_findWay 37 (.invokevirtual 174) 3 40 := ⟨by decide +kernel, rfl⟩
theorem D_X7_findWay_40 : qd cX7_findWay 40 (.istore 6) 2 42 := ⟨by decide +kernel, rfl⟩
theorem D_X7_findWay_42 : qd cX7_findWay 42 (.iconst 0) 1 43 := ⟨by decide +kernel, rfl⟩
theorem D_X7_findWay_43 : qd cX7_findWay 43 (.istore 7) 2 45 := ⟨by decide +kernel, rfl⟩
theorem D_X7_findWay_45 : qd cX7_findWay 45 (.iload 7) 2 47 := ⟨by decide +kernel, rfl⟩
theorem D_X7_findWay_47 : qd cX7_findWay 47 (.iload 4) 2 49 := ⟨by decide +kernel, rfl⟩
theorem D_X7_findWay_49 : qj cX7_findWay 49 (.if_icmp .ge 119) (119) 52 168 := ⟨by decide +kernel, rfl, by decide⟩
theorem D_X7_findWay_52 : qd cX7_findWay 52 (.iload 7) 2 54 := ⟨by decide +kernel, rfl⟩
theorem D_X7_findWay_54 : qd cX7_findWay 54 (.istore 8) 2 56 := ⟨by decide +kernel, rfl⟩
theorem D_X7_findWay_56 : qd cX7_findWay 56 (.iconst 0) 1 57 := ⟨by decide +kernel, rfl⟩
theorem D_X7_findWay_57 : qd cX7_findWay 57 (.istore 9) 2 59 := ⟨by decide +kernel, rfl⟩
theorem D_X7_findWay_59 : qd cX7_findWay 59 (.iload_n 2) 1 60 := ⟨by decide +kernel, rfl⟩
theorem D_X7_findWay_60 : qd cX7_findWay 60 (.iconst 1) 1 61 := ⟨by decide +kernel, rfl⟩
theorem D_X7_findWay_61 : qd cX7_findWay 61 (.isub) 1 62 := ⟨by decide +kernel, rfl⟩
theorem D_X7_findWay_62 : qd cX7_findWay 62 (.istore 10) 2 64 := ⟨by decide +kernel, rfl⟩
theorem D_X7_findWay_64 : qd cX7_findWay 64 (.iload 10) 2 66 := ⟨by decide +kernel, rfl⟩
theorem D_X7_findWay_66 : qj cX7_findWay 66 (.ifCond .lt 41) (41) 69 107 := ⟨by decide +kernel, rfl, by decide⟩
theorem D_X7_findWay_69 : qd cX7_findWay 69 (.aload_n 0) 1 70 := ⟨by decide +kernel, rfl⟩
theorem D_X7_findWay_70 : qd cX7_findWay 70 (.getfield 37) 3 73 := ⟨by decide +kernel, rfl⟩
theorem D_X7_findWay_73 : qd cX7_findWay 73 (.iload 10) 2 75 := ⟨by decide +kernel, rfl⟩
theorem D_X7_findWay_75 : qd cX7_findWay 75 (.iload 8) 2 77 := ⟨by decide +kernel, rfl⟩
theorem D_X7_findWay_77 : qd cX7_findWay 77 (.iload_n 3) 1 78 := ⟨by decide +kernel, rfl⟩
theorem D_X7_findWay_78 : qd cX7_findWay 78 (.irem) 1 79 := ⟨by decide +kernel, rfl⟩
theorem D_X7_findWay_79 : qd cX7_findWay 79 (.iastore) 1 80 := ⟨by decide +kernel, rfl⟩
theorem D_X7_findWay_80 : qd cX7_findWay 80 (.iload 9) 2 82 := ⟨by decide +kernel, rfl⟩
theorem D_X7_findWay_82 : qd cX7_findWay 82 (.aload_n 0) 1 83 := ⟨by decide +kernel, rfl⟩
theorem D_X7_findWay_83 : qd cX7_findWay 83 (.getfield 37) 3 86 := ⟨by decide +kernel, rfl⟩
theorem D_X7_findWay_86 : qd cX7_findWay 86 (.iload 10) 2 88 := ⟨by decide +kernel, rfl⟩
theorem D_X7_findWay_88 : qd cX7_findWay 88 (.iaload) 1 89 := ⟨by decide +kernel, rfl⟩
theorem D_X7_findWay_89 : qd cX7_findWay 89 (.invokestatic 177) 3 92 := ⟨by decide +kernel, rfl⟩
theorem D_X7_findWay_92 : qd cX7_findWay 92 (.iadd) 1 93 := ⟨by decide +kernel, rfl⟩
theorem D_X7_findWay_93 : qd cX7_findWay 93 (.istore 9) 2 95 := ⟨by decide +kernel, rfl⟩
theorem D_X7_findWay_95 : qd cX7_findWay 95 (.iload 8) 2 97 := ⟨by decide +kernel, rfl⟩
theorem D_X7_findWay_97 : qd cX7_findWay 97 (.iload_n 3) 1 98 := ⟨by decide +kernel, rfl⟩
theorem D_X7_findWay_98 : qd cX7_findWay 98 (.idiv) 1 99 := ⟨by decide +kernel, rfl⟩
theorem D_X7_findWay_99 : qd cX7_findWay 99 (.istore 8) 2 101 := ⟨by decide +kernel, rfl⟩
theorem D_X7_findWay_101 : qd cX7_findWay 101 (.iinc 10 (-1)) 3 104 := ⟨by decide +kernel, rfl⟩
theorem D_X7_findWay_104 : qj cX7_findWay 104 (.goto (-40)) (-40) 107 64 := ⟨by decide +kernel, rfl, by decide⟩
theorem D_X7_findWay_107 : qd cX7_findWay 107 (.aload_n 0) 1 108 := ⟨by decide +kernel, rfl⟩
theorem D_X7_findWay_108 : qd cX7_findWay 108 (.getfield 37) 3 111 := ⟨by decide +kernel, rfl⟩
theorem D_X7_findWay_111 : qd cX7_findWay 111 (.iconst 0) 1 112 := ⟨by decide +kernel, rfl⟩
theorem D_X7_findWay_112 : qd cX7_findWay 112 (.iaload) 1 113 := ⟨by decide +kernel, rfl⟩
theorem D_X7_findWay_113 : qd cX7_findWay 113 (.iload 6) 2 115 := ⟨by decide +kernel, rfl⟩
theorem D_X7_findWay_115 : qd cX7_findWay 115 (.iand) 1 116 := ⟨by decide +kernel, rfl⟩
theorem D_X7_findWay_116 : qj cX7_findWay 116 (.ifCond .ne 19) (19) 119 135 := ⟨by decide +kernel, rfl, by decide⟩
theorem D_X7_findWay_119 : qd cX7_findWay 119 (.iload 5) 2 121 := ⟨by decide +kernel, rfl⟩
theorem D_X7_findWay_121 : qj cX7_findWay 121 (.ifCond .lt 10) (10) 124 131 := ⟨by decide +kernel, rfl, by decide⟩
theorem D_X7_findWay_124 : qd cX7_findWay 124 (.iload 9) 2 126 := ⟨by decide +kernel, rfl⟩
theorem D_X7_findWay_126 : qd cX7_findWay 126 (.iload 5) 2 128 := ⟨by decide +kernel, rfl⟩
theorem D_X7_findWay_128 : qj cX7_findWay 128 (.if_icmp .ge 7) (7) 131 135 := ⟨by decide +kernel, rfl, by decide⟩
theorem D_X7_findWay_131 : qd cX7_findWay 131 (.iconst 1) 1 132 := ⟨by decide +kernel, rfl⟩
theorem D_X7_findWay_132 : qj cX7_findWay 132 (.goto 4) (4) 135 136 := ⟨by decide +kernel, rfl, by decide⟩
theorem D_X7_findWay_135 : qd cX7_findWay 135 (.iconst 0) 1 136 := ⟨by decide +kernel, rfl⟩
theorem D_X7_findWay_136 : qd cX7_findWay 136 (.istore 10) 2 138 := ⟨by decide +kernel, rfl⟩
theorem D_X7_findWay_138 : qd cX7_findWay 138 (.iload 10) 2 140 := ⟨by decide +kernel, rfl⟩
theorem D_X7_findWay_140 : qj cX7_findWay 140 (.ifCond .eq 22) (22) 143 162 := ⟨by decide +kernel, rfl, by decide⟩
theorem D_X7_findWay_143 : qd cX7_findWay 143 (.aload_n 0) 1 144 := ⟨by decide +kernel, rfl⟩
theorem D_X7_findWay_144 : qd cX7_findWay 144 (.iload_n 1) 1 145 := ⟨by decide +kernel, rfl⟩
theorem D_X7_findWay_145 : qd cX7_findWay 145 (.iload_n 2) 1 146 := ⟨by decide +kernel, rfl⟩
theorem D_X7_findWay_146 : qd cX7_findWay 146 (.invokevirtual 206) 3 149 := ⟨by decide +kernel, rfl⟩
theorem D_X7_findWay_149 : qj cX7_findWay 149 (.ifCond .eq 13) (13) 152 162 := ⟨by decide +kernel, rfl, by decide⟩
theorem D_X7_findWay_152 : qd cX7_findWay 152 (.iload 9) 2 154 := ⟨by decide +kernel, rfl⟩
theorem D_X7_findWay_154 : qd cX7_findWay 154 (.istore 5) 2 156 := ⟨by decide +kernel, rfl⟩
theorem D_X7_findWay_156 : qd cX7_findWay 156 (.aload_n 0) 1 157 := ⟨by decide +kernel, rfl⟩
theorem D_X7_findWay_157 : qd cX7_findWay 157 (.iload 7) 2 159 := ⟨by decide +kernel, rfl⟩
theorem D_X7_findWay_159 : qd cX7_findWay 159 (.putfield 209) 3 162 := ⟨by decide +kernel, rfl⟩
theorem D_X7_findWay_162 : qd cX7_findWay 162 (.iinc 7 1) 3 165 := ⟨by decide +kernel, rfl⟩
theorem D_X7_findWay_165 : qj cX7_findWay 165 (.goto (-120)) (-120) 168 45 := ⟨by decide +kernel, rfl, by decide⟩
theorem D_X7_findWay_168 : qd cX7_findWay 168 (.iload 5) 2 170 := ⟨by decide +kernel, rfl⟩
theorem D_X7_findWay_170 : qd cX7_findWay 170 (.ireturn) 1 171 := ⟨by decide +kernel, rfl⟩
theorem D_X7_firstDug_0 : qd cX7_firstDug 0 (.aload_n 0) 1 1 := ⟨by decide +kernel, rfl⟩
theorem D_X7_firstDug_1 : qd cX7_firstDug 1 (.getfield 135) 3 4 := ⟨by decide +kernel, rfl⟩
theorem D_X7_firstDug_4 : qj cX7_firstDug 4 (.ifCond .ne 6) (6) 7 10 := ⟨by decide +kernel, rfl, by decide⟩
theorem D_X7_firstDug_7 : qd cX7_firstDug 7 (.ldc 162) 2 9 := ⟨by decide +kernel, rfl⟩
theorem D_X7_firstDug_9 : qd cX7_firstDug 9 (.ireturn) 1 10 := ⟨by decide +kernel, rfl⟩
theorem D_X7_firstDug_10 : qd cX7_firstDug 10 (.ldc 197) 2 12 := ⟨by decide +kernel, rfl⟩
theorem D_X7_firstDug_12 : qd cX7_firstDug 12 (.istore_n 1) 1 13 := ⟨by decide +kernel, rfl⟩
theorem D_X7_firstDug_13 : qd cX7_firstDug 13 (.sipush 999) 3 16 := ⟨by decide +kernel, rfl⟩
theorem D_X7_firstDug_16 : qd cX7_firstDug 16 (.istore_n 2) 1 17 := ⟨by decide +kernel, rfl⟩
theorem D_X7_firstDug_17 : qd cX7_firstDug 17 (.iconst 0) 1 18 := ⟨by decide +kernel, rfl⟩
theorem D_X7_firstDug_18 : qd cX7_firstDug 18 (.istore_n 3) 1 19 := ⟨by decide +kernel, rfl⟩
theorem D_X7_firstDug_19 : qd cX7_firstDug 19 (.iload_n 3) 1 20 := ⟨by decide +kernel, rfl⟩
theorem D_X7_firstDug_20 : qd cX7_firstDug 20 (.aload_n 0) 1 21 := ⟨by decide +kernel, rfl⟩
theorem D_X7_firstDug_21 : qd cX7_firstDug 21 (.getfield 19) 3 24 := ⟨by decide +kernel, rfl⟩
theorem D_X7_firstDug_24 : qd cX7_firstDug 24 (.iconst 0) 1 25 := ⟨by decide +kernel, rfl⟩
theorem D_X7_firstDug_25 : qd cX7_firstDug 25 (.iaload) 1 26 := ⟨by decide +kernel, rfl⟩
theorem D_X7_firstDug_26 : qj cX7_firstDug 26 (.if_icmp .ge 33) (33) 29 59 := ⟨by decide +kernel, rfl, by decide⟩
theorem D_X7_firstDug_29 : qd cX7_firstDug 29 (.aload_n 0) 1 30 := ⟨by decide +kernel, rfl⟩
theorem D_X7_firstDug_30 : qd cX7_firstDug 30 (.iload_n 3) 1 31 := ⟨by decide +kernel, rfl⟩
theorem D_X7_firstDug_31 : qd cX7_firstDug 31 (.iconst 0) 1 32 := ⟨by decide +kernel, rfl⟩
theorem D_X7_firstDug_32 : qd cX7_firstDug 32 (.invokevirtual 198) 3 35 := ⟨by decide +kernel, rfl⟩
theorem D_X7_firstDug_35 : qd cX7_firstDug 35 (.istore 4) 2 37 := ⟨by decide +kernel, rfl⟩
theorem D_X7_firstDug_37 : qd cX7_firstDug 37 (.iload 4) 2 39 := ⟨by decide +kernel, rfl⟩
theorem D_X7_firstDug_39 : qj cX7_firstDug 39 (.ifCond .le 14) (14) 42 53 := ⟨by decide +kernel, rfl, by decide⟩
theorem D_X7_firstDug_42 : qd cX7_firstDug 42 (.iload 4) 2 44 := ⟨by decide +kernel, rfl⟩
theorem D_X7_firstDug_44 : qd cX7_firstDug 44 (.iload_n 2) 1 45 := ⟨by decide +kernel, rfl⟩
theorem D_X7_firstDug_45 : qj cX7_firstDug 45 (.if_icmp .ge 8) (8) 48 53 := ⟨by decide +kernel, rfl, by decide⟩
theorem D_X7_firstDug_48 : qd cX7_firstDug 48 (.iload_n 3) 1 49 := ⟨by decide +kernel, rfl⟩
theorem D_X7_firstDug_49 : qd cX7_firstDug 49 (.istore_n 1) 1 50 := ⟨by decide +kernel, rfl⟩
theorem D_X7_firstDug_50 : qd cX7_firstDug 50 (.iload 4) 2 52 := ⟨by decide +kernel, rfl⟩
theorem D_X7_firstDug_52 : qd cX7_firstDug 52 (.istore_n 2) 1 53 := ⟨by decide +kernel, rfl⟩
theorem D_X7_firstDug_53 : qd cX7_firstDug 53 (.iinc 3 1) 3 56 := ⟨by decide +kernel, rfl⟩
theorem D_X7_firstDug_56 : qj cX7_firstDug 56 (.goto (-37)) (-37) 59 19 := ⟨by decide +kernel, rfl, by decide⟩
theorem D_X7_firstDug_59 : qd cX7_firstDug 59 (.iload_n 1) 1 60 := ⟨by decide +kernel, rfl⟩
theorem D_X7_firstDug_60 : qd cX7_firstDug 60 (.ireturn) 1 61 := ⟨by decide +kernel, rfl⟩
theorem D_X7_forgets_0 : qd cX7_forgets 0 (.aload_n 0) 1 1 := ⟨by decide +kernel, rfl⟩
theorem D_X7_forgets_1 : qd cX7_forgets 1 (.iload_n 1) 1 2 := ⟨by decide +kernel, rfl⟩
theorem D_X7_forgets_2 : qd cX7_forgets 2 (.invokevirtual 171) 3 5 := ⟨by decide +kernel, rfl⟩
theorem D_X7_forgets_5 : qj cX7_forgets 5 (.ifCond .eq 11) (11) 8 16 := ⟨by decide +kernel, rfl, by decide⟩
theorem D_X7_forgets_8 : qd cX7_forgets 8 (.aload_n 0) 1 9 := ⟨by decide +kernel, rfl⟩
theorem D_X7_forgets_9 : qd cX7_forgets 9 (.iload_n 2) 1 10 := ⟨by decide +kernel, rfl⟩
theorem D_X7_forgets_10 : qd cX7_forgets 10 (.invokevirtual 180) 3 13 := ⟨by decide +kernel, rfl⟩
theorem D_X7_forgets_13 : qj cX7_forgets 13 (.ifCond .ne 6) (6) 16 19 := ⟨by decide +kernel, rfl, by decide⟩
theorem D_X7_forgets_16 : qd cX7_forgets 16 (.ldc 67) 2 18 := ⟨by decide +kernel, rfl⟩
theorem D_X7_forgets_18 : qd cX7_forgets 18 (.ireturn) 1 19 := ⟨by decide +kernel, rfl⟩
theorem D_X7_forgets_19 : qd cX7_forgets 19 (.aload_n 0) 1 20 := ⟨by decide +kernel, rfl⟩
theorem D_X7_forgets_20 : qd cX7_forgets 20 (.iload_n 1) 1 21 := ⟨by decide +kernel, rfl⟩
theorem D_X7_forgets_21 : qd cX7_forgets 21 (.iload_n 2) 1 22 := ⟨by decide +kernel, rfl⟩
theorem D_X7_forgets_22 : qd cX7_forgets 22 (.invokevirtual 146) 3 25 := ⟨by decide +kernel, rfl⟩
theorem D_X7_forgets_25 : qd cX7_forgets 25 (.istore_n 3) 1 26 := ⟨by decide +kernel, rfl⟩
theorem D_X7_forgets_26 : qd cX7_forgets 26 (.iconst 0) 1 27 := ⟨by decide +kernel, rfl⟩
theorem D_X7_forgets_27 : qd cX7_forgets 27 (.istore 4) 2 29 := ⟨by decide +kernel, rfl⟩
theorem D_X7_forgets_29 : qd cX7_forgets 29 (.iload_n 3) 1 30 := ⟨by decide +kernel, rfl⟩
theorem D_X7_forgets_30 : qd cX7_forgets 30 (.aload_n 0) 1 31 := ⟨by decide +kernel, rfl⟩
theorem D_X7_forgets_31 : qd cX7_forgets 31 (.getfield 19) 3 34 := ⟨by decide +kernel, rfl⟩
theorem D_X7_forgets_34 : qd cX7_forgets 34 (.iconst 1) 1 35 := ⟨by decide +kernel, rfl⟩
theorem D_X7_forgets_35 : qd cX7_forgets 35 (.iaload) 1 36 := ⟨by decide +kernel, rfl⟩
theorem D_X7_forgets_36 : qj cX7_forgets 36 (.if_icmp .lt 22) (22) 39 58 := ⟨by decide +kernel, rfl, by decide⟩
theorem D_X7_forgets_39 : qd cX7_forgets 39 (.iload 4) 2 41 := ⟨by decide +kernel, rfl⟩
theorem D_X7_forgets_41 : qd cX7_forgets 41 (.bipush 40) 2 43 := ⟨by decide +kernel, rfl⟩
theorem D_X7_forgets_43 : qj cX7_forgets 43 (.if_icmp .ge 15) (15) 46 58 := ⟨by decide +kernel, rfl, by decide⟩
theorem D_X7_forgets_46 : qd cX7_forgets 46 (.aload_n 0) 1 47 := ⟨by decide +kernel, rfl⟩
theorem D_X7_forgets_47 : qd cX7_forgets 47 (.iload_n 3) 1 48 := ⟨by decide +kernel, rfl⟩
theorem D_X7_forgets_48 : qd cX7_forgets 48 (.invokevirtual 159) 3 51 := ⟨by decide +kernel, rfl⟩
theorem D_X7_forgets_51 : qd cX7_forgets 51 (.istore_n 3) 1 52 := ⟨by decide +kernel, rfl⟩
theorem D_X7_forgets_52 : qd cX7_forgets 52 (.iinc 4 1) 3 55 := ⟨by decide +kernel, rfl⟩
theorem D_X7_forgets_55 : qj cX7_forgets 55 (.goto (-26)) (-26) 58 29 := ⟨by decide +kernel, rfl, by decide⟩
theorem D_X7_forgets_58 : qd cX7_forgets 58 (.iload_n 3) 1 59 := ⟨by decide +kernel, rfl⟩
theorem D_X7_forgets_59 : qd cX7_forgets 59 (.aload_n 0) 1 60 := ⟨by decide +kernel, rfl⟩
theorem D_X7_forgets_60 : qd cX7_forgets 60 (.getfield 19) 3 63 := ⟨by decide +kernel, rfl⟩
theorem D_X7_forgets_63 : qd cX7_forgets 63 (.iconst 1) 1 64 := ⟨by decide +kernel, rfl⟩
theorem D_X7_forgets_64 : qd cX7_forgets 64 (.iaload) 1 65 := ⟨by decide +kernel, rfl⟩
theorem D_X7_forgets_65 : qj cX7_forgets 65 (.if_icmp .ge 8) (8) 68 73 := ⟨by decide +kernel, rfl, by decide⟩
theorem D_X7_forgets_68 : qd cX7_forgets 68 (.iload 4) 2 70 := ⟨by decide +kernel, rfl⟩
theorem D_X7_forgets_70 : qj cX7_forgets 70 (.goto 5) (5) 73 75 := ⟨by decide +kernel, rfl, by decide⟩
theorem D_X7_forgets_73 : qd cX7_forgets 73 (.ldc 197) 2 75 := ⟨by decide +kernel, rfl⟩
theorem D_X7_forgets_75 : qd cX7_forgets 75 (.ireturn) 1 76 := ⟨by decide +kernel, rfl⟩
theorem D_X7_giveSuppers_0 : qd cX7_giveSuppers 0 (.iconst 0) 1 1 := ⟨by decide +kernel, rfl⟩
theorem D_X7_giveSuppers_1 : qd cX7_giveSuppers 1 (.istore_n 2) 1 2 := ⟨by decide +kernel, rfl⟩
theorem D_X7_giveSuppers_2 : qd cX7_giveSuppers 2 (.iload_n 2) 1 3 := ⟨by decide +kernel, rfl⟩
theorem D_X7_giveSuppers_3 : qd cX7_giveSuppers 3 (.aload_n 0) 1 4 := ⟨by decide +kernel, rfl⟩
theorem D_X7_giveSuppers_4 : qd cX7_giveSuppers 4 (.getfield 19) 3 7 := ⟨by decide +kernel, rfl⟩
theorem D_X7_giveSuppers_7 : qd cX7_giveSuppers 7 (.iconst 3) 1 8 := ⟨by decide +kernel, rfl⟩
theorem D_X7_giveSuppers_8 : qd cX7_giveSuppers 8 (.iaload) 1 9 := ⟨by decide +kernel, rfl⟩
theorem D_X7_giveSuppers_9 : qj cX7_giveSuppers 9 (.if_icmp .ge 26) (26) 12 35 := ⟨by decide +kernel, rfl, by decide⟩
theorem D_X7_giveSuppers_12 : qd cX7_giveSuppers 12 (.aload_n 0) 1 13 := ⟨by decide +kernel, rfl⟩
theorem D_X7_giveSuppers_13 : qd cX7_giveSuppers 13 (.getfield 19) 3 16 := ⟨by decide +kernel, rfl⟩
theorem D_X7_giveSuppers_16 : qd cX7_giveSuppers 16 (.bipush 11) 2 18 := ⟨by decide +kernel, rfl⟩
theorem D_X7_giveSuppers_18 : qd cX7_giveSuppers 18 (.iload_n 2) 1 19 := ⟨by decide +kernel, rfl⟩
theorem D_X7_giveSuppers_19 : qd cX7_giveSuppers 19 (.iadd) 1 20 := ⟨by decide +kernel, rfl⟩
theorem D_X7_giveSuppers_20 : qd cX7_giveSuppers 20 (.dup2) 1 21 := ⟨by decide +kernel, rfl⟩
theorem D_X7_giveSuppers_21 : qd cX7_giveSuppers 21 (.iaload) 1 22 := ⟨by decide +kernel, rfl⟩
theorem D_X7_giveSuppers_22 : qd cX7_giveSuppers 22 (.iload_n 1) 1 23 := ⟨by decide +kernel, rfl⟩
theorem D_X7_giveSuppers_23 : qd cX7_giveSuppers 23 (.iload_n 2) 1 24 := ⟨by decide +kernel, rfl⟩
theorem D_X7_giveSuppers_24 : qd cX7_giveSuppers 24 (.ishr) 1 25 := ⟨by decide +kernel, rfl⟩
theorem D_X7_giveSuppers_25 : qd cX7_giveSuppers 25 (.iconst 1) 1 26 := ⟨by decide +kernel, rfl⟩
theorem D_X7_giveSuppers_26 : qd cX7_giveSuppers 26 (.iand) 1 27 := ⟨by decide +kernel, rfl⟩
theorem D_X7_giveSuppers_27 : qd cX7_giveSuppers 27 (.ior) 1 28 := ⟨by decide +kernel, rfl⟩
theorem D_X7_giveSuppers_28 : qd cX7_giveSuppers 28 (.iastore) 1 29 := ⟨by decide +kernel, rfl⟩
theorem D_X7_giveSuppers_29 : qd cX7_giveSuppers 29 (.iinc 2 1) 3 32 := ⟨by decide +kernel, rfl⟩
theorem D_X7_giveSuppers_32 : qj cX7_giveSuppers 32 (.goto (-30)) (-30) 35 2 := ⟨by decide +kernel, rfl, by decide⟩
theorem D_X7_giveSuppers_35 : qd cX7_giveSuppers 35 (.return_) 1 36 := ⟨by decide +kernel, rfl⟩
theorem D_X7_grave_0 : qd cX7_grave 0 (.aload_n 0) 1 1 := ⟨by decide +kernel, rfl⟩
theorem D_X7_grave_1 : qd cX7_grave 1 (.getfield 135) 3 4 := ⟨by decide +kernel, rfl⟩
theorem D_X7_grave_4 : qj cX7_grave 4 (.ifCond .ne 6) (6) 7 10 := ⟨by decide +kernel, rfl, by decide⟩
theorem D_X7_grave_7 : qd cX7_grave 7 (.ldc 162) 2 9 := ⟨by decide +kernel, rfl⟩
theorem D_X7_grave_9 : qd cX7_grave 9 (.ireturn) 1 10 := ⟨by decide +kernel, rfl⟩
theorem D_X7_grave_10 : qd cX7_grave 10 (.aload_n 0) 1 11 := ⟨by decide +kernel, rfl⟩
theorem D_X7_grave_11 : qd cX7_grave 11 (.iload_n 1) 1 12 := ⟨by decide +kernel, rfl⟩
theorem D_X7_grave_12 : qd cX7_grave 12 (.invokevirtual 180) 3 15 := ⟨by decide +kernel, rfl⟩
theorem D_X7_grave_15 : qj cX7_grave 15 (.ifCond .eq 13) (13) 18 28 := ⟨by decide +kernel, rfl, by decide⟩
theorem D_X7_grave_18 : qd cX7_grave 18 (.iload_n 2) 1 19 := ⟨by decide +kernel, rfl⟩
theorem D_X7_grave_19 : qd cX7_grave 19 (.i2l) 1 20 := ⟨by decide +kernel, rfl⟩
theorem D_X7_grave_20 : qd cX7_grave 20 (.lconst 0) 1 21 := ⟨by decide +kernel, rfl⟩
theorem D_X7_grave_21 : qd cX7_grave 21 (.lconst 1) 1 22 := ⟨by decide +kernel, rfl⟩
theorem D_X7_grave_22 : qd cX7_grave 22 (.invokestatic 57) 3 25 := ⟨by decide +kernel, rfl⟩
theorem D_X7_grave_25 : qj cX7_grave 25 (.ifCond .ne 6) (6) 28 31 := ⟨by decide +kernel, rfl, by decide⟩
theorem D_X7_grave_28 : qd cX7_grave 28 (.ldc 67) 2 30 := ⟨by decide +kernel, rfl⟩
theorem D_X7_grave_30 : qd cX7_grave 30 (.ireturn) 1 31 := ⟨by decide +kernel, rfl⟩
theorem D_X7_grave_31 : qd cX7_grave 31 (.iconst 0) 1 32 := ⟨by decide +kernel, rfl⟩
theorem D_X7_grave_32 : qd cX7_grave 32 (.istore_n 3) 1 33 := ⟨by decide +kernel, rfl⟩
theorem D_X7_grave_33 : qd cX7_grave 33 (.iconst 0) 1 34 := ⟨by decide +kernel, rfl⟩
theorem D_X7_grave_34 : qd cX7_grave 34 (.istore 4) 2 36 := ⟨by decide +kernel, rfl⟩
theorem D_X7_grave_36 : qd cX7_grave 36 (.iload 4) 2 38 := ⟨by decide +kernel, rfl⟩
theorem D_X7_grave_38 : qd cX7_grave 38 (.aload_n 0) 1 39 := ⟨by decide +kernel, rfl⟩
theorem D_X7_grave_39 : qd cX7_grave 39 (.getfield 19) 3 42 := ⟨by decide +kernel, rfl⟩
theorem D_X7_grave_42 : qd cX7_grave 42 (.iconst 3) 1 43 := ⟨by decide +kernel, rfl⟩
theorem D_X7_grave_43 : qd cX7_grave 43 (.iaload) 1 44 := ⟨by decide +kernel, rfl⟩
theorem D_X7_grave_44 : qj cX7_grave 44 (.if_icmp .ge 33) (33) 47 77 := ⟨by decide +kernel, rfl, by decide⟩
theorem D_X7_grave_47 : qd cX7_grave 47 (.iload_n 3) 1 48 := ⟨by decide +kernel, rfl⟩
theorem D_X7_grave_48 : qd cX7_grave 48 (.aload_n 0) 1 49 := ⟨by decide +kernel, rfl⟩
theorem D_X7_grave_49 : qd cX7_grave 49 (.iload 4) 2 51 := ⟨by decide +kernel, rfl⟩
theorem D_X7_grave_51 : qd cX7_grave 51 (.invokevirtual 152) 3 54 := ⟨by decide +kernel, rfl⟩
theorem D_X7_grave_54 : qd cX7_grave 54 (.iload_n 1) 1 55 := ⟨by decide +kernel, rfl⟩
theorem D_X7_grave_55 : qd cX7_grave 55 (.invokestatic 142) 3 58 := ⟨by decide +kernel, rfl⟩
theorem D_X7_grave_58 : qj cX7_grave 58 (.ifCond .eq 10) (10) 61 68 := ⟨by decide +kernel, rfl, by decide⟩
theorem D_X7_grave_61 : qd cX7_grave 61 (.iconst 1) 1 62 := ⟨by decide +kernel, rfl⟩
theorem D_X7_grave_62 : qd cX7_grave 62 (.iload 4) 2 64 := ⟨by decide +kernel, rfl⟩
theorem D_X7_grave_64 : qd cX7_grave 64 (.ishl) 1 65 := ⟨by decide +kernel, rfl⟩
theorem D_X7_grave_65 : qj cX7_grave 65 (.goto 4) (4) 68 69 := ⟨by decide +kernel, rfl, by decide⟩
theorem D_X7_grave_68 : qd cX7_grave 68 (.iconst 0) 1 69 := ⟨by decide +kernel, rfl⟩
theorem D_X7_grave_69 : qd cX7_grave 69 (.ior) 1 70 := ⟨by decide +kernel, rfl⟩
theorem D_X7_grave_70 : qd cX7_grave 70 (.istore_n 3) 1 71 := ⟨by decide +kernel, rfl⟩
theorem D_X7_grave_71 : qd cX7_grave 71 (.iinc 4 1) 3 74 := ⟨by decide +kernel, rfl⟩
theorem D_X7_grave_74 : qj cX7_grave 74 (.goto (-38)) (-38) 77 36 := ⟨by decide +kernel, rfl, by decide⟩
theorem D_X7_grave_77 : qd cX7_grave 77 (.iload_n 2) 1 78 := ⟨by decide +kernel, rfl⟩
theorem D_X7_grave_78 : qj cX7_grave 78 (.ifCond .ne 16) (16) 81 94 := ⟨by decide +kernel, rfl, by decide⟩
theorem D_X7_grave_81 : qd cX7_grave 81 (.aload_n 0) 1 82 := ⟨by decide +kernel, rfl⟩
theorem D_X7_grave_82 : qd cX7_grave 82 (.getfield 19) 3 85 := ⟨by decide +kernel, rfl⟩
theorem D_X7_grave_85 : qd cX7_grave 85 (.iconst 5) 1 86 := ⟨by decide +kernel, rfl⟩
theorem D_X7_grave_86 : qd cX7_grave 86 (.iaload) 1 87 := ⟨by decide +kernel, rfl⟩
theorem D_X7_grave_87 : qd cX7_grave 87 (.iload_n 1) 1 88 := ⟨by decide +kernel, rfl⟩
theorem D_X7_grave_88 : qd cX7_grave 88 (.ishr) 1 89 := ⟨by decide +kernel, rfl⟩
theorem D_X7_grave_89 : qd cX7_grave 89 (.iconst 1) 1 90 := ⟨by decide +kernel, rfl⟩
theorem D_X7_grave_90 : qd cX7_grave 90 (.iand) 1 91 := ⟨by decide +kernel, rfl⟩
theorem D_X7_grave_91 : qj cX7_grave 91 (.goto 4) (4) 94 95 := ⟨by decide +kernel, rfl, by decide⟩
theorem D_X7_grave_94 : qd cX7_grave 94 (.iload_n 3) 1 95 := ⟨by decide +kernel, rfl⟩
theorem D_X7_grave_95 : qd cX7_grave 95 (.ireturn) 1 96 := ⟨by decide +kernel, rfl⟩
theorem D_X7_has_0 : qd cX7_has 0 (.iload_n 0) 1 1 := ⟨by decide +kernel, rfl⟩
theorem D_X7_has_1 : qd cX7_has 1 (.iload_n 1) 1 2 := ⟨by decide +kernel, rfl⟩
theorem D_X7_has_2 : qd cX7_has 2 (.ishr) 1 3 := ⟨by decide +kernel, rfl⟩
theorem D_X7_has_3 : qd cX7_has 3 (.iconst 1) 1 4 := ⟨by decide +kernel, rfl⟩
theorem D_X7_has_4 : qd cX7_has 4 (.iand) 1 5 := ⟨by decide +kernel, rfl⟩
theorem D_X7_has_5 : qd cX7_has 5 (.iconst 1) 1 6 := ⟨by decide +kernel, rfl⟩
theorem D_X7_has_6 : qj cX7_has 6 (.if_icmp .ne 7) (7) 9 13 := ⟨by decide +kernel, rfl, by decide⟩
theorem D_X7_has_9 : qd cX7_has 9 (.iconst 1) 1 10 := ⟨by decide +kernel, rfl⟩
theorem D_X7_has_10 : qj cX7_has 10 (.goto 4) (4) 13 14 := ⟨by decide +kernel, rfl, by decide⟩
theorem D_X7_has_13 : qd cX7_has 13 (.iconst 0) 1 14 := ⟨by decide +kernel, rfl⟩
theorem D_X7_has_14 : qd cX7_has 14 (.ireturn) 1 15 := ⟨by decide +kernel, rfl⟩
theorem D_X7_image_0 : qd cX7_image 0 (.iload_n 1) 1 1 := ⟨by decide +kernel, rfl⟩
theorem D_X7_image_1 : qd cX7_image 1 (.i2l) 1 2 := ⟨by decide +kernel, rfl⟩
theorem D_X7_image_2 : qd cX7_image 2 (.lconst 0) 1 3 := ⟨by decide +kernel, rfl⟩
theorem D_X7_image_3 : qd cX7_image 3 (.lconst 1) 1 4 := ⟨by decide +kernel, rfl⟩
theorem D_X7_image_4 : qd cX7_image 4 (.invokestatic 57) 3 7 := ⟨by decide +kernel, rfl⟩
theorem D_X7_image_7 : qj cX7_image 7 (.ifCond .ne 6) (6) 10 13 := ⟨by decide +kernel, rfl, by decide⟩
theorem D_X7_image_10 : qd cX7_image 10 (.ldc 67) 2 12 := ⟨by decide +kernel, rfl⟩
theorem D_X7_image_12 : qd cX7_image 12 (.ireturn) 1 13 := ⟨by decide +kernel, rfl⟩
theorem D_X7_image_13 : qd cX7_image 13 (.aload_n 0) 1 14 := ⟨by decide +kernel, rfl⟩
theorem D_X7_image_14 : qd cX7_image 14 (.getfield 135) 3 17 := ⟨by decide +kernel, rfl⟩
theorem D_X7_image_17 : qj cX7_image 17 (.ifCond .ne 6) (6) 20 23 := ⟨by decide +kernel, rfl, by decide⟩
theorem D_X7_image_20 : qd cX7_image 20 (.ldc 162) 2 22 := ⟨by decide +kernel, rfl⟩
theorem D_X7_image_22 : qd cX7_image 22 (.ireturn) 1 23 := ⟨by decide +kernel, rfl⟩
theorem D_X7_image_23 : qd cX7_image 23 (.iconst 0) 1 24 := ⟨by decide +kernel, rfl⟩
theorem D_X7_image_24 : qd cX7_image 24 (.istore_n 2) 1 25 := ⟨by decide +kernel, rfl⟩
theorem D_X7_image_25 : qd cX7_image 25 (.iload_n 2) 1 26 := ⟨by decide +kernel, rfl⟩
theorem D_X7_image_26 : qd cX7_image 26 (.bipush 51) 2 28 := ⟨by decide +kernel, rfl⟩
theorem D_X7_image_28 : qj cX7_image 28 (.if_icmp .ge 26) (26) 31 54 := ⟨by decide +kernel, rfl, by decide⟩
theorem D_X7_image_31 : qd cX7_image 31 (.aload_n 0) 1 32 := ⟨by decide +kernel, rfl⟩
theorem D_X7_image_32 : qd cX7_image 32 (.getfield 44) 3 35 := ⟨by decide +kernel, rfl⟩
theorem D_X7_image_35 : qd cX7_image 35 (.bipush 51) 2 37 := ⟨by decide +kernel, rfl⟩
theorem D_X7_image_37 : qd cX7_image 37 (.iload_n 1) 1 38 := ⟨by decide +kernel, rfl⟩
theorem D_X7_image_38 : qd cX7_image 38 (.imul) 1 39 := ⟨by decide +kernel, rfl⟩
theorem D_X7_image_39 : qd cX7_image 39 (.iload_n 2) 1 40 := ⟨by decide +kernel, rfl⟩
theorem D_X7_image_40 : qd cX7_image 40 (.iadd) 1 41 := ⟨by decide +kernel, rfl⟩
theorem D_X7_image_41 : qd cX7_image 41 (.aload_n 0) 1 42 := ⟨by decide +kernel, rfl⟩
theorem D_X7_image_42 : qd cX7_image 42 (.getfield 19) 3 45 := ⟨by decide +kernel, rfl⟩
theorem D_X7_image_45 : qd cX7_image 45 (.iload_n 2) 1 46 := ⟨by decide +kernel, rfl⟩
theorem D_X7_image_46 : qd cX7_image 46 (.iaload) 1 47 := ⟨by decide +kernel, rfl⟩
theorem D_X7_image_47 : qd cX7_image 47 (.iastore) 1 48 := ⟨by decide +kernel, rfl⟩
theorem D_X7_image_48 : qd cX7_image 48 (.iinc 2 1) 3 51 := ⟨by decide +kernel, rfl⟩
theorem D_X7_image_51 : qj cX7_image 51 (.goto (-26)) (-26) 54 25 := ⟨by decide +kernel, rfl, by decide⟩
theorem D_X7_image_54 : qd cX7_image 54 (.aload_n 0) 1 55 := ⟨by decide +kernel, rfl⟩
theorem D_X7_image_55 : qd cX7_image 55 (.getfield 40) 3 58 := ⟨by decide +kernel, rfl⟩
theorem D_X7_image_58 : qd cX7_image 58 (.iload_n 1) 1 59 := ⟨by decide +kernel, rfl⟩
theorem D_X7_image_59 : qd cX7_image 59 (.iconst 1) 1 60 := ⟨by decide +kernel, rfl⟩
theorem D_X7_image_60 : qd cX7_image 60 (.bastore) 1 61 := ⟨by decide +kernel, rfl⟩
theorem D_X7_image_61 : qd cX7_image 61 (.iconst 1) 1 62 := ⟨by decide +kernel, rfl⟩
theorem D_X7_image_62 : qd cX7_image 62 (.ireturn) 1 63 := ⟨by decide +kernel, rfl⟩
theorem D_X7_in_0 : qd cX7_in 0 (.lload_n 0) 1 1 := ⟨by decide +kernel, rfl⟩
theorem D_X7_in_1 : qd cX7_in 1 (.lload_n 2) 1 2 := ⟨by decide +kernel, rfl⟩
theorem D_X7_in_2 : qd cX7_in 2 (.lcmp) 1 3 := ⟨by decide +kernel, rfl⟩
theorem D_X7_in_3 : qj cX7_in 3 (.ifCond .lt 14) (14) 6 17 := ⟨by decide +kernel, rfl, by decide⟩
theorem D_X7_in_6 : qd cX7_in 6 (.lload_n 0) 1 7 := ⟨by decide +kernel, rfl⟩
theorem D_X7_in_7 : qd cX7_in 7 (.lload 4) 2 9 := ⟨by decide +kernel, rfl⟩
theorem D_X7_in_9 : qd cX7_in 9 (.lcmp) 1 10 := ⟨by decide +kernel, rfl⟩
theorem D_X7_in_10 : qj cX7_in 10 (.ifCond .gt 7) (7) 13 17 := ⟨by decide +kernel, rfl, by decide⟩
theorem D_X7_in_13 : qd cX7_in 13 (.iconst 1) 1 14 := ⟨by decide +kernel, rfl⟩
theorem D_X7_in_14 : qj cX7_in 14 (.goto 4) (4) 17 18 := ⟨by decide +kernel, rfl, by decide⟩
theorem D_X7_in_17 : qd cX7_in 17 (.iconst 0) 1 18 := ⟨by decide +kernel, rfl⟩
theorem D_X7_in_18 : qd cX7_in 18 (.ireturn) 1 19 := ⟨by decide +kernel, rfl⟩
theorem D_X7_init_0 : qd cX7_init 0 (.aload_n 0) 1 1 := ⟨by decide +kernel, rfl⟩
theorem D_X7_init_1 : qd cX7_init 1 (.invokespecial 1) 3 4 := ⟨by decide +kernel, rfl⟩
theorem D_X7_init_4 : qd cX7_init 4 (.aload_n 0) 1 5 := ⟨by decide +kernel, rfl⟩
theorem D_X7_init_5 : qd cX7_init 5 (.bipush 8) 2 7 := ⟨by decide +kernel, rfl⟩
theorem D_X7_init_7 : qd cX7_init 7 (.newarray .int) 2 9 := ⟨by decide +kernel, rfl⟩
theorem D_X7_init_9 : qd cX7_init 9 (.putfield 7) 3 12 := ⟨by decide +kernel, rfl⟩
theorem D_X7_init_12 : qd cX7_init 12 (.aload_n 0) 1 13 := ⟨by decide +kernel, rfl⟩
theorem D_X7_init_13 : qd cX7_init 13 (.bipush 8) 2 15 := ⟨by decide +kernel, rfl⟩
theorem D_X7_init_15 : qd cX7_init 15 (.newarray .int) 2 17 := ⟨by decide +kernel, rfl⟩
theorem D_X7_init_17 : qd cX7_init 17 (.putfield 13) 3 20 := ⟨by decide +kernel, rfl⟩
theorem D_X7_init_20 : qd cX7_init 20 (.aload_n 0) 1 21 := ⟨by decide +kernel, rfl⟩
theorem D_X7_init_21 : qd cX7_init 21 (.sipush 320) 3 24 := ⟨by decide +kernel, rfl⟩
theorem D_X7_init_24 : qd cX7_init 24 (.newarray .int) 2 26 := ⟨by decide +kernel, rfl⟩
theorem D_X7_init_26 : qd cX7_init 26 (.putfield 16) 3 29 := ⟨by decide +kernel, rfl⟩
theorem D_X7_init_29 : qd cX7_init 29 (.aload_n 0) 1 30 := ⟨by decide +kernel, rfl⟩
theorem D_X7_init_30 : qd cX7_init 30 (.bipush 51) 2 32 := ⟨by decide +kernel, rfl⟩
theorem D_X7_init_32 : qd cX7_init 32 (.newarray .int) 2 34 := ⟨by decide +kernel, rfl⟩
theorem D_X7_init_34 : qd cX7_init 34 (.putfield 19) 3 37 := ⟨by decide +kernel, rfl⟩
theorem D_X7_init_37 : qd cX7_init 37 (.aload_n 0) 1 38 := ⟨by decide +kernel, rfl⟩
theorem D_X7_init_38 : qd cX7_init 38 (.bipush 40) 2 40 := ⟨by decide +kernel, rfl⟩
theorem D_X7_init_40 : qd cX7_init 40 (.newarray .int) 2 42 := ⟨by decide +kernel, rfl⟩
theorem D_X7_init_42 : qd cX7_init 42 (.putfield 22) 3 45 := ⟨by decide +kernel, rfl⟩
theorem D_X7_init_45 : qd cX7_init 45 (.aload_n 0) 1 46 := ⟨by decide +kernel, rfl⟩
theorem D_X7_init_46 : qd cX7_init 46 (.bipush 120) 2 48 := ⟨by decide +kernel, rfl⟩
theorem D_X7_init_48 : qd cX7_init 48 (.newarray .int) 2 50 := ⟨by decide +kernel, rfl⟩
theorem D_X7_init_50 : qd cX7_init 50 (.putfield 25) 3 53 := ⟨by decide +kernel, rfl⟩
theorem D_X7_init_53 : qd cX7_init 53 (.aload_n 0) 1 54 := ⟨by decide +kernel, rfl⟩
theorem D_X7_init_54 : qd cX7_init 54 (.bipush 51) 2 56 := ⟨by decide +kernel, rfl⟩
theorem D_X7_init_56 : qd cX7_init 56 (.newarray .int) 2 58 := ⟨by decide +kernel, rfl⟩
theorem D_X7_init_58 : qd cX7_init 58 (.putfield 28) 3 61 := ⟨by decide +kernel, rfl⟩
theorem D_X7_init_61 : qd cX7_init 61 (.aload_n 0) 1 62 := ⟨by decide +kernel, rfl⟩
theorem D_X7_init_62 : qd cX7_init 62 (.sipush 1224) 3 65 := ⟨by decide +kernel, rfl⟩
theorem D_X7_init_65 : qd cX7_init 65 (.newarray .int) 2 67 := ⟨by decide +kernel, rfl⟩
theorem D_X7_init_67 : qd cX7_init 67 (.putfield 31) 3 70 := ⟨by decide +kernel, rfl⟩
theorem D_X7_init_70 : qd cX7_init 70 (.aload_n 0) 1 71 := ⟨by decide +kernel, rfl⟩
theorem D_X7_init_71 : qd cX7_init 71 (.bipush 51) 2 73 := ⟨by decide +kernel, rfl⟩
theorem D_X7_init_73 : qd cX7_init 73 (.newarray .int) 2 75 := ⟨by decide +kernel, rfl⟩
theorem D_X7_init_75 : qd cX7_init 75 (.putfield 34) 3 78 := ⟨by decide +kernel, rfl⟩
theorem D_X7_init_78 : qd cX7_init 78 (.aload_n 0) 1 79 := ⟨by decide +kernel, rfl⟩
theorem D_X7_init_79 : qd cX7_init 79 (.iconst 3) 1 80 := ⟨by decide +kernel, rfl⟩
theorem D_X7_init_80 : qd cX7_init 80 (.newarray .int) 2 82 := ⟨by decide +kernel, rfl⟩
theorem D_X7_init_82 : qd cX7_init 82 (.putfield 37) 3 85 := ⟨by decide +kernel, rfl⟩
theorem D_X7_init_85 : qd cX7_init 85 (.aload_n 0) 1 86 := ⟨by decide +kernel, rfl⟩
theorem D_X7_init_86 : qd cX7_init 86 (.iconst 2) 1 87 := ⟨by decide +kernel, rfl⟩
theorem D_X7_init_87 : qd cX7_init 87 (.newarray .boolean) 2 89 := ⟨by decide +kernel, rfl⟩
theorem D_X7_init_89 : qd cX7_init 89 (.putfield 40) 3 92 := ⟨by decide +kernel, rfl⟩
theorem D_X7_init_92 : qd cX7_init 92 (.aload_n 0) 1 93 := ⟨by decide +kernel, rfl⟩
theorem D_X7_init_93 : qd cX7_init 93 (.bipush 102) 2 95 := ⟨by decide +kernel, rfl⟩
theorem D_X7_init_95 : qd cX7_init 95 (.newarray .int) 2 97 := ⟨by decide +kernel, rfl⟩
theorem D_X7_init_97 : qd cX7_init 97 (.putfield 44) 3 100 := ⟨by decide +kernel, rfl⟩
theorem D_X7_init_100 : qd cX7_init 100 (.aload_n 0) 1 101 := ⟨by decide +kernel, rfl⟩
theorem D_X7_init_101 : qd cX7_init 101 (.bipush 16) 2 103 := ⟨by decide +kernel, rfl⟩
theorem D_X7_init_103 : qd cX7_init 103 (.newarray .int) 2 105 := ⟨by decide +kernel, rfl⟩
theorem D_X7_init_105 : qd cX7_init 105 (.putfield 47) 3 108 := ⟨by decide +kernel, rfl⟩
theorem D_X7_init_108 : qd cX7_init 108 (.iconst 0) 1 109 := ⟨by decide +kernel, rfl⟩
theorem D_X7_init_109 : qd cX7_init 109 (.istore_n 1) 1 110 := ⟨by decide +kernel, rfl⟩
theorem D_X7_init_110 : qd cX7_init 110 (.iload_n 1) 1 111 := ⟨by decide +kernel, rfl⟩
theorem D_X7_init_111 : qd cX7_init 111 (.bipush 8) 2 113 := ⟨by decide +kernel, rfl⟩
theorem D_X7_init_113 : qj cX7_init 113 (.if_icmp .ge 16) (16) 116 129 := ⟨by decide +kernel, rfl, by decide⟩
theorem D_X7_init_116 : qd cX7_init 116 (.aload_n 0) 1 117 := ⟨by decide +kernel, rfl⟩
theorem D_X7_init_117 : qd cX7_init 117 (.getfield 13) 3 120 := ⟨by decide +kernel, rfl⟩
theorem D_X7_init_120 : qd cX7_init 120 (.iload_n 1) 1 121 := ⟨by decide +kernel, rfl⟩
theorem D_X7_init_121 : qd cX7_init 121 (.iconst (-1)) 1 122 := ⟨by decide +kernel, rfl⟩
theorem D_X7_init_122 : qd cX7_init 122 (.iastore) 1 123 := ⟨by decide +kernel, rfl⟩
theorem D_X7_init_123 : qd cX7_init 123 (.iinc 1 1) 3 126 := ⟨by decide +kernel, rfl⟩
theorem D_X7_init_126 : qj cX7_init 126 (.goto (-16)) (-16) 129 110 := ⟨by decide +kernel, rfl, by decide⟩
theorem D_X7_init_129 : qd cX7_init 129 (.return_) 1 130 := ⟨by decide +kernel, rfl⟩
theorem D_X7_isGrave_0 : qd cX7_isGrave 0 (.iload_n 1) 1 1 := ⟨by decide +kernel, rfl⟩
theorem D_X7_isGrave_1 : qd cX7_isGrave 1 (.i2l) 1 2 := ⟨by decide +kernel, rfl⟩
theorem D_X7_isGrave_2 : qd cX7_isGrave 2 (.lconst 0) 1 3 := ⟨by decide +kernel, rfl⟩
theorem D_X7_isGrave_3 : qd cX7_isGrave 3 (.aload_n 0) 1 4 := ⟨by decide +kernel, rfl⟩
theorem D_X7_isGrave_4 : qd cX7_isGrave 4 (.getfield 19) 3 7 := ⟨by decide +kernel, rfl⟩
theorem D_X7_isGrave_7 : qd cX7_isGrave 7 (.iconst 0) 1 8 := ⟨by decide +kernel, rfl⟩
theorem D_X7_isGrave_8 : qd cX7_isGrave 8 (.iaload) 1 9 := ⟨by decide +kernel, rfl⟩
theorem D_X7_isGrave_9 : qd cX7_isGrave 9 (.iconst 1) 1 10 := ⟨by decide +kernel, rfl⟩
theorem D_X7_isGrave_10 : qd cX7_isGrave 10 (.isub) 1 11 := ⟨by decide +kernel, rfl⟩
theorem D_X7_isGrave_11 : qd cX7_isGrave 11 (.i2l) 1 12 := ⟨by decide +kernel, rfl⟩
theorem D_X7_isGrave_12 : qd cX7_isGrave 12 (.invokestatic 57) 3 15 := ⟨by decide +kernel, rfl⟩
theorem D_X7_isGrave_15 : qd cX7_isGrave 15 (.ireturn) 1 16 := ⟨by decide +kernel, rfl⟩
theorem D_X7_isKeptBy_0 : qd cX7_isKeptBy 0 (.aload_n 0) 1 1 := ⟨by decide +kernel, rfl⟩
theorem D_X7_isKeptBy_1 : qd cX7_isKeptBy 1 (.invokevirtual 188) 3 4 := ⟨by decide +kernel, rfl⟩
theorem D_X7_isKeptBy_4 : qd cX7_isKeptBy 4 (.iconst 0) 1 5 := ⟨by decide +kernel, rfl⟩
theorem D_X7_isKeptBy_5 : qd cX7_isKeptBy 5 (.istore_n 3) 1 6 := ⟨by decide +kernel, rfl⟩
theorem D_X7_isKeptBy_6 : qd cX7_isKeptBy 6 (.iload_n 3) 1 7 := ⟨by decide +kernel, rfl⟩
theorem D_X7_isKeptBy_7 : qd cX7_isKeptBy 7 (.iload_n 2) 1 8 := ⟨by decide +kernel, rfl⟩
theorem D_X7_isKeptBy_8 : qj cX7_isKeptBy 8 (.if_icmp .ge 23) (23) 11 31 := ⟨by decide +kernel, rfl, by decide⟩
theorem D_X7_isKeptBy_11 : qd cX7_isKeptBy 11 (.aload_n 0) 1 12 := ⟨by decide +kernel, rfl⟩
theorem D_X7_isKeptBy_12 : qd cX7_isKeptBy 12 (.aload_n 0) 1 13 := ⟨by decide +kernel, rfl⟩
theorem D_X7_isKeptBy_13 : qd cX7_isKeptBy 13 (.getfield 37) 3 16 := ⟨by decide +kernel, rfl⟩
theorem D_X7_isKeptBy_16 : qd cX7_isKeptBy 16 (.iload_n 3) 1 17 := ⟨by decide +kernel, rfl⟩
theorem D_X7_isKeptBy_17 : qd cX7_isKeptBy 17 (.iaload) 1 18 := ⟨by decide +kernel, rfl⟩
theorem D_X7_isKeptBy_18 : qd cX7_isKeptBy 18 (.invokevirtual 202) 3 21 := ⟨by decide +kernel, rfl⟩
theorem D_X7_isKeptBy_21 : qd cX7_isKeptBy 21 (.aload_n 0) 1 22 := ⟨by decide +kernel, rfl⟩
theorem D_X7_isKeptBy_22 : qd cX7_isKeptBy 22 (.invokevirtual 168) 3 25 := ⟨by decide +kernel, rfl⟩
theorem D_X7_isKeptBy_25 : qd cX7_isKeptBy 25 (.iinc 3 1) 3 28 := ⟨by decide +kernel, rfl⟩
theorem D_X7_isKeptBy_28 : qj cX7_isKeptBy 28 (.goto (-22)) (-22) 31 6 := ⟨by decide +kernel, rfl, by decide⟩
theorem D_X7_isKeptBy_31 : qd cX7_isKeptBy 31 (.iload_n 1) 1 32 := ⟨by decide +kernel, rfl⟩
theorem D_X7_isKeptBy_32 : qd cX7_isKeptBy 32 (.aload_n 0) 1 33 := ⟨by decide +kernel, rfl⟩
theorem D_X7_isKeptBy_33 : qd cX7_isKeptBy 33 (.getfield 19) 3 36 := ⟨by decide +kernel, rfl⟩
theorem D_X7_isKeptBy_36 : qd cX7_isKeptBy 36 (.iconst 5) 1 37 := ⟨by decide +kernel, rfl⟩
theorem D_X7_isKeptBy_37 : qd cX7_isKeptBy 37 (.iaload) 1 38 := ⟨by decide +kernel, rfl⟩
theorem D_X7_isKeptBy_38 : qd cX7_isKeptBy 38 (.iconst (-1)) 1 39 := ⟨by decide +kernel, rfl⟩
theorem D_X7_isKeptBy_39 : qd cX7_isKeptBy 39 (.ixor) 1 40 := ⟨by decide +kernel, rfl⟩
theorem D_X7_isKeptBy_40 : qd cX7_isKeptBy 40 (.iand) 1 41 := ⟨by decide +kernel, rfl⟩
theorem D_X7_isKeptBy_41 : qj cX7_isKeptBy 41 (.ifCond .ne 7) (7) 44 48 := ⟨by decide +kernel, rfl, by decide⟩
theorem D_X7_isKeptBy_44 : qd cX7_isKeptBy 44 (.iconst 1) 1 45 := ⟨by decide +kernel, rfl⟩
theorem D_X7_isKeptBy_45 : qj cX7_isKeptBy 45 (.goto 4) (4) 48 49 := ⟨by decide +kernel, rfl, by decide⟩
theorem D_X7_isKeptBy_48 : qd cX7_isKeptBy 48 (.iconst 0) 1 49 := ⟨by decide +kernel, rfl⟩
theorem D_X7_isKeptBy_49 : qd cX7_isKeptBy 49 (.istore_n 3) 1 50 := ⟨by decide +kernel, rfl⟩
theorem D_X7_isKeptBy_50 : qd cX7_isKeptBy 50 (.aload_n 0) 1 51 := ⟨by decide +kernel, rfl⟩
theorem D_X7_isKeptBy_51 : qd cX7_isKeptBy 51 (.invokevirtual 191) 3 54 := ⟨by decide +kernel, rfl⟩
theorem D_X7_isKeptBy_54 : qd cX7_isKeptBy 54 (.iload_n 3) 1 55 := ⟨by decide +kernel, rfl⟩
theorem D_X7_isKeptBy_55 : qd cX7_isKeptBy 55 (.ireturn) 1 56 := ⟨by decide +kernel, rfl⟩
theorem D_X7_isKind_0 : qd cX7_isKind 0 (.iload_n 1) 1 1 := ⟨by decide +kernel, rfl⟩
theorem D_X7_isKind_1 : qj cX7_isKind 1 (.ifCond .eq 28) (28) 4 29 := ⟨by decide +kernel, rfl, by decide⟩
theorem D_X7_isKind_4 : qd cX7_isKind 4 (.iload_n 0) 1 5 := ⟨by decide +kernel, rfl⟩
theorem D_X7_isKind_5 : qd cX7_isKind 5 (.iload_n 1) 1 6 := ⟨by decide +kernel, rfl⟩
theorem D_X7_isKind_6 : qj cX7_isKind 6 (.if_icmp .eq 23) (23) 9 29 := ⟨by decide +kernel, rfl, by decide⟩
theorem D_X7_isKind_9 : qd cX7_isKind 9 (.iload_n 1) 1 10 := ⟨by decide +kernel, rfl⟩
theorem D_X7_isKind_10 : qd cX7_isKind 10 (.iconst 1) 1 11 := ⟨by decide +kernel, rfl⟩
theorem D_X7_isKind_11 : qj cX7_isKind 11 (.if_icmp .ne 8) (8) 14 19 := ⟨by decide +kernel, rfl, by decide⟩
theorem D_X7_isKind_14 : qd cX7_isKind 14 (.iload_n 0) 1 15 := ⟨by decide +kernel, rfl⟩
theorem D_X7_isKind_15 : qd cX7_isKind 15 (.iconst 4) 1 16 := ⟨by decide +kernel, rfl⟩
theorem D_X7_isKind_16 : qj cX7_isKind 16 (.if_icmp .lt 13) (13) 19 29 := ⟨by decide +kernel, rfl, by decide⟩
theorem D_X7_isKind_19 : qd cX7_isKind 19 (.iload_n 1) 1 20 := ⟨by decide +kernel, rfl⟩
theorem D_X7_isKind_20 : qd cX7_isKind 20 (.iconst 4) 1 21 := ⟨by decide +kernel, rfl⟩
theorem D_X7_isKind_21 : qj cX7_isKind 21 (.if_icmp .ne 12) (12) 24 33 := ⟨by decide +kernel, rfl, by decide⟩
theorem D_X7_isKind_24 : qd cX7_isKind 24 (.iload_n 0) 1 25 := ⟨by decide +kernel, rfl⟩
theorem D_X7_isKind_25 : qd cX7_isKind 25 (.iconst 5) 1 26 := ⟨by decide +kernel, rfl⟩
theorem D_X7_isKind_26 : qj cX7_isKind 26 (.if_icmp .ne 7) (7) 29 33 := ⟨by decide +kernel, rfl, by decide⟩
theorem D_X7_isKind_29 : qd cX7_isKind 29 (.iconst 1) 1 30 := ⟨by decide +kernel, rfl⟩
theorem D_X7_isKind_30 : qj cX7_isKind 30 (.goto 4) (4) 33 34 := ⟨by decide +kernel, rfl, by decide⟩
theorem D_X7_isKind_33 : qd cX7_isKind 33 (.iconst 0) 1 34 := ⟨by decide +kernel, rfl⟩
theorem D_X7_isKind_34 : qd cX7_isKind 34 (.ireturn) 1 35 := ⟨by decide +kernel, rfl⟩
theorem D_X7_isLetter_0 : qd cX7_isLetter 0 (.aload_n 0) 1 1 := ⟨by decide +kernel, rfl⟩
theorem D_X7_isLetter_1 : qd cX7_isLetter 1 (.getfield 91) 3 4 := ⟨by decide +kernel, rfl⟩
theorem D_X7_isLetter_4 : qd cX7_isLetter 4 (.iconst 1) 1 5 := ⟨by decide +kernel, rfl⟩
theorem D_X7_isLetter_5 : qj cX7_isLetter 5 (.if_icmp .ne 15) (15) 8 20 := ⟨by decide +kernel, rfl, by decide⟩
theorem D_X7_isLetter_8 : qd cX7_isLetter 8 (.aload_n 0) 1 9 := ⟨by decide +kernel, rfl⟩
theorem D_X7_isLetter_9 : qd cX7_isLetter 9 (.getfield 94) 3 12 := ⟨by decide +kernel, rfl⟩
theorem D_X7_isLetter_12 : qd cX7_isLetter 12 (.iload_n 1) 1 13 := ⟨by decide +kernel, rfl⟩
theorem D_X7_isLetter_13 : qj cX7_isLetter 13 (.if_icmp .ne 7) (7) 16 20 := ⟨by decide +kernel, rfl, by decide⟩
theorem D_X7_isLetter_16 : qd cX7_isLetter 16 (.iconst 1) 1 17 := ⟨by decide +kernel, rfl⟩
theorem D_X7_isLetter_17 : qj cX7_isLetter 17 (.goto 4) (4) 20 21 := ⟨by decide +kernel, rfl, by decide⟩
theorem D_X7_isLetter_20 : qd cX7_isLetter 20 (.iconst 0) 1 21 := ⟨by decide +kernel, rfl⟩
theorem D_X7_isLetter_21 : qd cX7_isLetter 21 (.ireturn) 1 22 := ⟨by decide +kernel, rfl⟩
theorem D_X7_isRow_0 : qd cX7_isRow 0 (.iload_n 0) 1 1 := ⟨by decide +kernel, rfl⟩
theorem D_X7_isRow_1 : qd cX7_isRow 1 (.i2l) 1 2 := ⟨by decide +kernel, rfl⟩
theorem D_X7_isRow_2 : qd cX7_isRow 2 (.lconst 0) 1 3 := ⟨by decide +kernel, rfl⟩
theorem D_X7_isRow_3 : qd cX7_isRow 3 (.ldc2_w 55) 3 6 := ⟨by decide +kernel, rfl⟩
theorem D_X7_isRow_6 : qd cX7_isRow 6 (.invokestatic 57) 3 9 := ⟨by decide +kernel, rfl⟩
theorem D_X7_isRow_9 : qd cX7_isRow 9 (.ireturn) 1 10 := ⟨by decide +kernel, rfl⟩
theorem D_X7_isSleeper_0 : qd cX7_isSleeper 0 (.iload_n 1) 1 1 := ⟨by decide +kernel, rfl⟩
theorem D_X7_isSleeper_1 : qd cX7_isSleeper 1 (.i2l) 1 2 := ⟨by decide +kernel, rfl⟩
theorem D_X7_isSleeper_2 : qd cX7_isSleeper 2 (.lconst 0) 1 3 := ⟨by decide +kernel, rfl⟩
theorem D_X7_isSleeper_3 : qd cX7_isSleeper 3 (.aload_n 0) 1 4 := ⟨by decide +kernel, rfl⟩
theorem D_X7_isSleeper_4 : qd cX7_isSleeper 4 (.getfield 19) 3 7 := ⟨by decide +kernel, rfl⟩
theorem D_X7_isSleeper_7 : qd cX7_isSleeper 7 (.iconst 3) 1 8 := ⟨by decide +kernel, rfl⟩
theorem D_X7_isSleeper_8 : qd cX7_isSleeper 8 (.iaload) 1 9 := ⟨by decide +kernel, rfl⟩
theorem D_X7_isSleeper_9 : qd cX7_isSleeper 9 (.iconst 1) 1 10 := ⟨by decide +kernel, rfl⟩
theorem D_X7_isSleeper_10 : qd cX7_isSleeper 10 (.isub) 1 11 := ⟨by decide +kernel, rfl⟩
theorem D_X7_isSleeper_11 : qd cX7_isSleeper 11 (.i2l) 1 12 := ⟨by decide +kernel, rfl⟩
theorem D_X7_isSleeper_12 : qd cX7_isSleeper 12 (.invokestatic 57) 3 15 := ⟨by decide +kernel, rfl⟩
theorem D_X7_isSleeper_15 : qd cX7_isSleeper 15 (.ireturn) 1 16 := ⟨by decide +kernel, rfl⟩
theorem D_X7_isSo_0 : qd cX7_isSo 0 (.iconst 1) 1 1 := ⟨by decide +kernel, rfl⟩
theorem D_X7_isSo_1 : qd cX7_isSo 1 (.istore_n 3) 1 2 := ⟨by decide +kernel, rfl⟩
theorem D_X7_isSo_2 : qd cX7_isSo 2 (.iconst 0) 1 3 := ⟨by decide +kernel, rfl⟩
theorem D_X7_isSo_3 : qd cX7_isSo 3 (.istore 4) 2 5 := ⟨by decide +kernel, rfl⟩
theorem D_X7_isSo_5 : qd cX7_isSo 5 (.iload 4) 2 7 := ⟨by decide +kernel, rfl⟩
theorem D_X7_isSo_7 : qd cX7_isSo 7 (.iload_n 2) 1 8 := ⟨by decide +kernel, rfl⟩
theorem D_X7_isSo_8 : qj cX7_isSo 8 (.if_icmp .ge 41) (41) 11 49 := ⟨by decide +kernel, rfl, by decide⟩
theorem D_X7_isSo_11 : qd cX7_isSo 11 (.aload_n 0) 1 12 := ⟨by decide +kernel, rfl⟩
theorem D_X7_isSo_12 : qd cX7_isSo 12 (.invokevirtual 168) 3 15 := ⟨by decide +kernel, rfl⟩
theorem D_X7_isSo_15 : qd cX7_isSo 15 (.iload_n 3) 1 16 := ⟨by decide +kernel, rfl⟩
theorem D_X7_isSo_16 : qj cX7_isSo 16 (.ifCond .eq 25) (25) 19 41 := ⟨by decide +kernel, rfl, by decide⟩
theorem D_X7_isSo_19 : qd cX7_isSo 19 (.aload_n 0) 1 20 := ⟨by decide +kernel, rfl⟩
theorem D_X7_isSo_20 : qd cX7_isSo 20 (.getfield 16) 3 23 := ⟨by decide +kernel, rfl⟩
theorem D_X7_isSo_23 : qd cX7_isSo 23 (.iload_n 1) 1 24 := ⟨by decide +kernel, rfl⟩
theorem D_X7_isSo_24 : qd cX7_isSo 24 (.iload 4) 2 26 := ⟨by decide +kernel, rfl⟩
theorem D_X7_isSo_26 : qd cX7_isSo 26 (.iadd) 1 27 := ⟨by decide +kernel, rfl⟩
theorem D_X7_isSo_27 : qd cX7_isSo 27 (.iaload) 1 28 := ⟨by decide +kernel, rfl⟩
theorem D_X7_isSo_28 : qd cX7_isSo 28 (.aload_n 0) 1 29 := ⟨by decide +kernel, rfl⟩
theorem D_X7_isSo_29 : qd cX7_isSo 29 (.getfield 19) 3 32 := ⟨by decide +kernel, rfl⟩
theorem D_X7_isSo_32 : qd cX7_isSo 32 (.iconst 5) 1 33 := ⟨by decide +kernel, rfl⟩
theorem D_X7_isSo_33 : qd cX7_isSo 33 (.iaload) 1 34 := ⟨by decide +kernel, rfl⟩
theorem D_X7_isSo_34 : qj cX7_isSo 34 (.if_icmp .ne 7) (7) 37 41 := ⟨by decide +kernel, rfl, by decide⟩
theorem D_X7_isSo_37 : qd cX7_isSo 37 (.iconst 1) 1 38 := ⟨by decide +kernel, rfl⟩
theorem D_X7_isSo_38 : qj cX7_isSo 38 (.goto 4) (4) 41 42 := ⟨by decide +kernel, rfl, by decide⟩
theorem D_X7_isSo_41 : qd cX7_isSo 41 (.iconst 0) 1 42 := ⟨by decide +kernel, rfl⟩
theorem D_X7_isSo_42 : qd cX7_isSo 42 (.istore_n 3) 1 43 := ⟨by decide +kernel, rfl⟩
theorem D_X7_isSo_43 : qd cX7_isSo 43 (.iinc 4 1) 3 46 := ⟨by decide +kernel, rfl⟩
theorem D_X7_isSo_46 : qj cX7_isSo 46 (.goto (-41)) (-41) 49 5 := ⟨by decide +kernel, rfl, by decide⟩
theorem D_X7_isSo_49 : qd cX7_isSo 49 (.aload_n 0) 1 50 := ⟨by decide +kernel, rfl⟩
theorem D_X7_isSo_50 : qd cX7_isSo 50 (.invokevirtual 191) 3 53 := ⟨by decide +kernel, rfl⟩
theorem D_X7_isSo_53 : qd cX7_isSo 53 (.iload_n 3) 1 54 := ⟨by decide +kernel, rfl⟩
theorem D_X7_isSo_54 : qd cX7_isSo 54 (.ireturn) 1 55 := ⟨by decide +kernel, rfl⟩
theorem D_X7_kind_0 : qd cX7_kind 0 (.aload_n 0) 1 1 := ⟨by decide +kernel, rfl⟩
theorem D_X7_kind_1 : qd cX7_kind 1 (.iload_n 1) 1 2 := ⟨by decide +kernel, rfl⟩
theorem D_X7_kind_2 : qd cX7_kind 2 (.invokevirtual 171) 3 5 := ⟨by decide +kernel, rfl⟩
theorem D_X7_kind_5 : qj cX7_kind 5 (.ifCond .eq 15) (15) 8 20 := ⟨by decide +kernel, rfl, by decide⟩
theorem D_X7_kind_8 : qd cX7_kind 8 (.aload_n 0) 1 9 := ⟨by decide +kernel, rfl⟩
theorem D_X7_kind_9 : qd cX7_kind 9 (.getfield 19) 3 12 := ⟨by decide +kernel, rfl⟩
theorem D_X7_kind_12 : qd cX7_kind 12 (.bipush 6) 2 14 := ⟨by decide +kernel, rfl⟩
theorem D_X7_kind_14 : qd cX7_kind 14 (.iload_n 1) 1 15 := ⟨by decide +kernel, rfl⟩
theorem D_X7_kind_15 : qd cX7_kind 15 (.iadd) 1 16 := ⟨by decide +kernel, rfl⟩
theorem D_X7_kind_16 : qd cX7_kind 16 (.iaload) 1 17 := ⟨by decide +kernel, rfl⟩
theorem D_X7_kind_17 : qj cX7_kind 17 (.goto 5) (5) 20 22 := ⟨by decide +kernel, rfl, by decide⟩
theorem D_X7_kind_20 : qd cX7_kind 20 (.ldc 67) 2 22 := ⟨by decide +kernel, rfl⟩
theorem D_X7_kind_22 : qd cX7_kind 22 (.ireturn) 1 23 := ⟨by decide +kernel, rfl⟩
theorem D_X7_lacks_0 : qd cX7_lacks 0 (.aload_n 0) 1 1 := ⟨by decide +kernel, rfl⟩
theorem D_X7_lacks_1 : qd cX7_lacks 1 (.getfield 13) 3 4 := ⟨by decide +kernel, rfl⟩
theorem D_X7_lacks_4 : qd cX7_lacks 4 (.iload_n 1) 1 5 := ⟨by decide +kernel, rfl⟩
theorem D_X7_lacks_5 : qd cX7_lacks 5 (.iaload) 1 6 := ⟨by decide +kernel, rfl⟩
theorem D_X7_lacks_6 : qj cX7_lacks 6 (.ifCond .ge 9) (9) 9 15 := ⟨by decide +kernel, rfl, by decide⟩
theorem D_X7_lacks_9 : qd cX7_lacks 9 (.aload_n 0) 1 10 := ⟨by decide +kernel, rfl⟩
theorem D_X7_lacks_10 : qd cX7_lacks 10 (.iconst 1) 1 11 := ⟨by decide +kernel, rfl⟩
theorem D_X7_lacks_11 : qd cX7_lacks 11 (.invokevirtual 68) 3 14 := ⟨by decide +kernel, rfl⟩
theorem D_X7_lacks_14 : qd cX7_lacks 14 (.ireturn) 1 15 := ⟨by decide +kernel, rfl⟩
theorem D_X7_lacks_15 : qd cX7_lacks 15 (.iload_n 2) 1 16 := ⟨by decide +kernel, rfl⟩
theorem D_X7_lacks_16 : qd cX7_lacks 16 (.i2l) 1 17 := ⟨by decide +kernel, rfl⟩
theorem D_X7_lacks_17 : qd cX7_lacks 17 (.lconst 0) 1 18 := ⟨by decide +kernel, rfl⟩
theorem D_X7_lacks_18 : qd cX7_lacks 18 (.aload_n 0) 1 19 := ⟨by decide +kernel, rfl⟩
theorem D_X7_lacks_19 : qd cX7_lacks 19 (.getfield 13) 3 22 := ⟨by decide +kernel, rfl⟩
theorem D_X7_lacks_22 : qd cX7_lacks 22 (.iload_n 1) 1 23 := ⟨by decide +kernel, rfl⟩
theorem D_X7_lacks_23 : qd cX7_lacks 23 (.iaload) 1 24 := ⟨by decide +kernel, rfl⟩
theorem D_X7_lacks_24 : qd cX7_lacks 24 (.iload_n 3) 1 25 := ⟨by decide +kernel, rfl⟩
theorem D_X7_lacks_25 : qd cX7_lacks 25 (.isub) 1 26 := ⟨by decide +kernel, rfl⟩
theorem D_X7_lacks_26 : qd cX7_lacks 26 (.i2l) 1 27 := ⟨by decide +kernel, rfl⟩
theorem D_X7_lacks_27 : qd cX7_lacks 27 (.invokestatic 57) 3 30 := ⟨by decide +kernel, rfl⟩
theorem D_X7_lacks_30 : qj cX7_lacks 30 (.ifCond .eq 7) (7) 33 37 := ⟨by decide +kernel, rfl, by decide⟩
theorem D_X7_lacks_33 : qd cX7_lacks 33 (.iconst 0) 1 34 := ⟨by decide +kernel, rfl⟩
theorem D_X7_lacks_34 : qj cX7_lacks 34 (.goto 8) (8) 37 42 := ⟨by decide +kernel, rfl, by decide⟩
theorem D_X7_lacks_37 : qd cX7_lacks 37 (.aload_n 0) 1 38 := ⟨by decide +kernel, rfl⟩
theorem D_X7_lacks_38 : qd cX7_lacks 38 (.iconst 2) 1 39 := ⟨by decide +kernel, rfl⟩
theorem D_X7_lacks_39 : qd cX7_lacks 39 (.invokevirtual 68) 3 42 := ⟨by decide +kernel, rfl⟩
theorem D_X7_lacks_42 : qd cX7_lacks 42 (.ireturn) 1 43 := ⟨by decide +kernel, rfl⟩
theorem D_X7_lent_0 : qd cX7_lent 0 (.aload_n 0) 1 1 := ⟨by decide +kernel, rfl⟩
theorem D_X7_lent_1 : qd cX7_lent 1 (.iload_n 2) 1 2 := ⟨by decide +kernel, rfl⟩
theorem D_X7_lent_2 : qd cX7_lent 2 (.invokevirtual 251) 3 5 := ⟨by decide +kernel, rfl⟩
theorem D_X7_lent_5 : qd cX7_lent 5 (.iload_n 2) 1 6 := ⟨by decide +kernel, rfl⟩
theorem D_X7_lent_6 : qd cX7_lent 6 (.bipush 10) 2 8 := ⟨by decide +kernel, rfl⟩
theorem D_X7_lent_8 : qj cX7_lent 8 (.if_icmp .ne 11) (11) 11 19 := ⟨by decide +kernel, rfl, by decide⟩
theorem D_X7_lent_11 : qd cX7_lent 11 (.aload_n 0) 1 12 := ⟨by decide +kernel, rfl⟩
theorem D_X7_lent_12 : qd cX7_lent 12 (.iload_n 1) 1 13 := ⟨by decide +kernel, rfl⟩
theorem D_X7_lent_13 : qd cX7_lent 13 (.invokevirtual 183) 3 16 := ⟨by decide +kernel, rfl⟩
theorem D_X7_lent_16 : qj cX7_lent 16 (.goto 4) (4) 19 20 := ⟨by decide +kernel, rfl, by decide⟩
theorem D_X7_lent_19 : qd cX7_lent 19 (.iload_n 1) 1 20 := ⟨by decide +kernel, rfl⟩
theorem D_X7_lent_20 : qd cX7_lent 20 (.ireturn) 1 21 := ⟨by decide +kernel, rfl⟩
theorem D_X7_lessOf_0 : qd cX7_lessOf 0 (.iload_n 1) 1 1 := ⟨by decide +kernel, rfl⟩
theorem D_X7_lessOf_1 : qj cX7_lessOf 1 (.ifCond .ne 7) (7) 4 8 := ⟨by decide +kernel, rfl, by decide⟩
theorem D_X7_lessOf_4 : qd cX7_lessOf 4 (.iconst 0) 1 5 := ⟨by decide +kernel, rfl⟩
theorem D_X7_lessOf_5 : qj cX7_lessOf 5 (.goto 15) (15) 8 20 := ⟨by decide +kernel, rfl, by decide⟩
theorem D_X7_lessOf_8 : qd cX7_lessOf 8 (.iload_n 1) 1 9 := ⟨by decide +kernel, rfl⟩
theorem D_X7_lessOf_9 : qd cX7_lessOf 9 (.iload_n 1) 1 10 := ⟨by decide +kernel, rfl⟩
theorem D_X7_lessOf_10 : qd cX7_lessOf 10 (.aload_n 0) 1 11 := ⟨by decide +kernel, rfl⟩
theorem D_X7_lessOf_11 : qd cX7_lessOf 11 (.getfield 19) 3 14 := ⟨by decide +kernel, rfl⟩
theorem D_X7_lessOf_14 : qd cX7_lessOf 14 (.iconst 2) 1 15 := ⟨by decide +kernel, rfl⟩
theorem D_X7_lessOf_15 : qd cX7_lessOf 15 (.iaload) 1 16 := ⟨by decide +kernel, rfl⟩
theorem D_X7_lessOf_16 : qd cX7_lessOf 16 (.idiv) 1 17 := ⟨by decide +kernel, rfl⟩
theorem D_X7_lessOf_17 : qd cX7_lessOf 17 (.isub) 1 18 := ⟨by decide +kernel, rfl⟩
theorem D_X7_lessOf_18 : qd cX7_lessOf 18 (.iconst 1) 1 19 := ⟨by decide +kernel, rfl⟩
theorem D_X7_lessOf_19 : qd cX7_lessOf 19 (.isub) 1 20 := ⟨by decide +kernel, rfl⟩
theorem D_X7_lessOf_20 : qd cX7_lessOf 20 (.ireturn) 1 21 := ⟨by decide +kernel, rfl⟩
theorem D_X7_markOf_0 : qd cX7_markOf 0 (.aload_n 0) 1 1 := ⟨by decide +kernel, rfl⟩
theorem D_X7_markOf_1 : qd cX7_markOf 1 (.getfield 19) 3 4 := ⟨by decide +kernel, rfl⟩
theorem D_X7_markOf_4 : qd cX7_markOf 4 (.bipush 6) 2 6 := ⟨by decide +kernel, rfl⟩
theorem D_X7_markOf_6 : qd cX7_markOf 6 (.iload_n 1) 1 7 := ⟨by decide +kernel, rfl⟩
theorem D_X7_markOf_7 : qd cX7_markOf 7 (.iadd) 1 8 := ⟨by decide +kernel, rfl⟩
theorem D_X7_markOf_8 : qd cX7_markOf 8 (.iaload) 1 9 := ⟨by decide +kernel, rfl⟩
theorem D_X7_markOf_9 : qd cX7_markOf 9 (.istore_n 2) 1 10 := ⟨by decide +kernel, rfl⟩
theorem D_X7_markOf_10 : qd cX7_markOf 10 (.iload_n 2) 1 11 := ⟨by decide +kernel, rfl⟩
theorem D_X7_markOf_11 : qd cX7_markOf 11 (.iconst 2) 1 12 := ⟨by decide +kernel, rfl⟩
theorem D_X7_markOf_12 : qj cX7_markOf 12 (.if_icmp .ne 17) (17) 15 29 := ⟨by decide +kernel, rfl, by decide⟩
theorem D_X7_markOf_15 : qd cX7_markOf 15 (.aload_n 0) 1 16 := ⟨by decide +kernel, rfl⟩
theorem D_X7_markOf_16 : qd cX7_markOf 16 (.bipush 24) 2 18 := ⟨by decide +kernel, rfl⟩
theorem D_X7_markOf_18 : qd cX7_markOf 18 (.invokevirtual 251) 3 21 := ⟨by decide +kernel, rfl⟩
theorem D_X7_markOf_21 : qd cX7_markOf 21 (.iconst 2) 1 22 := ⟨by decide +kernel, rfl⟩
theorem D_X7_markOf_22 : qd cX7_markOf 22 (.aload_n 0) 1 23 := ⟨by decide +kernel, rfl⟩
theorem D_X7_markOf_23 : qd cX7_markOf 23 (.iload_n 1) 1 24 := ⟨by decide +kernel, rfl⟩
theorem D_X7_markOf_24 : qd cX7_markOf 24 (.invokevirtual 260) 3 27 := ⟨by decide +kernel, rfl⟩
theorem D_X7_markOf_27 : qd cX7_markOf 27 (.imul) 1 28 := ⟨by decide +kernel, rfl⟩
theorem D_X7_markOf_28 : qd cX7_markOf 28 (.ireturn) 1 29 := ⟨by decide +kernel, rfl⟩
theorem D_X7_markOf_29 : qd cX7_markOf 29 (.iload_n 2) 1 30 := ⟨by decide +kernel, rfl⟩
theorem D_X7_markOf_30 : qd cX7_markOf 30 (.iconst 3) 1 31 := ⟨by decide +kernel, rfl⟩
theorem D_X7_markOf_31 : qj cX7_markOf 31 (.if_icmp .ne 19) (19) 34 50 := ⟨by decide +kernel, rfl, by decide⟩
theorem D_X7_markOf_34 : qd cX7_markOf 34 (.aload_n 0) 1 35 := ⟨by decide +kernel, rfl⟩
theorem D_X7_markOf_35 : qd cX7_markOf 35 (.bipush 22) 2 37 := ⟨by decide +kernel, rfl⟩
theorem D_X7_markOf_37 : qd cX7_markOf 37 (.invokevirtual 251) 3 40 := ⟨by decide +kernel, rfl⟩
theorem D_X7_markOf_40 : qd cX7_markOf 40 (.aload_n 0) 1 41 := ⟨by decide +kernel, rfl⟩
theorem D_X7_markOf_41 : qd cX7_markOf 41 (.iload_n 1) 1 42 := ⟨by decide +kernel, rfl⟩
theorem D_X7_markOf_42 : qd cX7_markOf 42 (.invokevirtual 260) 3 45 := ⟨by decide +kernel, rfl⟩
theorem D_X7_markOf_45 : qd cX7_markOf 45 (.sipush 1000) 3 48 := ⟨by decide +kernel, rfl⟩
theorem D_X7_markOf_48 : qd cX7_markOf 48 (.isub) 1 49 := ⟨by decide +kernel, rfl⟩
theorem D_X7_markOf_49 : qd cX7_markOf 49 (.ireturn) 1 50 := ⟨by decide +kernel, rfl⟩
theorem D_X7_markOf_50 : qd cX7_markOf 50 (.iload_n 2) 1 51 := ⟨by decide +kernel, rfl⟩
theorem D_X7_markOf_51 : qd cX7_markOf 51 (.iconst 1) 1 52 := ⟨by decide +kernel, rfl⟩
theorem D_X7_markOf_52 : qj cX7_markOf 52 (.if_icmp .ne 9) (9) 55 61 := ⟨by decide +kernel, rfl, by decide⟩
theorem D_X7_markOf_55 : qd cX7_markOf 55 (.aload_n 0) 1 56 := ⟨by decide +kernel, rfl⟩
theorem D_X7_markOf_56 : qd cX7_markOf 56 (.iload_n 1) 1 57 := ⟨by decide +kernel, rfl⟩
theorem D_X7_markOf_57 : qd cX7_markOf 57 (.invokevirtual 260) 3 60 := ⟨by decide +kernel, rfl⟩
theorem D_X7_markOf_60 : qd cX7_markOf 60 (.ireturn) 1 61 := ⟨by decide +kernel, rfl⟩
theorem D_X7_markOf_61 : qd cX7_markOf 61 (.aload_n 0) 1 62 := ⟨by decide +kernel, rfl⟩
theorem D_X7_markOf_62 : qd cX7_markOf 62 (.bipush 23) 2 64 := ⟨by decide +kernel, rfl⟩
theorem D_X7_markOf_64 : qd cX7_markOf 64 (.invokevirtual 251) 3 67 := ⟨by decide +kernel, rfl⟩
theorem D_X7_markOf_67 : qd cX7_markOf 67 (.aload_n 0) 1 68 := ⟨by decide +kernel, rfl⟩
theorem D_X7_markOf_68 : qd cX7_markOf 68 (.iload_n 1) 1 69 := ⟨by decide +kernel, rfl⟩
theorem D_X7_markOf_69 : qd cX7_markOf 69 (.bipush 20) 2 71 := ⟨by decide +kernel, rfl⟩
theorem D_X7_markOf_71 : qd cX7_markOf 71 (.invokevirtual 254) 3 74 := ⟨by decide +kernel, rfl⟩
theorem D_X7_markOf_74 : qd cX7_markOf 74 (.istore_n 3) 1 75 := ⟨by decide +kernel, rfl⟩
theorem D_X7_markOf_75 : qd cX7_markOf 75 (.iload_n 3) 1 76 := ⟨by decide +kernel, rfl⟩
theorem D_X7_markOf_76 : qd cX7_markOf 76 (.aload_n 0) 1 77 := ⟨by decide +kernel, rfl⟩
theorem D_X7_markOf_77 : qd cX7_markOf 77 (.iload_n 1) 1 78 := ⟨by decide +kernel, rfl⟩
theorem D_X7_markOf_78 : qd cX7_markOf 78 (.invokevirtual 263) 3 81 := ⟨by decide +kernel, rfl⟩
theorem D_X7_markOf_81 : qd cX7_markOf 81 (.isub) 1 82 := ⟨by decide +kernel, rfl⟩
theorem D_X7_markOf_82 : qd cX7_markOf 82 (.ireturn) 1 83 := ⟨by decide +kernel, rfl⟩
theorem D_X7_memory_0 : qd cX7_memory 0 (.aload_n 0) 1 1 := ⟨by decide +kernel, rfl⟩
theorem D_X7_memory_1 : qd cX7_memory 1 (.iload_n 1) 1 2 := ⟨by decide +kernel, rfl⟩
theorem D_X7_memory_2 : qd cX7_memory 2 (.invokevirtual 171) 3 5 := ⟨by decide +kernel, rfl⟩
theorem D_X7_memory_5 : qj cX7_memory 5 (.ifCond .eq 20) (20) 8 25 := ⟨by decide +kernel, rfl, by decide⟩
theorem D_X7_memory_8 : qd cX7_memory 8 (.aload_n 0) 1 9 := ⟨by decide +kernel, rfl⟩
theorem D_X7_memory_9 : qd cX7_memory 9 (.iload_n 2) 1 10 := ⟨by decide +kernel, rfl⟩
theorem D_X7_memory_10 : qd cX7_memory 10 (.invokevirtual 180) 3 13 := ⟨by decide +kernel, rfl⟩
theorem D_X7_memory_13 : qj cX7_memory 13 (.ifCond .eq 12) (12) 16 25 := ⟨by decide +kernel, rfl, by decide⟩
theorem D_X7_memory_16 : qd cX7_memory 16 (.aload_n 0) 1 17 := ⟨by decide +kernel, rfl⟩
theorem D_X7_memory_17 : qd cX7_memory 17 (.iload_n 1) 1 18 := ⟨by decide +kernel, rfl⟩
theorem D_X7_memory_18 : qd cX7_memory 18 (.iload_n 2) 1 19 := ⟨by decide +kernel, rfl⟩
theorem D_X7_memory_19 : qd cX7_memory 19 (.invokevirtual 146) 3 22 := ⟨by decide +kernel, rfl⟩
theorem D_X7_memory_22 : qj cX7_memory 22 (.goto 5) (5) 25 27 := ⟨by decide +kernel, rfl, by decide⟩
theorem D_X7_memory_25 : qd cX7_memory 25 (.ldc 67) 2 27 := ⟨by decide +kernel, rfl⟩
theorem D_X7_memory_27 : qd cX7_memory 27 (.ireturn) 1 28 := ⟨by decide +kernel, rfl⟩
theorem D_X7_memoryBy_0 : qd cX7_memoryBy 0 (.iconst 0) 1 1 := ⟨by decide +kernel, rfl⟩
theorem D_X7_memoryBy_1 : qd cX7_memoryBy 1 (.istore_n 2) 1 2 := ⟨by decide +kernel, rfl⟩
theorem D_X7_memoryBy_2 : qd cX7_memoryBy 2 (.iconst 0) 1 3 := ⟨by decide +kernel, rfl⟩
theorem D_X7_memoryBy_3 : qd cX7_memoryBy 3 (.istore_n 3) 1 4 := ⟨by decide +kernel, rfl⟩
theorem D_X7_memoryBy_4 : qd cX7_memoryBy 4 (.iload_n 3) 1 5 := ⟨by decide +kernel, rfl⟩
theorem D_X7_memoryBy_5 : qd cX7_memoryBy 5 (.aload_n 0) 1 6 := ⟨by decide +kernel, rfl⟩
theorem D_X7_memoryBy_6 : qd cX7_memoryBy 6 (.getfield 19) 3 9 := ⟨by decide +kernel, rfl⟩
theorem D_X7_memoryBy_9 : qd cX7_memoryBy 9 (.iconst 0) 1 10 := ⟨by decide +kernel, rfl⟩
theorem D_X7_memoryBy_10 : qd cX7_memoryBy 10 (.iaload) 1 11 := ⟨by decide +kernel, rfl⟩
theorem D_X7_memoryBy_11 : qj cX7_memoryBy 11 (.if_icmp .ge 18) (18) 14 29 := ⟨by decide +kernel, rfl, by decide⟩
theorem D_X7_memoryBy_14 : qd cX7_memoryBy 14 (.iload_n 2) 1 15 := ⟨by decide +kernel, rfl⟩
theorem D_X7_memoryBy_15 : qd cX7_memoryBy 15 (.aload_n 0) 1 16 := ⟨by decide +kernel, rfl⟩
theorem D_X7_memoryBy_16 : qd cX7_memoryBy 16 (.iload_n 1) 1 17 := ⟨by decide +kernel, rfl⟩
theorem D_X7_memoryBy_17 : qd cX7_memoryBy 17 (.iload_n 3) 1 18 := ⟨by decide +kernel, rfl⟩
theorem D_X7_memoryBy_18 : qd cX7_memoryBy 18 (.invokevirtual 146) 3 21 := ⟨by decide +kernel, rfl⟩
theorem D_X7_memoryBy_21 : qd cX7_memoryBy 21 (.iadd) 1 22 := ⟨by decide +kernel, rfl⟩
theorem D_X7_memoryBy_22 : qd cX7_memoryBy 22 (.istore_n 2) 1 23 := ⟨by decide +kernel, rfl⟩
theorem D_X7_memoryBy_23 : qd cX7_memoryBy 23 (.iinc 3 1) 3 26 := ⟨by decide +kernel, rfl⟩
theorem D_X7_memoryBy_26 : qj cX7_memoryBy 26 (.goto (-22)) (-22) 29 4 := ⟨by decide +kernel, rfl, by decide⟩
theorem D_X7_memoryBy_29 : qd cX7_memoryBy 29 (.iload_n 2) 1 30 := ⟨by decide +kernel, rfl⟩
theorem D_X7_memoryBy_30 : qd cX7_memoryBy 30 (.ireturn) 1 31 := ⟨by decide +kernel, rfl⟩
theorem D_X7_memoryOf_0 : qd cX7_memoryOf 0 (.aload_n 0) 1 1 := ⟨by decide +kernel, rfl⟩
theorem D_X7_memoryOf_1 : qd cX7_memoryOf 1 (.getfield 19) 3 4 := ⟨by decide +kernel, rfl⟩
theorem D_X7_memoryOf_4 : qd cX7_memoryOf 4 (.bipush 21) 2 6 := ⟨by decide +kernel, rfl⟩
theorem D_X7_memoryOf_6 : qd cX7_memoryOf 6 (.bipush 6) 2 8 := ⟨by decide +kernel, rfl⟩
theorem D_X7_memoryOf_8 : qd cX7_memoryOf 8 (.iload_n 1) 1 9 := ⟨by decide +kernel, rfl⟩
theorem D_X7_memoryOf_9 : qd cX7_memoryOf 9 (.imul) 1 10 := ⟨by decide +kernel, rfl⟩
theorem D_X7_memoryOf_10 : qd cX7_memoryOf 10 (.iadd) 1 11 := ⟨by decide +kernel, rfl⟩
theorem D_X7_memoryOf_11 : qd cX7_memoryOf 11 (.iload_n 2) 1 12 := ⟨by decide +kernel, rfl⟩
theorem D_X7_memoryOf_12 : qd cX7_memoryOf 12 (.iadd) 1 13 := ⟨by decide +kernel, rfl⟩
theorem D_X7_memoryOf_13 : qd cX7_memoryOf 13 (.iaload) 1 14 := ⟨by decide +kernel, rfl⟩
theorem D_X7_memoryOf_14 : qd cX7_memoryOf 14 (.ireturn) 1 15 := ⟨by decide +kernel, rfl⟩
theorem D_X7_most_0 : qd cX7_most 0 (.aload_n 0) 1 1 := ⟨by decide +kernel, rfl⟩
theorem D_X7_most_1 : qd cX7_most 1 (.iload_n 1) 1 2 := ⟨by decide +kernel, rfl⟩
theorem D_X7_most_2 : qd cX7_most 2 (.invokevirtual 171) 3 5 := ⟨by decide +kernel, rfl⟩
theorem D_X7_most_5 : qj cX7_most 5 (.ifCond .eq 13) (13) 8 18 := ⟨by decide +kernel, rfl, by decide⟩
theorem D_X7_most_8 : qd cX7_most 8 (.iload_n 2) 1 9 := ⟨by decide +kernel, rfl⟩
theorem D_X7_most_9 : qd cX7_most 9 (.i2l) 1 10 := ⟨by decide +kernel, rfl⟩
theorem D_X7_most_10 : qd cX7_most 10 (.lconst 0) 1 11 := ⟨by decide +kernel, rfl⟩
theorem D_X7_most_11 : qd cX7_most 11 (.lconst 1) 1 12 := ⟨by decide +kernel, rfl⟩
theorem D_X7_most_12 : qd cX7_most 12 (.invokestatic 57) 3 15 := ⟨by decide +kernel, rfl⟩
theorem D_X7_most_15 : qj cX7_most 15 (.ifCond .ne 6) (6) 18 21 := ⟨by decide +kernel, rfl, by decide⟩
theorem D_X7_most_18 : qd cX7_most 18 (.ldc 67) 2 20 := ⟨by decide +kernel, rfl⟩
theorem D_X7_most_20 : qd cX7_most 20 (.ireturn) 1 21 := ⟨by decide +kernel, rfl⟩
theorem D_X7_most_21 : qd cX7_most 21 (.iconst 0) 1 22 := ⟨by decide +kernel, rfl⟩
theorem D_X7_most_22 : qd cX7_most 22 (.istore_n 3) 1 23 := ⟨by decide +kernel, rfl⟩
theorem D_X7_most_23 : qd cX7_most 23 (.iconst 1) 1 24 := ⟨by decide +kernel, rfl⟩
theorem D_X7_most_24 : qd cX7_most 24 (.istore 4) 2 26 := ⟨by decide +kernel, rfl⟩
theorem D_X7_most_26 : qd cX7_most 26 (.iload 4) 2 28 := ⟨by decide +kernel, rfl⟩
theorem D_X7_most_28 : qd cX7_most 28 (.aload_n 0) 1 29 := ⟨by decide +kernel, rfl⟩
theorem D_X7_most_29 : qd cX7_most 29 (.getfield 19) 3 32 := ⟨by decide +kernel, rfl⟩
theorem D_X7_most_32 : qd cX7_most 32 (.iconst 0) 1 33 := ⟨by decide +kernel, rfl⟩
theorem D_X7_most_33 : qd cX7_most 33 (.iaload) 1 34 := ⟨by decide +kernel, rfl⟩
theorem D_X7_most_34 : qj cX7_most 34 (.if_icmp .ge 32) (32) 37 66 := ⟨by decide +kernel, rfl, by decide⟩
theorem D_X7_most_37 : qd cX7_most 37 (.aload_n 0) 1 38 := ⟨by decide +kernel, rfl⟩
theorem D_X7_most_38 : qd cX7_most 38 (.iload_n 1) 1 39 := ⟨by decide +kernel, rfl⟩
theorem D_X7_most_39 : qd cX7_most 39 (.iload 4) 2 41 := ⟨by decide +kernel, rfl⟩
theorem D_X7_most_41 : qd cX7_most 41 (.invokevirtual 146) 3 44 := ⟨by decide +kernel, rfl⟩
theorem D_X7_most_44 : qd cX7_most 44 (.aload_n 0) 1 45 := ⟨by decide +kernel, rfl⟩
theorem D_X7_most_45 : qd cX7_most 45 (.iload_n 1) 1 46 := ⟨by decide +kernel, rfl⟩
theorem D_X7_most_46 : qd cX7_most 46 (.iload_n 3) 1 47 := ⟨by decide +kernel, rfl⟩
theorem D_X7_most_47 : qd cX7_most 47 (.invokevirtual 146) 3 50 := ⟨by decide +kernel, rfl⟩
theorem D_X7_most_50 : qj cX7_most 50 (.if_icmp .le 8) (8) 53 58 := ⟨by decide +kernel, rfl, by decide⟩
theorem D_X7_most_53 : qd cX7_most 53 (.iload 4) 2 55 := ⟨by decide +kernel, rfl⟩
theorem D_X7_most_55 : qj cX7_most 55 (.goto 4) (4) 58 59 := ⟨by decide +kernel, rfl, by decide⟩
theorem D_X7_most_58 : qd cX7_most 58 (.iload_n 3) 1 59 := ⟨by decide +kernel, rfl⟩
theorem D_X7_most_59 : qd cX7_most 59 (.istore_n 3) 1 60 := ⟨by decide +kernel, rfl⟩
theorem D_X7_most_60 : qd cX7_most 60 (.iinc 4 1) 3 63 := ⟨by decide +kernel, rfl⟩
theorem D_X7_most_63 : qj cX7_most 63 (.goto (-37)) (-37) 66 26 := ⟨by decide +kernel, rfl, by decide⟩
theorem D_X7_most_66 : qd cX7_most 66 (.iload_n 2) 1 67 := ⟨by decide +kernel, rfl⟩
theorem D_X7_most_67 : qj cX7_most 67 (.ifCond .ne 7) (7) 70 74 := ⟨by decide +kernel, rfl, by decide⟩
theorem D_X7_most_70 : qd cX7_most 70 (.iload_n 3) 1 71 := ⟨by decide +kernel, rfl⟩
theorem D_X7_most_71 : qj cX7_most 71 (.goto 9) (9) 74 80 := ⟨by decide +kernel, rfl, by decide⟩
theorem D_X7_most_74 : qd cX7_most 74 (.aload_n 0) 1 75 := ⟨by decide +kernel, rfl⟩
theorem D_X7_most_75 : qd cX7_most 75 (.iload_n 1) 1 76 := ⟨by decide +kernel, rfl⟩
theorem D_X7_most_76 : qd cX7_most 76 (.iload_n 3) 1 77 := ⟨by decide +kernel, rfl⟩
theorem D_X7_most_77 : qd cX7_most 77 (.invokevirtual 146) 3 80 := ⟨by decide +kernel, rfl⟩
theorem D_X7_most_80 : qd cX7_most 80 (.ireturn) 1 81 := ⟨by decide +kernel, rfl⟩
theorem D_X7_mostOf_0 : qd cX7_mostOf 0 (.iconst (-1)) 1 1 := ⟨by decide +kernel, rfl⟩
theorem D_X7_mostOf_1 : qd cX7_mostOf 1 (.istore_n 3) 1 2 := ⟨by decide +kernel, rfl⟩
theorem D_X7_mostOf_2 : qd cX7_mostOf 2 (.iconst 0) 1 3 := ⟨by decide +kernel, rfl⟩
theorem D_X7_mostOf_3 : qd cX7_mostOf 3 (.istore 4) 2 5 := ⟨by decide +kernel, rfl⟩
theorem D_X7_mostOf_5 : qd cX7_mostOf 5 (.iload 4) 2 7 := ⟨by decide +kernel, rfl⟩
theorem D_X7_mostOf_7 : qd cX7_mostOf 7 (.aload_n 0) 1 8 := ⟨by decide +kernel, rfl⟩
theorem D_X7_mostOf_8 : qd cX7_mostOf 8 (.getfield 19) 3 11 := ⟨by decide +kernel, rfl⟩
theorem D_X7_mostOf_11 : qd cX7_mostOf 11 (.iconst 0) 1 12 := ⟨by decide +kernel, rfl⟩
theorem D_X7_mostOf_12 : qd cX7_mostOf 12 (.iaload) 1 13 := ⟨by decide +kernel, rfl⟩
theorem D_X7_mostOf_13 : qj cX7_mostOf 13 (.if_icmp .ge 73) (73) 16 86 := ⟨by decide +kernel, rfl, by decide⟩
theorem D_X7_mostOf_16 : qd cX7_mostOf 16 (.iload_n 2) 1 17 := ⟨by decide +kernel, rfl⟩
theorem D_X7_mostOf_17 : qd cX7_mostOf 17 (.iload 4) 2 19 := ⟨by decide +kernel, rfl⟩
theorem D_X7_mostOf_19 : qd cX7_mostOf 19 (.invokestatic 142) 3 22 := ⟨by decide +kernel, rfl⟩
theorem D_X7_mostOf_22 : qj cX7_mostOf 22 (.ifCond .eq 23) (23) 25 45 := ⟨by decide +kernel, rfl, by decide⟩
theorem D_X7_mostOf_25 : qd cX7_mostOf 25 (.aload_n 0) 1 26 := ⟨by decide +kernel, rfl⟩
theorem D_X7_mostOf_26 : qd cX7_mostOf 26 (.iload_n 1) 1 27 := ⟨by decide +kernel, rfl⟩
theorem D_X7_mostOf_27 : qd cX7_mostOf 27 (.iload 4) 2 29 := ⟨by decide +kernel, rfl⟩
theorem D_X7_mostOf_29 : qd cX7_mostOf 29 (.invokevirtual 146) 3 32 := ⟨by decide +kernel, rfl⟩
theorem D_X7_mostOf_32 : qd cX7_mostOf 32 (.aload_n 0) 1 33 := ⟨by decide +kernel, rfl⟩
theorem D_X7_mostOf_33 : qd cX7_mostOf 33 (.getfield 19) 3 36 := ⟨by decide +kernel, rfl⟩
theorem D_X7_mostOf_36 : qd cX7_mostOf 36 (.iconst 1) 1 37 := ⟨by decide +kernel, rfl⟩
theorem D_X7_mostOf_37 : qd cX7_mostOf 37 (.iaload) 1 38 := ⟨by decide +kernel, rfl⟩
theorem D_X7_mostOf_38 : qj cX7_mostOf 38 (.if_icmp .lt 7) (7) 41 45 := ⟨by decide +kernel, rfl, by decide⟩
theorem D_X7_mostOf_41 : qd cX7_mostOf 41 (.iconst 1) 1 42 := ⟨by decide +kernel, rfl⟩
theorem D_X7_mostOf_42 : qj cX7_mostOf 42 (.goto 4) (4) 45 46 := ⟨by decide +kernel, rfl, by decide⟩
theorem D_X7_mostOf_45 : qd cX7_mostOf 45 (.iconst 0) 1 46 := ⟨by decide +kernel, rfl⟩
theorem D_X7_mostOf_46 : qd cX7_mostOf 46 (.istore 5) 2 48 := ⟨by decide +kernel, rfl⟩
theorem D_X7_mostOf_48 : qd cX7_mostOf 48 (.iload 5) 2 50 := ⟨by decide +kernel, rfl⟩
theorem D_X7_mostOf_50 : qj cX7_mostOf 50 (.ifCond .eq 28) (28) 53 78 := ⟨by decide +kernel, rfl, by decide⟩
theorem D_X7_mostOf_53 : qd cX7_mostOf 53 (.iload_n 3) 1 54 := ⟨by decide +kernel, rfl⟩
theorem D_X7_mostOf_54 : qj cX7_mostOf 54 (.ifCond .lt 19) (19) 57 73 := ⟨by decide +kernel, rfl, by decide⟩
theorem D_X7_mostOf_57 : qd cX7_mostOf 57 (.aload_n 0) 1 58 := ⟨by decide +kernel, rfl⟩
theorem D_X7_mostOf_58 : qd cX7_mostOf 58 (.iload_n 1) 1 59 := ⟨by decide +kernel, rfl⟩
theorem D_X7_mostOf_59 : qd cX7_mostOf 59 (.iload 4) 2 61 := ⟨by decide +kernel, rfl⟩
theorem D_X7_mostOf_61 : qd cX7_mostOf 61 (.invokevirtual 146) 3 64 := ⟨by decide +kernel, rfl⟩
theorem D_X7_mostOf_64 : qd cX7_mostOf 64 (.aload_n 0) 1 65 := ⟨by decide +kernel, rfl⟩
theorem D_X7_mostOf_65 : qd cX7_mostOf 65 (.iload_n 1) 1 66 := ⟨by decide +kernel, rfl⟩
theorem D_X7_mostOf_66 : qd cX7_mostOf 66 (.iload_n 3) 1 67 := ⟨by decide +kernel, rfl⟩
theorem D_X7_mostOf_67 : qd cX7_mostOf 67 (.invokevirtual 146) 3 70 := ⟨by decide +kernel, rfl⟩
theorem D_X7_mostOf_70 : qj cX7_mostOf 70 (.if_icmp .le 8) (8) 73 78 := ⟨by decide +kernel, rfl, by decide⟩
theorem D_X7_mostOf_73 : qd cX7_mostOf 73 (.iload 4) 2 75 := ⟨by decide +kernel, rfl⟩
theorem D_X7_mostOf_75 : qj cX7_mostOf 75 (.goto 4) (4) 78 79 := ⟨by decide +kernel, rfl, by decide⟩
theorem D_X7_mostOf_78 : qd cX7_mostOf 78 (.iload_n 3) 1 79 := ⟨by decide +kernel, rfl⟩
theorem D_X7_mostOf_79 : qd cX7_mostOf 79 (.istore_n 3) 1 80 := ⟨by decide +kernel, rfl⟩
theorem D_X7_mostOf_80 : qd cX7_mostOf 80 (.iinc 4 1) 3 83 := ⟨by decide +kernel, rfl⟩
theorem D_X7_mostOf_83 : qj cX7_mostOf 83 (.goto (-78)) (-78) 86 5 := ⟨by decide +kernel, rfl, by decide⟩
theorem D_X7_mostOf_86 : qd cX7_mostOf 86 (.iload_n 3) 1 87 := ⟨by decide +kernel, rfl⟩
theorem D_X7_mostOf_87 : qd cX7_mostOf 87 (.ireturn) 1 88 := ⟨by decide +kernel, rfl⟩
theorem D_X7_needsSupper_0 : qd cX7_needsSupper 0 (.iconst 0) 1 1 := ⟨by decide +kernel, rfl⟩
theorem D_X7_needsSupper_1 : qd cX7_needsSupper 1 (.istore_n 2) 1 2 := ⟨by decide +kernel, rfl⟩
theorem D_X7_needsSupper_2 : qd cX7_needsSupper 2 (.iconst 0) 1 3 := ⟨by decide +kernel, rfl⟩
theorem D_X7_needsSupper_3 : qd cX7_needsSupper 3 (.istore_n 3) 1 4 := ⟨by decide +kernel, rfl⟩
theorem D_X7_needsSupper_4 : qd cX7_needsSupper 4 (.iconst 0) 1 5 := ⟨by decide +kernel, rfl⟩
theorem D_X7_needsSupper_5 : qd cX7_needsSupper 5 (.istore 4) 2 7 := ⟨by decide +kernel, rfl⟩
theorem D_X7_needsSupper_7 : qd cX7_needsSupper 7 (.iload 4) 2 9 := ⟨by decide +kernel, rfl⟩
theorem D_X7_needsSupper_9 : qd cX7_needsSupper 9 (.aload_n 0) 1 10 := ⟨by decide +kernel, rfl⟩
theorem D_X7_needsSupper_10 : qd cX7_needsSupper 10 (.getfield 19) 3 13 := ⟨by decide +kernel, rfl⟩
theorem D_X7_needsSupper_13 : qd cX7_needsSupper 13 (.iconst 0) 1 14 := ⟨by decide +kernel, rfl⟩
theorem D_X7_needsSupper_14 : qd cX7_needsSupper 14 (.iaload) 1 15 := ⟨by decide +kernel, rfl⟩
theorem D_X7_needsSupper_15 : qj cX7_needsSupper 15 (.if_icmp .ge 82) (82) 18 97 := ⟨by decide +kernel, rfl, by decide⟩
theorem D_X7_needsSupper_18 : qd cX7_needsSupper 18 (.aload_n 0) 1 19 := ⟨by decide +kernel, rfl⟩
theorem D_X7_needsSupper_19 : qd cX7_needsSupper 19 (.getfield 19) 3 22 := ⟨by decide +kernel, rfl⟩
theorem D_X7_needsSupper_22 : qd cX7_needsSupper 22 (.iconst 5) 1 23 := ⟨by decide +kernel, rfl⟩
theorem D_X7_needsSupper_23 : qd cX7_needsSupper 23 (.iaload) 1 24 := ⟨by decide +kernel, rfl⟩
theorem D_X7_needsSupper_24 : qd cX7_needsSupper 24 (.iload 4) 2 26 := ⟨by decide +kernel, rfl⟩
theorem D_X7_needsSupper_26 : qd cX7_needsSupper 26 (.invokestatic 142) 3 29 := ⟨by decide +kernel, rfl⟩
theorem D_X7_needsSupper_29 : qj cX7_needsSupper 29 (.ifCond .eq 13) (13) 32 42 := ⟨by decide +kernel, rfl, by decide⟩
theorem D_X7_needsSupper_32 : qd cX7_needsSupper 32 (.aload_n 0) 1 33 := ⟨by decide +kernel, rfl⟩
theorem D_X7_needsSupper_33 : qd cX7_needsSupper 33 (.iload_n 1) 1 34 := ⟨by decide +kernel, rfl⟩
theorem D_X7_needsSupper_34 : qd cX7_needsSupper 34 (.iload 4) 2 36 := ⟨by decide +kernel, rfl⟩
theorem D_X7_needsSupper_36 : qd cX7_needsSupper 36 (.invokevirtual 146) 3 39 := ⟨by decide +kernel, rfl⟩
theorem D_X7_needsSupper_39 : qj cX7_needsSupper 39 (.goto 4) (4) 42 43 := ⟨by decide +kernel, rfl, by decide⟩
theorem D_X7_needsSupper_42 : qd cX7_needsSupper 42 (.iconst 0) 1 43 := ⟨by decide +kernel, rfl⟩
theorem D_X7_needsSupper_43 : qd cX7_needsSupper 43 (.istore 5) 2 45 := ⟨by decide +kernel, rfl⟩
theorem D_X7_needsSupper_45 : qd cX7_needsSupper 45 (.iload_n 2) 1 46 := ⟨by decide +kernel, rfl⟩
theorem D_X7_needsSupper_46 : qj cX7_needsSupper 46 (.ifCond .ne 14) (14) 49 60 := ⟨by decide +kernel, rfl, by decide⟩
theorem D_X7_needsSupper_49 : qd cX7_needsSupper 49 (.iload 5) 2 51 := ⟨by decide +kernel, rfl⟩
theorem D_X7_needsSupper_51 : qd cX7_needsSupper 51 (.aload_n 0) 1 52 := ⟨by decide +kernel, rfl⟩
theorem D_X7_needsSupper_52 : qd cX7_needsSupper 52 (.getfield 19) 3 55 := ⟨by decide +kernel, rfl⟩
theorem D_X7_needsSupper_55 : qd cX7_needsSupper 55 (.iconst 1) 1 56 := ⟨by decide +kernel, rfl⟩
theorem D_X7_needsSupper_56 : qd cX7_needsSupper 56 (.iaload) 1 57 := ⟨by decide +kernel, rfl⟩
theorem D_X7_needsSupper_57 : qj cX7_needsSupper 57 (.if_icmp .lt 7) (7) 60 64 := ⟨by decide +kernel, rfl, by decide⟩
theorem D_X7_needsSupper_60 : qd cX7_needsSupper 60 (.iconst 1) 1 61 := ⟨by decide +kernel, rfl⟩
theorem D_X7_needsSupper_61 : qj cX7_needsSupper 61 (.goto 4) (4) 64 65 := ⟨by decide +kernel, rfl, by decide⟩
theorem D_X7_needsSupper_64 : qd cX7_needsSupper 64 (.iconst 0) 1 65 := ⟨by decide +kernel, rfl⟩
theorem D_X7_needsSupper_65 : qd cX7_needsSupper 65 (.istore_n 2) 1 66 := ⟨by decide +kernel, rfl⟩
theorem D_X7_needsSupper_66 : qd cX7_needsSupper 66 (.iload_n 3) 1 67 := ⟨by decide +kernel, rfl⟩
theorem D_X7_needsSupper_67 : qj cX7_needsSupper 67 (.ifCond .ne 18) (18) 70 85 := ⟨by decide +kernel, rfl, by decide⟩
theorem D_X7_needsSupper_70 : qd cX7_needsSupper 70 (.aload_n 0) 1 71 := ⟨by decide +kernel, rfl⟩
theorem D_X7_needsSupper_71 : qd cX7_needsSupper 71 (.iload 5) 2 73 := ⟨by decide +kernel, rfl⟩
theorem D_X7_needsSupper_73 : qd cX7_needsSupper 73 (.invokevirtual 159) 3 76 := ⟨by decide +kernel, rfl⟩
theorem D_X7_needsSupper_76 : qd cX7_needsSupper 76 (.aload_n 0) 1 77 := ⟨by decide +kernel, rfl⟩
theorem D_X7_needsSupper_77 : qd cX7_needsSupper 77 (.getfield 19) 3 80 := ⟨by decide +kernel, rfl⟩
theorem D_X7_needsSupper_80 : qd cX7_needsSupper 80 (.iconst 1) 1 81 := ⟨by decide +kernel, rfl⟩
theorem D_X7_needsSupper_81 : qd cX7_needsSupper 81 (.iaload) 1 82 := ⟨by decide +kernel, rfl⟩
theorem D_X7_needsSupper_82 : qj cX7_needsSupper 82 (.if_icmp .lt 7) (7) 85 89 := ⟨by decide +kernel, rfl, by decide⟩
theorem D_X7_needsSupper_85 : qd cX7_needsSupper 85 (.iconst 1) 1 86 := ⟨by decide +kernel, rfl⟩
theorem D_X7_needsSupper_86 : qj cX7_needsSupper 86 (.goto 4) (4) 89 90 := ⟨by decide +kernel, rfl, by decide⟩
theorem D_X7_needsSupper_89 : qd cX7_needsSupper 89 (.iconst 0) 1 90 := ⟨by decide +kernel, rfl⟩
theorem D_X7_needsSupper_90 : qd cX7_needsSupper 90 (.istore_n 3) 1 91 := ⟨by decide +kernel, rfl⟩
theorem D_X7_needsSupper_91 : qd cX7_needsSupper 91 (.iinc 4 1) 3 94 := ⟨by decide +kernel, rfl⟩
theorem D_X7_needsSupper_94 : qj cX7_needsSupper 94 (.goto (-87)) (-87) 97 7 := ⟨by decide +kernel, rfl, by decide⟩
theorem D_X7_needsSupper_97 : qd cX7_needsSupper 97 (.iload_n 2) 1 98 := ⟨by decide +kernel, rfl⟩
theorem D_X7_needsSupper_98 : qj cX7_needsSupper 98 (.ifCond .eq 11) (11) 101 109 := ⟨by decide +kernel, rfl, by decide⟩
theorem D_X7_needsSupper_101 : qd cX7_needsSupper 101 (.iload_n 3) 1 102 := ⟨by decide +kernel, rfl⟩
theorem D_X7_needsSupper_102 : qj cX7_needsSupper 102 (.ifCond .ne 7) (7) 105 109 := ⟨by decide +kernel, rfl, by decide⟩
theorem D_X7_needsSupper_105 : qd cX7_needsSupper 105 (.iconst 1) 1 106 := ⟨by decide +kernel, rfl⟩
theorem D_X7_needsSupper_106 : qj cX7_needsSupper 106 (.goto 4) (4) 109 110 := ⟨by decide +kernel, rfl, by decide⟩
theorem D_X7_needsSupper_109 : qd cX7_needsSupper 109 (.iconst 0) 1 110 := ⟨by decide +kernel, rfl⟩
theorem D_X7_needsSupper_110 : qd cX7_needsSupper 110 (.ireturn) 1 111 := ⟨by decide +kernel, rfl⟩
theorem D_X7_nextToken_0 : qd cX7_nextToken 0 (.aload_n 0) 1 1 := ⟨by decide +kernel, rfl⟩
theorem D_X7_nextToken_1 : qd cX7_nextToken 1 (.aload_n 0) 1 2 := ⟨by decide +kernel, rfl⟩
theorem D_X7_nextToken_2 : qd cX7_nextToken 2 (.getfield 85) 3 5 := ⟨by decide +kernel, rfl⟩
theorem D_X7_nextToken_5 : qd cX7_nextToken 5 (.putfield 88) 3 8 := ⟨by decide +kernel, rfl⟩
theorem D_X7_nextToken_8 : qd cX7_nextToken 8 (.aload_n 0) 1 9 := ⟨by decide +kernel, rfl⟩
theorem D_X7_nextToken_9 : qd cX7_nextToken 9 (.aload_n 0) 1 10 := ⟨by decide +kernel, rfl⟩
theorem D_X7_nextToken_10 : qd cX7_nextToken 10 (.getfield 85) 3 13 := ⟨by decide +kernel, rfl⟩
theorem D_X7_nextToken_13 : qd cX7_nextToken 13 (.aload_n 0) 1 14 := ⟨by decide +kernel, rfl⟩
theorem D_X7_nextToken_14 : qd cX7_nextToken 14 (.getfield 81) 3 17 := ⟨by decide +kernel, rfl⟩
theorem D_X7_nextToken_17 : qj cX7_nextToken 17 (.if_icmp .ne 7) (7) 20 24 := ⟨by decide +kernel, rfl, by decide⟩
theorem D_X7_nextToken_20 : qd cX7_nextToken 20 (.iconst 3) 1 21 := ⟨by decide +kernel, rfl⟩
theorem D_X7_nextToken_21 : qj cX7_nextToken 21 (.goto 4) (4) 24 25 := ⟨by decide +kernel, rfl, by decide⟩
theorem D_X7_nextToken_24 : qd cX7_nextToken 24 (.iconst 0) 1 25 := ⟨by decide +kernel, rfl⟩
theorem D_X7_nextToken_25 : qd cX7_nextToken 25 (.putfield 91) 3 28 := ⟨by decide +kernel, rfl⟩
theorem D_X7_nextToken_28 : qd cX7_nextToken 28 (.aload_n 0) 1 29 := ⟨by decide +kernel, rfl⟩
theorem D_X7_nextToken_29 : qd cX7_nextToken 29 (.iconst 0) 1 30 := ⟨by decide +kernel, rfl⟩
theorem D_X7_nextToken_30 : qd cX7_nextToken 30 (.putfield 94) 3 33 := ⟨by decide +kernel, rfl⟩
theorem D_X7_nextToken_33 : qd cX7_nextToken 33 (.aload_n 0) 1 34 := ⟨by decide +kernel, rfl⟩
theorem D_X7_nextToken_34 : qd cX7_nextToken 34 (.getfield 85) 3 37 := ⟨by decide +kernel, rfl⟩
theorem D_X7_nextToken_37 : qd cX7_nextToken 37 (.aload_n 0) 1 38 := ⟨by decide +kernel, rfl⟩
theorem D_X7_nextToken_38 : qd cX7_nextToken 38 (.getfield 81) 3 41 := ⟨by decide +kernel, rfl⟩
theorem D_X7_nextToken_41 : qj cX7_nextToken 41 (.if_icmp .ge 78) (78) 44 119 := ⟨by decide +kernel, rfl, by decide⟩
theorem D_X7_nextToken_44 : qd cX7_nextToken 44 (.aload_n 0) 1 45 := ⟨by decide +kernel, rfl⟩
theorem D_X7_nextToken_45 : qd cX7_nextToken 45 (.getfield 25) 3 48 := ⟨by decide +kernel, rfl⟩
theorem D_X7_nextToken_48 : qd cX7_nextToken 48 (.aload_n 0) 1 49 := ⟨by decide +kernel, rfl⟩
theorem D_X7_nextToken_49 : qd cX7_nextToken 49 (.getfield 85) 3 52 := ⟨by decide +kernel, rfl⟩
theorem D_X7_nextToken_52 : qd cX7_nextToken 52 (.iaload) 1 53 := ⟨by decide +kernel, rfl⟩
theorem D_X7_nextToken_53 : qd cX7_nextToken 53 (.i2l) 1 54 := ⟨by decide +kernel, rfl⟩
theorem D_X7_nextToken_54 : qd cX7_nextToken 54 (.ldc2_w 97) 3 57 := ⟨by decide +kernel, rfl⟩
theorem D_X7_nextToken_57 : qd cX7_nextToken 57 (.ldc2_w 99) 3 60 := ⟨by decide +kernel, rfl⟩
theorem D_X7_nextToken_60 : qd cX7_nextToken 60 (.invokestatic 57) 3 63 := ⟨by decide +kernel, rfl⟩
theorem D_X7_nextToken_63 : qj cX7_nextToken 63 (.ifCond .eq 56) (56) 66 119 := ⟨by decide +kernel, rfl, by decide⟩
theorem D_X7_nextToken_66 : qd cX7_nextToken 66 (.aload_n 0) 1 67 := ⟨by decide +kernel, rfl⟩
theorem D_X7_nextToken_67 : qd cX7_nextToken 67 (.aload_n 0) 1 68 := ⟨by decide +kernel, rfl⟩
theorem D_X7_nextToken_68 : qd cX7_nextToken 68 (.getfield 94) 3 71 := ⟨by decide +kernel, rfl⟩
theorem D_X7_nextToken_71 : qd cX7_nextToken 71 (.bipush 99) 2 73 := ⟨by decide +kernel, rfl⟩
theorem D_X7_nextToken_73 : qj cX7_nextToken 73 (.if_icmp .le 10) (10) 76 83 := ⟨by decide +kernel, rfl, by decide⟩
theorem D_X7_nextToken_76 : qd cX7_nextToken 76 (.aload_n 0) 1 77 := ⟨by decide +kernel, rfl⟩
theorem D_X7_nextToken_77 : qd cX7_nextToken 77 (.getfield 94) 3 80 := ⟨by decide +kernel, rfl⟩
theorem D_X7_nextToken_80 : qj cX7_nextToken 80 (.goto 23) (23) 83 103 := ⟨by decide +kernel, rfl, by decide⟩
theorem D_X7_nextToken_83 : qd cX7_nextToken 83 (.bipush 10) 2 85 := ⟨by decide +kernel, rfl⟩
theorem D_X7_nextToken_85 : qd cX7_nextToken 85 (.aload_n 0) 1 86 := ⟨by decide +kernel, rfl⟩
theorem D_X7_nextToken_86 : qd cX7_nextToken 86 (.getfield 94) 3 89 := ⟨by decide +kernel, rfl⟩
theorem D_X7_nextToken_89 : qd cX7_nextToken 89 (.imul) 1 90 := ⟨by decide +kernel, rfl⟩
theorem D_X7_nextToken_90 : qd cX7_nextToken 90 (.aload_n 0) 1 91 := ⟨by decide +kernel, rfl⟩
theorem D_X7_nextToken_91 : qd cX7_nextToken 91 (.getfield 25) 3 94 := ⟨by decide +kernel, rfl⟩
theorem D_X7_nextToken_94 : qd cX7_nextToken 94 (.aload_n 0) 1 95 := ⟨by decide +kernel, rfl⟩
theorem D_X7_nextToken_95 : qd cX7_nextToken 95 (.getfield 85) 3 98 := ⟨by decide +kernel, rfl⟩
theorem D_X7_nextToken_98 : qd cX7_nextToken 98 (.iaload) 1 99 := ⟨by decide +kernel, rfl⟩
theorem D_X7_nextToken_99 : qd cX7_nextToken 99 (.iadd) 1 100 := ⟨by decide +kernel, rfl⟩
theorem D_X7_nextToken_100 : qd cX7_nextToken 100 (.bipush 48) 2 102 := ⟨by decide +kernel, rfl⟩
theorem D_X7_nextToken_102 : qd cX7_nextToken 102 (.isub) 1 103 := ⟨by decide +kernel, rfl⟩
theorem D_X7_nextToken_103 : qd cX7_nextToken 103 (.putfield 94) 3 106 := ⟨by decide +kernel, rfl⟩
theorem D_X7_nextToken_106 : qd cX7_nextToken 106 (.aload_n 0) 1 107 := ⟨by decide +kernel, rfl⟩
theorem D_X7_nextToken_107 : qd cX7_nextToken 107 (.dup) 1 108 := ⟨by decide +kernel, rfl⟩
theorem D_X7_nextToken_108 : qd cX7_nextToken 108 (.getfield 85) 3 111 := ⟨by decide +kernel, rfl⟩
theorem D_X7_nextToken_111 : qd cX7_nextToken 111 (.iconst 1) 1 112 := ⟨by decide +kernel, rfl⟩
theorem D_X7_nextToken_112 : qd cX7_nextToken 112 (.iadd) 1 113 := ⟨by decide +kernel, rfl⟩
theorem D_X7_nextToken_113 : qd cX7_nextToken 113 (.putfield 85) 3 116 := ⟨by decide +kernel, rfl⟩
theorem D_X7_nextToken_116 : qj cX7_nextToken 116 (.goto (-83)) (-83) 119 33 := ⟨by decide +kernel, rfl, by decide⟩
theorem D_X7_nextToken_119 : qd cX7_nextToken 119 (.aload_n 0) 1 120 := ⟨by decide +kernel, rfl⟩
theorem D_X7_nextToken_120 : qd cX7_nextToken 120 (.getfield 85) 3 123 := ⟨by decide +kernel, rfl⟩
theorem D_X7_nextToken_123 : qd cX7_nextToken 123 (.aload_n 0) 1 124 := ⟨by decide +kernel, rfl⟩
theorem D_X7_nextToken_124 : qd cX7_nextToken 124 (.getfield 88) 3 127 := ⟨by decide +kernel, rfl⟩
theorem D_X7_nextToken_127 : qj cX7_nextToken 127 (.if_icmp .le 28) (28) 130 155 := ⟨by decide +kernel, rfl, by decide⟩
theorem D_X7_nextToken_130 : qd cX7_nextToken 130 (.aload_n 0) 1 131 := ⟨by decide +kernel, rfl⟩
theorem D_X7_nextToken_131 : qd cX7_nextToken 131 (.aload_n 0) 1 132 := ⟨by decide +kernel, rfl⟩
theorem D_X7_nextToken_132 : qd cX7_nextToken 132 (.getfield 85) 3 135 := ⟨by decide +kernel, rfl⟩
theorem D_X7_nextToken_135 : qd cX7_nextToken 135 (.aload_n 0) 1 136 := ⟨by decide +kernel, rfl⟩
theorem D_X7_nextToken_136 : qd cX7_nextToken 136 (.getfield 88) 3 139 := ⟨by decide +kernel, rfl⟩
theorem D_X7_nextToken_139 : qd cX7_nextToken 139 (.isub) 1 140 := ⟨by decide +kernel, rfl⟩
theorem D_X7_nextToken_140 : qd cX7_nextToken 140 (.iconst 2) 1 141 := ⟨by decide +kernel, rfl⟩
theorem D_X7_nextToken_141 : qj cX7_nextToken 141 (.if_icmp .le 7) (7) 144 148 := ⟨by decide +kernel, rfl, by decide⟩
theorem D_X7_nextToken_144 : qd cX7_nextToken 144 (.iconst 0) 1 145 := ⟨by decide +kernel, rfl⟩
theorem D_X7_nextToken_145 : qj cX7_nextToken 145 (.goto 4) (4) 148 149 := ⟨by decide +kernel, rfl, by decide⟩
theorem D_X7_nextToken_148 : qd cX7_nextToken 148 (.iconst 2) 1 149 := ⟨by decide +kernel, rfl⟩
theorem D_X7_nextToken_149 : qd cX7_nextToken 149 (.putfield 91) 3 152 := ⟨by decide +kernel, rfl⟩
theorem D_X7_nextToken_152 : qj cX7_nextToken 152 (.goto 77) (77) 155 229 := ⟨by decide +kernel, rfl, by decide⟩
theorem D_X7_nextToken_155 : qd cX7_nextToken 155 (.aload_n 0) 1 156 := ⟨by decide +kernel, rfl⟩
theorem D_X7_nextToken_156 : qd cX7_nextToken 156 (.getfield 91) 3 159 := ⟨by decide +kernel, rfl⟩
theorem D_X7_nextToken_159 : qj cX7_nextToken 159 (.ifCond .ne 70) (70) 162 229 := ⟨by decide +kernel, rfl, by decide⟩
theorem D_X7_nextToken_162 : qd cX7_nextToken 162 (.aload_n 0) 1 163 := ⟨by decide +kernel, rfl⟩
theorem D_X7_nextToken_163 : qd cX7_nextToken 163 (.aload_n 0) 1 164 := ⟨by decide +kernel, rfl⟩
theorem D_X7_nextToken_164 : qd cX7_nextToken 164 (.getfield 25) 3 167 := ⟨by decide +kernel, rfl⟩
theorem D_X7_nextToken_167 : qd cX7_nextToken 167 (.aload_n 0) 1 168 := ⟨by decide +kernel, rfl⟩
theorem D_X7_nextToken_168 : qd cX7_nextToken 168 (.getfield 85) 3 171 := ⟨by decide +kernel, rfl⟩
theorem D_X7_nextToken_171 : qd cX7_nextToken 171 (.iaload) 1 172 := ⟨by decide +kernel, rfl⟩
theorem D_X7_nextToken_172 : qd cX7_nextToken 172 (.putfield 94) 3 175 := ⟨by decide +kernel, rfl⟩
theorem D_X7_nextToken_175 : qd cX7_nextToken 175 (.aload_n 0) 1 176 := ⟨by decide +kernel, rfl⟩
theorem D_X7_nextToken_176 : qd cX7_nextToken 176 (.aload_n 0) 1 177 := ⟨by decide +kernel, rfl⟩
theorem D_X7_nextToken_177 : qd cX7_nextToken 177 (.getfield 94) 3 180 := ⟨by decide +kernel, rfl⟩
theorem D_X7_nextToken_180 : qd cX7_nextToken 180 (.i2l) 1 181 := ⟨by decide +kernel, rfl⟩
theorem D_X7_nextToken_181 : qd cX7_nextToken 181 (.ldc2_w 101) 3 184 := ⟨by decide +kernel, rfl⟩
theorem D_X7_nextToken_184 : qd cX7_nextToken 184 (.ldc2_w 103) 3 187 := ⟨by decide +kernel, rfl⟩
theorem D_X7_nextToken_187 : qd cX7_nextToken 187 (.invokestatic 57) 3 190 := ⟨by decide +kernel, rfl⟩
theorem D_X7_nextToken_190 : qj cX7_nextToken 190 (.ifCond .ne 21) (21) 193 211 := ⟨by decide +kernel, rfl, by decide⟩
theorem D_X7_nextToken_193 : qd cX7_nextToken 193 (.aload_n 0) 1 194 := ⟨by decide +kernel, rfl⟩
theorem D_X7_nextToken_194 : qd cX7_nextToken 194 (.getfield 94) 3 197 := ⟨by decide +kernel, rfl⟩
theorem D_X7_nextToken_197 : qd cX7_nextToken 197 (.bipush 44) 2 199 := ⟨by decide +kernel, rfl⟩
theorem D_X7_nextToken_199 : qj cX7_nextToken 199 (.if_icmp .eq 12) (12) 202 211 := ⟨by decide +kernel, rfl, by decide⟩
theorem D_X7_nextToken_202 : qd cX7_nextToken 202 (.aload_n 0) 1 203 := ⟨by decide +kernel, rfl⟩
theorem D_X7_nextToken_203 : qd cX7_nextToken 203 (.getfield 94) 3 206 := ⟨by decide +kernel, rfl⟩
theorem D_X7_nextToken_206 : qd cX7_nextToken 206 (.bipush 59) 2 208 := ⟨by decide +kernel, rfl⟩
theorem D_X7_nextToken_208 : qj cX7_nextToken 208 (.if_icmp .ne 7) (7) 211 215 := ⟨by decide +kernel, rfl, by decide⟩
theorem D_X7_nextToken_211 : qd cX7_nextToken 211 (.iconst 1) 1 212 := ⟨by decide +kernel, rfl⟩
theorem D_X7_nextToken_212 : qj cX7_nextToken 212 (.goto 4) (4) 215 216 := ⟨by decide +kernel, rfl, by decide⟩
theorem D_X7_nextToken_215 : qd cX7_nextToken 215 (.iconst 0) 1 216 := ⟨by decide +kernel, rfl⟩
theorem D_X7_nextToken_216 : qd cX7_nextToken 216 (.putfield 91) 3 219 := ⟨by decide +kernel, rfl⟩
theorem D_X7_nextToken_219 : qd cX7_nextToken 219 (.aload_n 0) 1 220 := ⟨by decide +kernel, rfl⟩
theorem D_X7_nextToken_220 : qd cX7_nextToken 220 (.dup) 1 221 := ⟨by decide +kernel, rfl⟩
theorem D_X7_nextToken_221 : qd cX7_nextToken 221 (.getfield 85) 3 224 := ⟨by decide +kernel, rfl⟩
theorem D_X7_nextToken_224 : qd cX7_nextToken 224 (.iconst 1) 1 225 := ⟨by decide +kernel, rfl⟩
theorem D_X7_nextToken_225 : qd cX7_nextToken 225 (.iadd) 1 226 := ⟨by decide +kernel, rfl⟩
theorem D_X7_nextToken_226 : qd cX7_nextToken 226 (.putfield 85) 3 229 := ⟨by decide +kernel, rfl⟩
theorem D_X7_nextToken_229 : qd cX7_nextToken 229 (.return_) 1 230 := ⟨by decide +kernel, rfl⟩
theorem D_X7_note_0 : qd cX7_note 0 (.aload_n 0) 1 1 := ⟨by decide +kernel, rfl⟩
theorem D_X7_note_1 : qd cX7_note 1 (.getfield 139) 3 4 := ⟨by decide +kernel, rfl⟩
theorem D_X7_note_4 : qd cX7_note 4 (.bipush 24) 2 6 := ⟨by decide +kernel, rfl⟩
theorem D_X7_note_6 : qj cX7_note 6 (.if_icmp .ne 43) (43) 9 49 := ⟨by decide +kernel, rfl, by decide⟩
theorem D_X7_note_9 : qd cX7_note 9 (.iconst 0) 1 10 := ⟨by decide +kernel, rfl⟩
theorem D_X7_note_10 : qd cX7_note 10 (.istore_n 1) 1 11 := ⟨by decide +kernel, rfl⟩
theorem D_X7_note_11 : qd cX7_note 11 (.iload_n 1) 1 12 := ⟨by decide +kernel, rfl⟩
theorem D_X7_note_12 : qd cX7_note 12 (.sipush 1173) 3 15 := ⟨by decide +kernel, rfl⟩
theorem D_X7_note_15 : qj cX7_note 15 (.if_icmp .ge 24) (24) 18 39 := ⟨by decide +kernel, rfl, by decide⟩
theorem D_X7_note_18 : qd cX7_note 18 (.aload_n 0) 1 19 := ⟨by decide +kernel, rfl⟩
theorem D_X7_note_19 : qd cX7_note 19 (.getfield 31) 3 22 := ⟨by decide +kernel, rfl⟩
theorem D_X7_note_22 : qd cX7_note 22 (.iload_n 1) 1 23 := ⟨by decide +kernel, rfl⟩
theorem D_X7_note_23 : qd cX7_note 23 (.aload_n 0) 1 24 := ⟨by decide +kernel, rfl⟩
theorem D_X7_note_24 : qd cX7_note 24 (.getfield 31) 3 27 := ⟨by decide +kernel, rfl⟩
theorem D_X7_note_27 : qd cX7_note 27 (.iload_n 1) 1 28 := ⟨by decide +kernel, rfl⟩
theorem D_X7_note_28 : qd cX7_note 28 (.bipush 51) 2 30 := ⟨by decide +kernel, rfl⟩
theorem D_X7_note_30 : qd cX7_note 30 (.iadd) 1 31 := ⟨by decide +kernel, rfl⟩
theorem D_X7_note_31 : qd cX7_note 31 (.iaload) 1 32 := ⟨by decide +kernel, rfl⟩
theorem D_X7_note_32 : qd cX7_note 32 (.iastore) 1 33 := ⟨by decide +kernel, rfl⟩
theorem D_X7_note_33 : qd cX7_note 33 (.iinc 1 1) 3 36 := ⟨by decide +kernel, rfl⟩
theorem D_X7_note_36 : qj cX7_note 36 (.goto (-25)) (-25) 39 11 := ⟨by decide +kernel, rfl, by decide⟩
theorem D_X7_note_39 : qd cX7_note 39 (.aload_n 0) 1 40 := ⟨by decide +kernel, rfl⟩
theorem D_X7_note_40 : qd cX7_note 40 (.dup) 1 41 := ⟨by decide +kernel, rfl⟩
theorem D_X7_note_41 : qd cX7_note 41 (.getfield 139) 3 44 := ⟨by decide +kernel, rfl⟩
theorem D_X7_note_44 : qd cX7_note 44 (.iconst 1) 1 45 := ⟨by decide +kernel, rfl⟩
theorem D_X7_note_45 : qd cX7_note 45 (.isub) 1 46 := ⟨by decide +kernel, rfl⟩
theorem D_X7_note_46 : qd cX7_note 46 (.putfield 139) 3 49 := ⟨by decide +kernel, rfl⟩
theorem D_X7_note_49 : qd cX7_note 49 (.iconst 0) 1 50 := ⟨by decide +kernel, rfl⟩
theorem D_X7_note_50 : qd cX7_note 50 (.istore_n 1) 1 51 := ⟨by decide +kernel, rfl⟩
theorem D_X7_note_51 : qd cX7_note 51 (.iload_n 1) 1 52 := ⟨by decide +kernel, rfl⟩
theorem D_X7_note_52 : qd cX7_note 52 (.bipush 51) 2 54 := ⟨by decide +kernel, rfl⟩
theorem D_X7_note_54 : qj cX7_note 54 (.if_icmp .ge 29) (29) 57 83 := ⟨by decide +kernel, rfl, by decide⟩
theorem D_X7_note_57 : qd cX7_note 57 (.aload_n 0) 1 58 := ⟨by decide +kernel, rfl⟩
theorem D_X7_note_58 : qd cX7_note 58 (.getfield 31) 3 61 := ⟨by decide +kernel, rfl⟩
theorem D_X7_note_61 : qd cX7_note 61 (.bipush 51) 2 63 := ⟨by decide +kernel, rfl⟩
theorem D_X7_note_63 : qd cX7_note 63 (.aload_n 0) 1 64 := ⟨by decide +kernel, rfl⟩
theorem D_X7_note_64 : qd cX7_note 64 (.getfield 139) 3 67 := ⟨by decide +kernel, rfl⟩
theorem D_X7_note_67 : qd cX7_note 67 (.imul) 1 68 := ⟨by decide +kernel, rfl⟩
theorem D_X7_note_68 : qd cX7_note 68 (.iload_n 1) 1 69 := ⟨by decide +kernel, rfl⟩
theorem D_X7_note_69 : qd cX7_note 69 (.iadd) 1 70 := ⟨by decide +kernel, rfl⟩
theorem D_X7_note_70 : qd cX7_note 70 (.aload_n 0) 1 71 := ⟨by decide +kernel, rfl⟩
theorem D_X7_note_71 : qd cX7_note 71 (.getfield 19) 3 74 := ⟨by decide +kernel, rfl⟩
theorem D_X7_note_74 : qd cX7_note 74 (.iload_n 1) 1 75 := ⟨by decide +kernel, rfl⟩
theorem D_X7_note_75 : qd cX7_note 75 (.iaload) 1 76 := ⟨by decide +kernel, rfl⟩
theorem D_X7_note_76 : qd cX7_note 76 (.iastore) 1 77 := ⟨by decide +kernel, rfl⟩
theorem D_X7_note_77 : qd cX7_note 77 (.iinc 1 1) 3 80 := ⟨by decide +kernel, rfl⟩
theorem D_X7_note_80 : qj cX7_note 80 (.goto (-29)) (-29) 83 51 := ⟨by decide +kernel, rfl, by decide⟩
theorem D_X7_note_83 : qd cX7_note 83 (.aload_n 0) 1 84 := ⟨by decide +kernel, rfl⟩
theorem D_X7_note_84 : qd cX7_note 84 (.dup) 1 85 := ⟨by decide +kernel, rfl⟩
theorem D_X7_note_85 : qd cX7_note 85 (.getfield 139) 3 88 := ⟨by decide +kernel, rfl⟩
theorem D_X7_note_88 : qd cX7_note 88 (.iconst 1) 1 89 := ⟨by decide +kernel, rfl⟩
theorem D_X7_note_89 : qd cX7_note 89 (.iadd) 1 90 := ⟨by decide +kernel, rfl⟩
theorem D_X7_note_90 : qd cX7_note 90 (.putfield 139) 3 93 := ⟨by decide +kernel, rfl⟩
theorem D_X7_note_93 : qd cX7_note 93 (.return_) 1 94 := ⟨by decide +kernel, rfl⟩
theorem D_X7_oneYear_0 : qd cX7_oneYear 0 (.aload_n 0) 1 1 := ⟨by decide +kernel, rfl⟩
theorem D_X7_oneYear_1 : qd cX7_oneYear 1 (.invokevirtual 155) 3 4 := ⟨by decide +kernel, rfl⟩
theorem D_X7_oneYear_4 : qd cX7_oneYear 4 (.istore_n 1) 1 5 := ⟨by decide +kernel, rfl⟩
theorem D_X7_oneYear_5 : qd cX7_oneYear 5 (.iconst 0) 1 6 := ⟨by decide +kernel, rfl⟩
theorem D_X7_oneYear_6 : qd cX7_oneYear 6 (.istore_n 2) 1 7 := ⟨by decide +kernel, rfl⟩
theorem D_X7_oneYear_7 : qd cX7_oneYear 7 (.iload_n 2) 1 8 := ⟨by decide +kernel, rfl⟩
theorem D_X7_oneYear_8 : qd cX7_oneYear 8 (.aload_n 0) 1 9 := ⟨by decide +kernel, rfl⟩
theorem D_X7_oneYear_9 : qd cX7_oneYear 9 (.getfield 19) 3 12 := ⟨by decide +kernel, rfl⟩
theorem D_X7_oneYear_12 : qd cX7_oneYear 12 (.iconst 0) 1 13 := ⟨by decide +kernel, rfl⟩
theorem D_X7_oneYear_13 : qd cX7_oneYear 13 (.iaload) 1 14 := ⟨by decide +kernel, rfl⟩
theorem D_X7_oneYear_14 : qj cX7_oneYear 14 (.if_icmp .ge 59) (59) 17 73 := ⟨by decide +kernel, rfl, by decide⟩
theorem D_X7_oneYear_17 : qd cX7_oneYear 17 (.iconst 0) 1 18 := ⟨by decide +kernel, rfl⟩
theorem D_X7_oneYear_18 : qd cX7_oneYear 18 (.istore_n 3) 1 19 := ⟨by decide +kernel, rfl⟩
theorem D_X7_oneYear_19 : qd cX7_oneYear 19 (.iload_n 3) 1 20 := ⟨by decide +kernel, rfl⟩
theorem D_X7_oneYear_20 : qd cX7_oneYear 20 (.aload_n 0) 1 21 := ⟨by decide +kernel, rfl⟩
theorem D_X7_oneYear_21 : qd cX7_oneYear 21 (.getfield 19) 3 24 := ⟨by decide +kernel, rfl⟩
theorem D_X7_oneYear_24 : qd cX7_oneYear 24 (.iconst 3) 1 25 := ⟨by decide +kernel, rfl⟩
theorem D_X7_oneYear_25 : qd cX7_oneYear 25 (.iaload) 1 26 := ⟨by decide +kernel, rfl⟩
theorem D_X7_oneYear_26 : qj cX7_oneYear 26 (.if_icmp .ge 41) (41) 29 67 := ⟨by decide +kernel, rfl, by decide⟩
theorem D_X7_oneYear_29 : qd cX7_oneYear 29 (.aload_n 0) 1 30 := ⟨by decide +kernel, rfl⟩
theorem D_X7_oneYear_30 : qd cX7_oneYear 30 (.getfield 19) 3 33 := ⟨by decide +kernel, rfl⟩
theorem D_X7_oneYear_33 : qd cX7_oneYear 33 (.iconst 5) 1 34 := ⟨by decide +kernel, rfl⟩
theorem D_X7_oneYear_34 : qd cX7_oneYear 34 (.iaload) 1 35 := ⟨by decide +kernel, rfl⟩
theorem D_X7_oneYear_35 : qd cX7_oneYear 35 (.iload_n 1) 1 36 := ⟨by decide +kernel, rfl⟩
theorem D_X7_oneYear_36 : qd cX7_oneYear 36 (.iconst (-1)) 1 37 := ⟨by decide +kernel, rfl⟩
theorem D_X7_oneYear_37 : qd cX7_oneYear 37 (.ixor) 1 38 := ⟨by decide +kernel, rfl⟩
theorem D_X7_oneYear_38 : qd cX7_oneYear 38 (.iand) 1 39 := ⟨by decide +kernel, rfl⟩
theorem D_X7_oneYear_39 : qd cX7_oneYear 39 (.iload_n 2) 1 40 := ⟨by decide +kernel, rfl⟩
theorem D_X7_oneYear_40 : qd cX7_oneYear 40 (.invokestatic 142) 3 43 := ⟨by decide +kernel, rfl⟩
theorem D_X7_oneYear_43 : qj cX7_oneYear 43 (.ifCond .eq 24) (24) 46 67 := ⟨by decide +kernel, rfl, by decide⟩
theorem D_X7_oneYear_46 : qd cX7_oneYear 46 (.aload_n 0) 1 47 := ⟨by decide +kernel, rfl⟩
theorem D_X7_oneYear_47 : qd cX7_oneYear 47 (.getfield 19) 3 50 := ⟨by decide +kernel, rfl⟩
theorem D_X7_oneYear_50 : qd cX7_oneYear 50 (.bipush 21) 2 52 := ⟨by decide +kernel, rfl⟩
theorem D_X7_oneYear_52 : qd cX7_oneYear 52 (.bipush 6) 2 54 := ⟨by decide +kernel, rfl⟩
theorem D_X7_oneYear_54 : qd cX7_oneYear 54 (.iload_n 3) 1 55 := ⟨by decide +kernel, rfl⟩
theorem D_X7_oneYear_55 : qd cX7_oneYear 55 (.imul) 1 56 := ⟨by decide +kernel, rfl⟩
theorem D_X7_oneYear_56 : qd cX7_oneYear 56 (.iadd) 1 57 := ⟨by decide +kernel, rfl⟩
theorem D_X7_oneYear_57 : qd cX7_oneYear 57 (.iload_n 2) 1 58 := ⟨by decide +kernel, rfl⟩
theorem D_X7_oneYear_58 : qd cX7_oneYear 58 (.iadd) 1 59 := ⟨by decide +kernel, rfl⟩
theorem D_X7_oneYear_59 : qd cX7_oneYear 59 (.iconst 0) 1 60 := ⟨by decide +kernel, rfl⟩
theorem D_X7_oneYear_60 : qd cX7_oneYear 60 (.iastore) 1 61 := ⟨by decide +kernel, rfl⟩
theorem D_X7_oneYear_61 : qd cX7_oneYear 61 (.iinc 3 1) 3 64 := ⟨by decide +kernel, rfl⟩
theorem D_X7_oneYear_64 : qj cX7_oneYear 64 (.goto (-45)) (-45) 67 19 := ⟨by decide +kernel, rfl, by decide⟩
theorem D_X7_oneYear_67 : qd cX7_oneYear 67 (.iinc 2 1) 3 70 := ⟨by decide +kernel, rfl⟩
theorem D_X7_oneYear_70 : qj cX7_oneYear 70 (.goto (-63)) (-63) 73 7 := ⟨by decide +kernel, rfl, by decide⟩
theorem D_X7_oneYear_73 : qd cX7_oneYear 73 (.aload_n 0) 1 74 := ⟨by decide +kernel, rfl⟩
theorem D_X7_oneYear_74 : qd cX7_oneYear 74 (.getfield 19) 3 77 := ⟨by decide +kernel, rfl⟩
theorem D_X7_oneYear_77 : qd cX7_oneYear 77 (.iconst 5) 1 78 := ⟨by decide +kernel, rfl⟩
theorem D_X7_oneYear_78 : qd cX7_oneYear 78 (.dup2) 1 79 := ⟨by decide +kernel, rfl⟩
theorem D_X7_oneYear_79 : qd cX7_oneYear 79 (.iaload) 1 80 := ⟨by decide +kernel, rfl⟩
theorem D_X7_oneYear_80 : qd cX7_oneYear 80 (.iload_n 1) 1 81 := ⟨by decide +kernel, rfl⟩
theorem D_X7_oneYear_81 : qd cX7_oneYear 81 (.iand) 1 82 := ⟨by decide +kernel, rfl⟩
theorem D_X7_oneYear_82 : qd cX7_oneYear 82 (.iastore) 1 83 := ⟨by decide +kernel, rfl⟩
theorem D_X7_oneYear_83 : qd cX7_oneYear 83 (.iconst 0) 1 84 := ⟨by decide +kernel, rfl⟩
theorem D_X7_oneYear_84 : qd cX7_oneYear 84 (.istore_n 2) 1 85 := ⟨by decide +kernel, rfl⟩
theorem D_X7_oneYear_85 : qd cX7_oneYear 85 (.iload_n 2) 1 86 := ⟨by decide +kernel, rfl⟩
theorem D_X7_oneYear_86 : qd cX7_oneYear 86 (.aload_n 0) 1 87 := ⟨by decide +kernel, rfl⟩
theorem D_X7_oneYear_87 : qd cX7_oneYear 87 (.getfield 19) 3 90 := ⟨by decide +kernel, rfl⟩
theorem D_X7_oneYear_90 : qd cX7_oneYear 90 (.iconst 3) 1 91 := ⟨by decide +kernel, rfl⟩
theorem D_X7_oneYear_91 : qd cX7_oneYear 91 (.iaload) 1 92 := ⟨by decide +kernel, rfl⟩
theorem D_X7_oneYear_92 : qj cX7_oneYear 92 (.if_icmp .ge 83) (83) 95 175 := ⟨by decide +kernel, rfl, by decide⟩
theorem D_X7_oneYear_95 : qd cX7_oneYear 95 (.iconst 0) 1 96 := ⟨by decide +kernel, rfl⟩
theorem D_X7_oneYear_96 : qd cX7_oneYear 96 (.istore_n 3) 1 97 := ⟨by decide +kernel, rfl⟩
theorem D_X7_oneYear_97 : qd cX7_oneYear 97 (.iload_n 3) 1 98 := ⟨by decide +kernel, rfl⟩
theorem D_X7_oneYear_98 : qd cX7_oneYear 98 (.aload_n 0) 1 99 := ⟨by decide +kernel, rfl⟩
theorem D_X7_oneYear_99 : qd cX7_oneYear 99 (.getfield 19) 3 102 := ⟨by decide +kernel, rfl⟩
theorem D_X7_oneYear_102 : qd cX7_oneYear 102 (.iconst 0) 1 103 := ⟨by decide +kernel, rfl⟩
theorem D_X7_oneYear_103 : qd cX7_oneYear 103 (.iaload) 1 104 := ⟨by decide +kernel, rfl⟩
theorem D_X7_oneYear_104 : qj cX7_oneYear 104 (.if_icmp .ge 45) (45) 107 149 := ⟨by decide +kernel, rfl, by decide⟩
theorem D_X7_oneYear_107 : qd cX7_oneYear 107 (.aload_n 0) 1 108 := ⟨by decide +kernel, rfl⟩
theorem D_X7_oneYear_108 : qd cX7_oneYear 108 (.getfield 19) 3 111 := ⟨by decide +kernel, rfl⟩
theorem D_X7_oneYear_111 : qd cX7_oneYear 111 (.bipush 11) 2 113 := ⟨by decide +kernel, rfl⟩
theorem D_X7_oneYear_113 : qd cX7_oneYear 113 (.iload_n 2) 1 114 := ⟨by decide +kernel, rfl⟩
theorem D_X7_oneYear_114 : qd cX7_oneYear 114 (.iadd) 1 115 := ⟨by decide +kernel, rfl⟩
theorem D_X7_oneYear_115 : qd cX7_oneYear 115 (.iaload) 1 116 := ⟨by decide +kernel, rfl⟩
theorem D_X7_oneYear_116 : qj cX7_oneYear 116 (.ifCond .ne 33) (33) 119 149 := ⟨by decide +kernel, rfl, by decide⟩
theorem D_X7_oneYear_119 : qd cX7_oneYear 119 (.aload_n 0) 1 120 := ⟨by decide +kernel, rfl⟩
theorem D_X7_oneYear_120 : qd cX7_oneYear 120 (.getfield 19) 3 123 := ⟨by decide +kernel, rfl⟩
theorem D_X7_oneYear_123 : qd cX7_oneYear 123 (.bipush 21) 2 125 := ⟨by decide +kernel, rfl⟩
theorem D_X7_oneYear_125 : qd cX7_oneYear 125 (.bipush 6) 2 127 := ⟨by decide +kernel, rfl⟩
theorem D_X7_oneYear_127 : qd cX7_oneYear 127 (.iload_n 2) 1 128 := ⟨by decide +kernel, rfl⟩
theorem D_X7_oneYear_128 : qd cX7_oneYear 128 (.imul) 1 129 := ⟨by decide +kernel, rfl⟩
theorem D_X7_oneYear_129 : qd cX7_oneYear 129 (.iadd) 1 130 := ⟨by decide +kernel, rfl⟩
theorem D_X7_oneYear_130 : qd cX7_oneYear 130 (.iload_n 3) 1 131 := ⟨by decide +kernel, rfl⟩
theorem D_X7_oneYear_131 : qd cX7_oneYear 131 (.iadd) 1 132 := ⟨by decide +kernel, rfl⟩
theorem D_X7_oneYear_132 : qd cX7_oneYear 132 (.aload_n 0) 1 133 := ⟨by decide +kernel, rfl⟩
theorem D_X7_oneYear_133 : qd cX7_oneYear 133 (.aload_n 0) 1 134 := ⟨by decide +kernel, rfl⟩
theorem D_X7_oneYear_134 : qd cX7_oneYear 134 (.iload_n 2) 1 135 := ⟨by decide +kernel, rfl⟩
theorem D_X7_oneYear_135 : qd cX7_oneYear 135 (.iload_n 3) 1 136 := ⟨by decide +kernel, rfl⟩
theorem D_X7_oneYear_136 : qd cX7_oneYear 136 (.invokevirtual 146) 3 139 := ⟨by decide +kernel, rfl⟩
theorem D_X7_oneYear_139 : qd cX7_oneYear 139 (.invokevirtual 159) 3 142 := ⟨by decide +kernel, rfl⟩
theorem D_X7_oneYear_142 : qd cX7_oneYear 142 (.iastore) 1 143 := ⟨by decide +kernel, rfl⟩
theorem D_X7_oneYear_143 : qd cX7_oneYear 143 (.iinc 3 1) 3 146 := ⟨by decide +kernel, rfl⟩
theorem D_X7_oneYear_146 : qj cX7_oneYear 146 (.goto (-49)) (-49) 149 97 := ⟨by decide +kernel, rfl, by decide⟩
theorem D_X7_oneYear_149 : qd cX7_oneYear 149 (.aload_n 0) 1 150 := ⟨by decide +kernel, rfl⟩
theorem D_X7_oneYear_150 : qd cX7_oneYear 150 (.getfield 19) 3 153 := ⟨by decide +kernel, rfl⟩
theorem D_X7_oneYear_153 : qd cX7_oneYear 153 (.bipush 11) 2 155 := ⟨by decide +kernel, rfl⟩
theorem D_X7_oneYear_155 : qd cX7_oneYear 155 (.iload_n 2) 1 156 := ⟨by decide +kernel, rfl⟩
theorem D_X7_oneYear_156 : qd cX7_oneYear 156 (.iadd) 1 157 := ⟨by decide +kernel, rfl⟩
theorem D_X7_oneYear_157 : qd cX7_oneYear 157 (.iconst 0) 1 158 := ⟨by decide +kernel, rfl⟩
theorem D_X7_oneYear_158 : qd cX7_oneYear 158 (.iastore) 1 159 := ⟨by decide +kernel, rfl⟩
theorem D_X7_oneYear_159 : qd cX7_oneYear 159 (.aload_n 0) 1 160 := ⟨by decide +kernel, rfl⟩
theorem D_X7_oneYear_160 : qd cX7_oneYear 160 (.getfield 19) 3 163 := ⟨by decide +kernel, rfl⟩
theorem D_X7_oneYear_163 : qd cX7_oneYear 163 (.bipush 16) 2 165 := ⟨by decide +kernel, rfl⟩
theorem D_X7_oneYear_165 : qd cX7_oneYear 165 (.iload_n 2) 1 166 := ⟨by decide +kernel, rfl⟩
theorem D_X7_oneYear_166 : qd cX7_oneYear 166 (.iadd) 1 167 := ⟨by decide +kernel, rfl⟩
theorem D_X7_oneYear_167 : qd cX7_oneYear 167 (.iconst 0) 1 168 := ⟨by decide +kernel, rfl⟩
theorem D_X7_oneYear_168 : qd cX7_oneYear 168 (.iastore) 1 169 := ⟨by decide +kernel, rfl⟩
theorem D_X7_oneYear_169 : qd cX7_oneYear 169 (.iinc 2 1) 3 172 := ⟨by decide +kernel, rfl⟩
theorem D_X7_oneYear_172 : qj cX7_oneYear 172 (.goto (-87)) (-87) 175 85 := ⟨by decide +kernel, rfl, by decide⟩
theorem D_X7_oneYear_175 : qd cX7_oneYear 175 (.aload_n 0) 1 176 := ⟨by decide +kernel, rfl⟩
theorem D_X7_oneYear_176 : qd cX7_oneYear 176 (.getfield 19) 3 179 := ⟨by decide +kernel, rfl⟩
theorem D_X7_oneYear_179 : qd cX7_oneYear 179 (.iconst 4) 1 180 := ⟨by decide +kernel, rfl⟩
theorem D_X7_oneYear_180 : qd cX7_oneYear 180 (.dup2) 1 181 := ⟨by decide +kernel, rfl⟩
theorem D_X7_oneYear_181 : qd cX7_oneYear 181 (.iaload) 1 182 := ⟨by decide +kernel, rfl⟩
theorem D_X7_oneYear_182 : qd cX7_oneYear 182 (.iconst 1) 1 183 := ⟨by decide +kernel, rfl⟩
theorem D_X7_oneYear_183 : qd cX7_oneYear 183 (.iadd) 1 184 := ⟨by decide +kernel, rfl⟩
theorem D_X7_oneYear_184 : qd cX7_oneYear 184 (.iastore) 1 185 := ⟨by decide +kernel, rfl⟩
theorem D_X7_oneYear_185 : qd cX7_oneYear 185 (.return_) 1 186 := ⟨by decide +kernel, rfl⟩
theorem D_X7_ones_0 : qd cX7_ones 0 (.iconst 0) 1 1 := ⟨by decide +kernel, rfl⟩
theorem D_X7_ones_1 : qd cX7_ones 1 (.istore_n 1) 1 2 := ⟨by decide +kernel, rfl⟩
theorem D_X7_ones_2 : qd cX7_ones 2 (.iload_n 0) 1 3 := ⟨by decide +kernel, rfl⟩
theorem D_X7_ones_3 : qd cX7_ones 3 (.istore_n 2) 1 4 := ⟨by decide +kernel, rfl⟩
theorem D_X7_ones_4 : qd cX7_ones 4 (.iload_n 2) 1 5 := ⟨by decide +kernel, rfl⟩
theorem D_X7_ones_5 : qj cX7_ones 5 (.ifCond .eq 15) (15) 8 20 := ⟨by decide +kernel, rfl, by decide⟩
theorem D_X7_ones_8 : qd cX7_ones 8 (.iinc 1 1) 3 11 := ⟨by decide +kernel, rfl⟩
theorem D_X7_ones_11 : qd cX7_ones 11 (.iload_n 2) 1 12 := ⟨by decide +kernel, rfl⟩
theorem D_X7_ones_12 : qd cX7_ones 12 (.iload_n 2) 1 13 := ⟨by decide +kernel, rfl⟩
theorem D_X7_ones_13 : qd cX7_ones 13 (.iconst 1) 1 14 := ⟨by decide +kernel, rfl⟩
theorem D_X7_ones_14 : qd cX7_ones 14 (.isub) 1 15 := ⟨by decide +kernel, rfl⟩
theorem D_X7_ones_15 : qd cX7_ones 15 (.iand) 1 16 := ⟨by decide +kernel, rfl⟩
theorem D_X7_ones_16 : qd cX7_ones 16 (.istore_n 2) 1 17 := ⟨by decide +kernel, rfl⟩
theorem D_X7_ones_17 : qj cX7_ones 17 (.goto (-13)) (-13) 20 4 := ⟨by decide +kernel, rfl, by decide⟩
theorem D_X7_ones_20 : qd cX7_ones 20 (.iload_n 1) 1 21 := ⟨by decide +kernel, rfl⟩
theorem D_X7_ones_21 : qd cX7_ones 21 (.ireturn) 1 22 := ⟨by decide +kernel, rfl⟩
theorem D_X7_pair_0 : qd cX7_pair 0 (.aload_n 0) 1 1 := ⟨by decide +kernel, rfl⟩
theorem D_X7_pair_1 : qd cX7_pair 1 (.iload_n 1) 1 2 := ⟨by decide +kernel, rfl⟩
theorem D_X7_pair_2 : qd cX7_pair 2 (.invokevirtual 171) 3 5 := ⟨by decide +kernel, rfl⟩
theorem D_X7_pair_5 : qj cX7_pair 5 (.ifCond .eq 30) (30) 8 35 := ⟨by decide +kernel, rfl, by decide⟩
theorem D_X7_pair_8 : qd cX7_pair 8 (.aload_n 0) 1 9 := ⟨by decide +kernel, rfl⟩
theorem D_X7_pair_9 : qd cX7_pair 9 (.iload_n 2) 1 10 := ⟨by decide +kernel, rfl⟩
theorem D_X7_pair_10 : qd cX7_pair 10 (.invokevirtual 171) 3 13 := ⟨by decide +kernel, rfl⟩
theorem D_X7_pair_13 : qj cX7_pair 13 (.ifCond .eq 22) (22) 16 35 := ⟨by decide +kernel, rfl, by decide⟩
theorem D_X7_pair_16 : qd cX7_pair 16 (.iload_n 1) 1 17 := ⟨by decide +kernel, rfl⟩
theorem D_X7_pair_17 : qd cX7_pair 17 (.iload_n 2) 1 18 := ⟨by decide +kernel, rfl⟩
theorem D_X7_pair_18 : qj cX7_pair 18 (.if_icmp .eq 17) (17) 21 35 := ⟨by decide +kernel, rfl, by decide⟩
theorem D_X7_pair_21 : qd cX7_pair 21 (.aload_n 0) 1 22 := ⟨by decide +kernel, rfl⟩
theorem D_X7_pair_22 : qd cX7_pair 22 (.iload_n 1) 1 23 := ⟨by decide +kernel, rfl⟩
theorem D_X7_pair_23 : qd cX7_pair 23 (.invokevirtual 152) 3 26 := ⟨by decide +kernel, rfl⟩
theorem D_X7_pair_26 : qd cX7_pair 26 (.aload_n 0) 1 27 := ⟨by decide +kernel, rfl⟩
theorem D_X7_pair_27 : qd cX7_pair 27 (.iload_n 2) 1 28 := ⟨by decide +kernel, rfl⟩
theorem D_X7_pair_28 : qd cX7_pair 28 (.invokevirtual 152) 3 31 := ⟨by decide +kernel, rfl⟩
theorem D_X7_pair_31 : qd cX7_pair 31 (.iand) 1 32 := ⟨by decide +kernel, rfl⟩
theorem D_X7_pair_32 : qj cX7_pair 32 (.goto 5) (5) 35 37 := ⟨by decide +kernel, rfl, by decide⟩
theorem D_X7_pair_35 : qd cX7_pair 35 (.ldc 67) 2 37 := ⟨by decide +kernel, rfl⟩
theorem D_X7_pair_37 : qd cX7_pair 37 (.ireturn) 1 38 := ⟨by decide +kernel, rfl⟩
theorem D_X7_putAside_0 : qd cX7_putAside 0 (.iconst 0) 1 1 := ⟨by decide +kernel, rfl⟩
theorem D_X7_putAside_1 : qd cX7_putAside 1 (.istore_n 1) 1 2 := ⟨by decide +kernel, rfl⟩
theorem D_X7_putAside_2 : qd cX7_putAside 2 (.iload_n 1) 1 3 := ⟨by decide +kernel, rfl⟩
theorem D_X7_putAside_3 : qd cX7_putAside 3 (.bipush 51) 2 5 := ⟨by decide +kernel, rfl⟩
theorem D_X7_putAside_5 : qj cX7_putAside 5 (.if_icmp .ge 21) (21) 8 26 := ⟨by decide +kernel, rfl, by decide⟩
theorem D_X7_putAside_8 : qd cX7_putAside 8 (.aload_n 0) 1 9 := ⟨by decide +kernel, rfl⟩
theorem D_X7_putAside_9 : qd cX7_putAside 9 (.getfield 34) 3 12 := ⟨by decide +kernel, rfl⟩
theorem D_X7_putAside_12 : qd cX7_putAside 12 (.iload_n 1) 1 13 := ⟨by decide +kernel, rfl⟩
theorem D_X7_putAside_13 : qd cX7_putAside 13 (.aload_n 0) 1 14 := ⟨by decide +kernel, rfl⟩
theorem D_X7_putAside_14 : qd cX7_putAside 14 (.getfield 19) 3 17 := ⟨by decide +kernel, rfl⟩
theorem D_X7_putAside_17 : qd cX7_putAside 17 (.iload_n 1) 1 18 := ⟨by decide +kernel, rfl⟩
theorem D_X7_putAside_18 : qd cX7_putAside 18 (.iaload) 1 19 := ⟨by decide +kernel, rfl⟩
theorem D_X7_putAside_19 : qd cX7_putAside 19 (.iastore) 1 20 := ⟨by decide +kernel, rfl⟩
theorem D_X7_putAside_20 : qd cX7_putAside 20 (.iinc 1 1) 3 23 := ⟨by decide +kernel, rfl⟩
theorem D_X7_putAside_23 : qj cX7_putAside 23 (.goto (-21)) (-21) 26 2 := ⟨by decide +kernel, rfl, by decide⟩
theorem D_X7_putAside_26 : qd cX7_putAside 26 (.return_) 1 27 := ⟨by decide +kernel, rfl⟩
theorem D_X7_readSleeper_0 : qd cX7_readSleeper 0 (.aload_n 0) 1 1 := ⟨by decide +kernel, rfl⟩
theorem D_X7_readSleeper_1 : qd cX7_readSleeper 1 (.getfield 28) 3 4 := ⟨by decide +kernel, rfl⟩
theorem D_X7_readSleeper_4 : qd cX7_readSleeper 4 (.iconst 3) 1 5 := ⟨by decide +kernel, rfl⟩
theorem D_X7_readSleeper_5 : qd cX7_readSleeper 5 (.iaload) 1 6 := ⟨by decide +kernel, rfl⟩
theorem D_X7_readSleeper_6 : qd cX7_readSleeper 6 (.istore_n 2) 1 7 := ⟨by decide +kernel, rfl⟩
theorem D_X7_readSleeper_7 : qd cX7_readSleeper 7 (.iload_n 2) 1 8 := ⟨by decide +kernel, rfl⟩
theorem D_X7_readSleeper_8 : qd cX7_readSleeper 8 (.iconst 5) 1 9 := ⟨by decide +kernel, rfl⟩
theorem D_X7_readSleeper_9 : qj cX7_readSleeper 9 (.if_icmp .ne 9) (9) 12 18 := ⟨by decide +kernel, rfl, by decide⟩
theorem D_X7_readSleeper_12 : qd cX7_readSleeper 12 (.aload_n 0) 1 13 := ⟨by decide +kernel, rfl⟩
theorem D_X7_readSleeper_13 : qd cX7_readSleeper 13 (.iconst 3) 1 14 := ⟨by decide +kernel, rfl⟩
theorem D_X7_readSleeper_14 : qd cX7_readSleeper 14 (.invokevirtual 111) 3 17 := ⟨by decide +kernel, rfl⟩
theorem D_X7_readSleeper_17 : qd cX7_readSleeper 17 (.ireturn) 1 18 := ⟨by decide +kernel, rfl⟩
theorem D_X7_readSleeper_18 : qd cX7_readSleeper 18 (.aload_n 0) 1 19 := ⟨by decide +kernel, rfl⟩
theorem D_X7_readSleeper_19 : qd cX7_readSleeper 19 (.invokevirtual 114) 3 22 := ⟨by decide +kernel, rfl⟩
theorem D_X7_readSleeper_22 : qd cX7_readSleeper 22 (.aload_n 0) 1 23 := ⟨by decide +kernel, rfl⟩
theorem D_X7_readSleeper_23 : qd cX7_readSleeper 23 (.getfield 28) 3 26 := ⟨by decide +kernel, rfl⟩
theorem D_X7_readSleeper_26 : qd cX7_readSleeper 26 (.bipush 6) 2 28 := ⟨by decide +kernel, rfl⟩
theorem D_X7_readSleeper_28 : qd cX7_readSleeper 28 (.iload_n 2) 1 29 := ⟨by decide +kernel, rfl⟩
theorem D_X7_readSleeper_29 : qd cX7_readSleeper 29 (.iadd) 1 30 := ⟨by decide +kernel, rfl⟩
theorem D_X7_readSleeper_30 : qd cX7_readSleeper 30 (.iload_n 1) 1 31 := ⟨by decide +kernel, rfl⟩
theorem D_X7_readSleeper_31 : qd cX7_readSleeper 31 (.iastore) 1 32 := ⟨by decide +kernel, rfl⟩
theorem D_X7_readSleeper_32 : qd cX7_readSleeper 32 (.aload_n 0) 1 33 := ⟨by decide +kernel, rfl⟩
theorem D_X7_readSleeper_33 : qd cX7_readSleeper 33 (.getfield 28) 3 36 := ⟨by decide +kernel, rfl⟩
theorem D_X7_readSleeper_36 : qd cX7_readSleeper 36 (.iconst 3) 1 37 := ⟨by decide +kernel, rfl⟩
theorem D_X7_readSleeper_37 : qd cX7_readSleeper 37 (.dup2) 1 38 := ⟨by decide +kernel, rfl⟩
theorem D_X7_readSleeper_38 : qd cX7_readSleeper 38 (.iaload) 1 39 := ⟨by decide +kernel, rfl⟩
theorem D_X7_readSleeper_39 : qd cX7_readSleeper 39 (.iconst 1) 1 40 := ⟨by decide +kernel, rfl⟩
theorem D_X7_readSleeper_40 : qd cX7_readSleeper 40 (.iadd) 1 41 := ⟨by decide +kernel, rfl⟩
theorem D_X7_readSleeper_41 : qd cX7_readSleeper 41 (.iastore) 1 42 := ⟨by decide +kernel, rfl⟩
theorem D_X7_readSleeper_42 : qd cX7_readSleeper 42 (.iconst 1) 1 43 := ⟨by decide +kernel, rfl⟩
theorem D_X7_readSleeper_43 : qd cX7_readSleeper 43 (.istore_n 3) 1 44 := ⟨by decide +kernel, rfl⟩
theorem D_X7_readSleeper_44 : qd cX7_readSleeper 44 (.iconst 0) 1 45 := ⟨by decide +kernel, rfl⟩
theorem D_X7_readSleeper_45 : qd cX7_readSleeper 45 (.istore 4) 2 47 := ⟨by decide +kernel, rfl⟩
theorem D_X7_readSleeper_47 : qd cX7_readSleeper 47 (.iload 4) 2 49 := ⟨by decide +kernel, rfl⟩
theorem D_X7_readSleeper_49 : qd cX7_readSleeper 49 (.aload_n 0) 1 50 := ⟨by decide +kernel, rfl⟩
theorem D_X7_readSleeper_50 : qd cX7_readSleeper 50 (.getfield 28) 3 53 := ⟨by decide +kernel, rfl⟩
theorem D_X7_readSleeper_53 : qd cX7_readSleeper 53 (.iconst 0) 1 54 := ⟨by decide +kernel, rfl⟩
theorem D_X7_readSleeper_54 : qd cX7_readSleeper 54 (.iaload) 1 55 := ⟨by decide +kernel, rfl⟩
theorem D_X7_readSleeper_55 : qj cX7_readSleeper 55 (.if_icmp .ge 51) (51) 58 106 := ⟨by decide +kernel, rfl, by decide⟩
theorem D_X7_readSleeper_58 : qd cX7_readSleeper 58 (.iload_n 3) 1 59 := ⟨by decide +kernel, rfl⟩
theorem D_X7_readSleeper_59 : qj cX7_readSleeper 59 (.ifCond .eq 47) (47) 62 106 := ⟨by decide +kernel, rfl, by decide⟩
theorem D_X7_readSleeper_62 : qd cX7_readSleeper 62 (.aload_n 0) 1 63 := ⟨by decide +kernel, rfl⟩
theorem D_X7_readSleeper_63 : qd cX7_readSleeper 63 (.iconst 0) 1 64 := ⟨by decide +kernel, rfl⟩
theorem D_X7_readSleeper_64 : qd cX7_readSleeper 64 (.bipush 27) 2 66 := ⟨by decide +kernel, rfl⟩
theorem D_X7_readSleeper_66 : qd cX7_readSleeper 66 (.bipush 21) 2 68 := ⟨by decide +kernel, rfl⟩
theorem D_X7_readSleeper_68 : qd cX7_readSleeper 68 (.bipush 6) 2 70 := ⟨by decide +kernel, rfl⟩
theorem D_X7_readSleeper_70 : qd cX7_readSleeper 70 (.iload_n 2) 1 71 := ⟨by decide +kernel, rfl⟩
theorem D_X7_readSleeper_71 : qd cX7_readSleeper 71 (.imul) 1 72 := ⟨by decide +kernel, rfl⟩
theorem D_X7_readSleeper_72 : qd cX7_readSleeper 72 (.iadd) 1 73 := ⟨by decide +kernel, rfl⟩
theorem D_X7_readSleeper_73 : qd cX7_readSleeper 73 (.iload 4) 2 75 := ⟨by decide +kernel, rfl⟩
theorem D_X7_readSleeper_75 : qd cX7_readSleeper 75 (.iadd) 1 76 := ⟨by decide +kernel, rfl⟩
theorem D_X7_readSleeper_76 : qd cX7_readSleeper 76 (.iload 4) 2 78 := ⟨by decide +kernel, rfl⟩
theorem D_X7_readSleeper_78 : qd cX7_readSleeper 78 (.iconst 1) 1 79 := ⟨by decide +kernel, rfl⟩
theorem D_X7_readSleeper_79 : qd cX7_readSleeper 79 (.iadd) 1 80 := ⟨by decide +kernel, rfl⟩
theorem D_X7_readSleeper_80 : qd cX7_readSleeper 80 (.aload_n 0) 1 81 := ⟨by decide +kernel, rfl⟩
theorem D_X7_readSleeper_81 : qd cX7_readSleeper 81 (.getfield 28) 3 84 := ⟨by decide +kernel, rfl⟩
theorem D_X7_readSleeper_84 : qd cX7_readSleeper 84 (.iconst 0) 1 85 := ⟨by decide +kernel, rfl⟩
theorem D_X7_readSleeper_85 : qd cX7_readSleeper 85 (.iaload) 1 86 := ⟨by decide +kernel, rfl⟩
theorem D_X7_readSleeper_86 : qj cX7_readSleeper 86 (.if_icmp .ne 8) (8) 89 94 := ⟨by decide +kernel, rfl, by decide⟩
theorem D_X7_readSleeper_89 : qd cX7_readSleeper 89 (.bipush 59) 2 91 := ⟨by decide +kernel, rfl⟩
theorem D_X7_readSleeper_91 : qj cX7_readSleeper 91 (.goto 5) (5) 94 96 := ⟨by decide +kernel, rfl, by decide⟩
theorem D_X7_readSleeper_94 : qd cX7_readSleeper 94 (.bipush 44) 2 96 := ⟨by decide +kernel, rfl⟩
theorem D_X7_readSleeper_96 : qd cX7_readSleeper 96 (.invokevirtual 120) 3 99 := ⟨by decide +kernel, rfl⟩
theorem D_X7_readSleeper_99 : qd cX7_readSleeper 99 (.istore_n 3) 1 100 := ⟨by decide +kernel, rfl⟩
theorem D_X7_readSleeper_100 : qd cX7_readSleeper 100 (.iinc 4 1) 3 103 := ⟨by decide +kernel, rfl⟩
theorem D_X7_readSleeper_103 : qj cX7_readSleeper 103 (.goto (-56)) (-56) 106 47 := ⟨by decide +kernel, rfl, by decide⟩
theorem D_X7_readSleeper_106 : qd cX7_readSleeper 106 (.iload_n 3) 1 107 := ⟨by decide +kernel, rfl⟩
theorem D_X7_readSleeper_107 : qd cX7_readSleeper 107 (.ireturn) 1 108 := ⟨by decide +kernel, rfl⟩
theorem D_X7_readYard_0 : qd cX7_readYard 0 (.aload_n 0) 1 1 := ⟨by decide +kernel, rfl⟩
theorem D_X7_readYard_1 : qd cX7_readYard 1 (.iconst 0) 1 2 := ⟨by decide +kernel, rfl⟩
theorem D_X7_readYard_2 : qd cX7_readYard 2 (.putfield 85) 3 5 := ⟨by decide +kernel, rfl⟩
theorem D_X7_readYard_5 : qd cX7_readYard 5 (.iconst 0) 1 6 := ⟨by decide +kernel, rfl⟩
theorem D_X7_readYard_6 : qd cX7_readYard 6 (.istore_n 1) 1 7 := ⟨by decide +kernel, rfl⟩
theorem D_X7_readYard_7 : qd cX7_readYard 7 (.iload_n 1) 1 8 := ⟨by decide +kernel, rfl⟩
theorem D_X7_readYard_8 : qd cX7_readYard 8 (.bipush 51) 2 10 := ⟨by decide +kernel, rfl⟩
theorem D_X7_readYard_10 : qj cX7_readYard 10 (.if_icmp .ge 16) (16) 13 26 := ⟨by decide +kernel, rfl, by decide⟩
theorem D_X7_readYard_13 : qd cX7_readYard 13 (.aload_n 0) 1 14 := ⟨by decide +kernel, rfl⟩
theorem D_X7_readYard_14 : qd cX7_readYard 14 (.getfield 28) 3 17 := ⟨by decide +kernel, rfl⟩
theorem D_X7_readYard_17 : qd cX7_readYard 17 (.iload_n 1) 1 18 := ⟨by decide +kernel, rfl⟩
theorem D_X7_readYard_18 : qd cX7_readYard 18 (.iconst 0) 1 19 := ⟨by decide +kernel, rfl⟩
theorem D_X7_readYard_19 : qd cX7_readYard 19 (.iastore) 1 20 := ⟨by decide +kernel, rfl⟩
theorem D_X7_readYard_20 : qd cX7_readYard 20 (.iinc 1 1) 3 23 := ⟨by decide +kernel, rfl⟩
theorem D_X7_readYard_23 : qj cX7_readYard 23 (.goto (-16)) (-16) 26 7 := ⟨by decide +kernel, rfl, by decide⟩
theorem D_X7_readYard_26 : qd cX7_readYard 26 (.aload_n 0) 1 27 := ⟨by decide +kernel, rfl⟩
theorem D_X7_readYard_27 : qd cX7_readYard 27 (.invokevirtual 114) 3 30 := ⟨by decide +kernel, rfl⟩
theorem D_X7_readYard_30 : qd cX7_readYard 30 (.aload_n 0) 1 31 := ⟨by decide +kernel, rfl⟩
theorem D_X7_readYard_31 : qd cX7_readYard 31 (.bipush 103) 2 33 := ⟨by decide +kernel, rfl⟩
theorem D_X7_readYard_33 : qd cX7_readYard 33 (.invokevirtual 117) 3 36 := ⟨by decide +kernel, rfl⟩
theorem D_X7_readYard_36 : qj cX7_readYard 36 (.ifCond .eq 42) (42) 39 78 := ⟨by decide +kernel, rfl, by decide⟩
theorem D_X7_readYard_39 : qd cX7_readYard 39 (.aload_n 0) 1 40 := ⟨by decide +kernel, rfl⟩
theorem D_X7_readYard_40 : qd cX7_readYard 40 (.iconst 1) 1 41 := ⟨by decide +kernel, rfl⟩
theorem D_X7_readYard_41 : qd cX7_readYard 41 (.bipush 6) 2 43 := ⟨by decide +kernel, rfl⟩
theorem D_X7_readYard_43 : qd cX7_readYard 43 (.iconst 0) 1 44 := ⟨by decide +kernel, rfl⟩
theorem D_X7_readYard_44 : qd cX7_readYard 44 (.bipush 44) 2 46 := ⟨by decide +kernel, rfl⟩
theorem D_X7_readYard_46 : qd cX7_readYard 46 (.invokevirtual 120) 3 49 := ⟨by decide +kernel, rfl⟩
theorem D_X7_readYard_49 : qj cX7_readYard 49 (.ifCond .eq 29) (29) 52 78 := ⟨by decide +kernel, rfl, by decide⟩
theorem D_X7_readYard_52 : qd cX7_readYard 52 (.aload_n 0) 1 53 := ⟨by decide +kernel, rfl⟩
theorem D_X7_readYard_53 : qd cX7_readYard 53 (.iconst 1) 1 54 := ⟨by decide +kernel, rfl⟩
theorem D_X7_readYard_54 : qd cX7_readYard 54 (.bipush 9) 2 56 := ⟨by decide +kernel, rfl⟩
theorem D_X7_readYard_56 : qd cX7_readYard 56 (.iconst 1) 1 57 := ⟨by decide +kernel, rfl⟩
theorem D_X7_readYard_57 : qd cX7_readYard 57 (.bipush 44) 2 59 := ⟨by decide +kernel, rfl⟩
theorem D_X7_readYard_59 : qd cX7_readYard 59 (.invokevirtual 120) 3 62 := ⟨by decide +kernel, rfl⟩
theorem D_X7_readYard_62 : qj cX7_readYard 62 (.ifCond .eq 16) (16) 65 78 := ⟨by decide +kernel, rfl, by decide⟩
theorem D_X7_readYard_65 : qd cX7_readYard 65 (.aload_n 0) 1 66 := ⟨by decide +kernel, rfl⟩
theorem D_X7_readYard_66 : qd cX7_readYard 66 (.iconst 2) 1 67 := ⟨by decide +kernel, rfl⟩
theorem D_X7_readYard_67 : qd cX7_readYard 67 (.bipush 9) 2 69 := ⟨by decide +kernel, rfl⟩
theorem D_X7_readYard_69 : qd cX7_readYard 69 (.iconst 2) 1 70 := ⟨by decide +kernel, rfl⟩
theorem D_X7_readYard_70 : qd cX7_readYard 70 (.bipush 59) 2 72 := ⟨by decide +kernel, rfl⟩
theorem D_X7_readYard_72 : qd cX7_readYard 72 (.invokevirtual 120) 3 75 := ⟨by decide +kernel, rfl⟩
theorem D_X7_readYard_75 : qj cX7_readYard 75 (.ifCond .ne 5) (5) 78 80 := ⟨by decide +kernel, rfl, by decide⟩
theorem D_X7_readYard_78 : qd cX7_readYard 78 (.iconst 0) 1 79 := ⟨by decide +kernel, rfl⟩
theorem D_X7_readYard_79 : qd cX7_readYard 79 (.ireturn) 1 80 := ⟨by decide +kernel, rfl⟩
theorem D_X7_readYard_80 : qd cX7_readYard 80 (.iconst 1) 1 81 := ⟨by decide +kernel, rfl⟩
theorem D_X7_readYard_81 : qd cX7_readYard 81 (.istore_n 1) 1 82 := ⟨by decide +kernel, rfl⟩
theorem D_X7_readYard_82 : qd cX7_readYard 82 (.iload_n 1) 1 83 := ⟨by decide +kernel, rfl⟩
theorem D_X7_readYard_83 : qj cX7_readYard 83 (.ifCond .eq 108) (108) 86 191 := ⟨by decide +kernel, rfl, by decide⟩
theorem D_X7_readYard_86 : qd cX7_readYard 86 (.aload_n 0) 1 87 := ⟨by decide +kernel, rfl⟩
theorem D_X7_readYard_87 : qd cX7_readYard 87 (.getfield 91) 3 90 := ⟨by decide +kernel, rfl⟩
theorem D_X7_readYard_90 : qd cX7_readYard 90 (.iconst 3) 1 91 := ⟨by decide +kernel, rfl⟩
theorem D_X7_readYard_91 : qj cX7_readYard 91 (.if_icmp .ne 12) (12) 94 103 := ⟨by decide +kernel, rfl, by decide⟩
theorem D_X7_readYard_94 : qd cX7_readYard 94 (.aload_n 0) 1 95 := ⟨by decide +kernel, rfl⟩
theorem D_X7_readYard_95 : qd cX7_readYard 95 (.getfield 28) 3 98 := ⟨by decide +kernel, rfl⟩
theorem D_X7_readYard_98 : qd cX7_readYard 98 (.iconst 3) 1 99 := ⟨by decide +kernel, rfl⟩
theorem D_X7_readYard_99 : qd cX7_readYard 99 (.iaload) 1 100 := ⟨by decide +kernel, rfl⟩
theorem D_X7_readYard_100 : qj cX7_readYard 100 (.ifCond .ne 91) (91) 103 191 := ⟨by decide +kernel, rfl, by decide⟩
theorem D_X7_readYard_103 : qd cX7_readYard 103 (.aload_n 0) 1 104 := ⟨by decide +kernel, rfl⟩
theorem D_X7_readYard_104 : qd cX7_readYard 104 (.bipush 100) 2 106 := ⟨by decide +kernel, rfl⟩
theorem D_X7_readYard_106 : qd cX7_readYard 106 (.invokevirtual 108) 3 109 := ⟨by decide +kernel, rfl⟩
theorem D_X7_readYard_109 : qj cX7_readYard 109 (.ifCond .eq 7) (7) 112 116 := ⟨by decide +kernel, rfl, by decide⟩
theorem D_X7_readYard_112 : qd cX7_readYard 112 (.iconst 1) 1 113 := ⟨by decide +kernel, rfl⟩
theorem D_X7_readYard_113 : qj cX7_readYard 113 (.goto 56) (56) 116 169 := ⟨by decide +kernel, rfl, by decide⟩
theorem D_X7_readYard_116 : qd cX7_readYard 116 (.aload_n 0) 1 117 := ⟨by decide +kernel, rfl⟩
theorem D_X7_readYard_117 : qd cX7_readYard 117 (.bipush 116) 2 119 := ⟨by decide +kernel, rfl⟩
theorem D_X7_readYard_119 : qd cX7_readYard 119 (.invokevirtual 108) 3 122 := ⟨by decide +kernel, rfl⟩
theorem D_X7_readYard_122 : qj cX7_readYard 122 (.ifCond .eq 7) (7) 125 129 := ⟨by decide +kernel, rfl, by decide⟩
theorem D_X7_readYard_125 : qd cX7_readYard 125 (.iconst 2) 1 126 := ⟨by decide +kernel, rfl⟩
theorem D_X7_readYard_126 : qj cX7_readYard 126 (.goto 43) (43) 129 169 := ⟨by decide +kernel, rfl, by decide⟩
theorem D_X7_readYard_129 : qd cX7_readYard 129 (.aload_n 0) 1 130 := ⟨by decide +kernel, rfl⟩
theorem D_X7_readYard_130 : qd cX7_readYard 130 (.bipush 119) 2 132 := ⟨by decide +kernel, rfl⟩
theorem D_X7_readYard_132 : qd cX7_readYard 132 (.invokevirtual 108) 3 135 := ⟨by decide +kernel, rfl⟩
theorem D_X7_readYard_135 : qj cX7_readYard 135 (.ifCond .eq 7) (7) 138 142 := ⟨by decide +kernel, rfl, by decide⟩
theorem D_X7_readYard_138 : qd cX7_readYard 138 (.iconst 3) 1 139 := ⟨by decide +kernel, rfl⟩
theorem D_X7_readYard_139 : qj cX7_readYard 139 (.goto 30) (30) 142 169 := ⟨by decide +kernel, rfl, by decide⟩
theorem D_X7_readYard_142 : qd cX7_readYard 142 (.aload_n 0) 1 143 := ⟨by decide +kernel, rfl⟩
theorem D_X7_readYard_143 : qd cX7_readYard 143 (.bipush 115) 2 145 := ⟨by decide +kernel, rfl⟩
theorem D_X7_readYard_145 : qd cX7_readYard 145 (.invokevirtual 108) 3 148 := ⟨by decide +kernel, rfl⟩
theorem D_X7_readYard_148 : qj cX7_readYard 148 (.ifCond .eq 7) (7) 151 155 := ⟨by decide +kernel, rfl, by decide⟩
theorem D_X7_readYard_151 : qd cX7_readYard 151 (.iconst 4) 1 152 := ⟨by decide +kernel, rfl⟩
theorem D_X7_readYard_152 : qj cX7_readYard 152 (.goto 17) (17) 155 169 := ⟨by decide +kernel, rfl, by decide⟩
theorem D_X7_readYard_155 : qd cX7_readYard 155 (.aload_n 0) 1 156 := ⟨by decide +kernel, rfl⟩
theorem D_X7_readYard_156 : qd cX7_readYard 156 (.bipush 109) 2 158 := ⟨by decide +kernel, rfl⟩
theorem D_X7_readYard_158 : qd cX7_readYard 158 (.invokevirtual 108) 3 161 := ⟨by decide +kernel, rfl⟩
theorem D_X7_readYard_161 : qj cX7_readYard 161 (.ifCond .eq 7) (7) 164 168 := ⟨by decide +kernel, rfl, by decide⟩
theorem D_X7_readYard_164 : qd cX7_readYard 164 (.iconst 5) 1 165 := ⟨by decide +kernel, rfl⟩
theorem D_X7_readYard_165 : qj cX7_readYard 165 (.goto 4) (4) 168 169 := ⟨by decide +kernel, rfl, by decide⟩
theorem D_X7_readYard_168 : qd cX7_readYard 168 (.iconst 0) 1 169 := ⟨by decide +kernel, rfl⟩
theorem D_X7_readYard_169 : qd cX7_readYard 169 (.istore_n 2) 1 170 := ⟨by decide +kernel, rfl⟩
theorem D_X7_readYard_170 : qd cX7_readYard 170 (.iload_n 2) 1 171 := ⟨by decide +kernel, rfl⟩
theorem D_X7_readYard_171 : qj cX7_readYard 171 (.ifCond .le 11) (11) 174 182 := ⟨by decide +kernel, rfl, by decide⟩
theorem D_X7_readYard_174 : qd cX7_readYard 174 (.aload_n 0) 1 175 := ⟨by decide +kernel, rfl⟩
theorem D_X7_readYard_175 : qd cX7_readYard 175 (.iload_n 2) 1 176 := ⟨by decide +kernel, rfl⟩
theorem D_X7_readYard_176 : qd cX7_readYard 176 (.invokevirtual 124) 3 179 := ⟨by decide +kernel, rfl⟩
theorem D_X7_readYard_179 : qj cX7_readYard 179 (.goto 8) (8) 182 187 := ⟨by decide +kernel, rfl, by decide⟩
theorem D_X7_readYard_182 : qd cX7_readYard 182 (.aload_n 0) 1 183 := ⟨by decide +kernel, rfl⟩
theorem D_X7_readYard_183 : qd cX7_readYard 183 (.iconst 1) 1 184 := ⟨by decide +kernel, rfl⟩
theorem D_X7_readYard_184 : qd cX7_readYard 184 (.invokevirtual 111) 3 187 := ⟨by decide +kernel, rfl⟩
theorem D_X7_readYard_187 : qd cX7_readYard 187 (.istore_n 1) 1 188 := ⟨by decide +kernel, rfl⟩
theorem D_X7_readYard_188 : qj cX7_readYard 188 (.goto (-106)) (-106) 191 82 := ⟨by decide +kernel, rfl, by decide⟩
theorem D_X7_readYard_191 : qd cX7_readYard 191 (.iload_n 1) 1 192 := ⟨by decide +kernel, rfl⟩
theorem D_X7_readYard_192 : qd cX7_readYard 192 (.ireturn) 1 193 := ⟨by decide +kernel, rfl⟩
theorem D_X7_restore_0 : qd cX7_restore 0 (.iload_n 1) 1 1 := ⟨by decide +kernel, rfl⟩
theorem D_X7_restore_1 : qd cX7_restore 1 (.i2l) 1 2 := ⟨by decide +kernel, rfl⟩
theorem D_X7_restore_2 : qd cX7_restore 2 (.lconst 0) 1 3 := ⟨by decide +kernel, rfl⟩
theorem D_X7_restore_3 : qd cX7_restore 3 (.lconst 1) 1 4 := ⟨by decide +kernel, rfl⟩
theorem D_X7_restore_4 : qd cX7_restore 4 (.invokestatic 57) 3 7 := ⟨by decide +kernel, rfl⟩
theorem D_X7_restore_7 : qj cX7_restore 7 (.ifCond .ne 6) (6) 10 13 := ⟨by decide +kernel, rfl, by decide⟩
theorem D_X7_restore_10 : qd cX7_restore 10 (.ldc 67) 2 12 := ⟨by decide +kernel, rfl⟩
theorem D_X7_restore_12 : qd cX7_restore 12 (.ireturn) 1 13 := ⟨by decide +kernel, rfl⟩
theorem D_X7_restore_13 : qd cX7_restore 13 (.aload_n 0) 1 14 := ⟨by decide +kernel, rfl⟩
theorem D_X7_restore_14 : qd cX7_restore 14 (.getfield 40) 3 17 := ⟨by decide +kernel, rfl⟩
theorem D_X7_restore_17 : qd cX7_restore 17 (.iload_n 1) 1 18 := ⟨by decide +kernel, rfl⟩
theorem D_X7_restore_18 : qd cX7_restore 18 (.baload) 1 19 := ⟨by decide +kernel, rfl⟩
theorem D_X7_restore_19 : qj cX7_restore 19 (.ifCond .ne 6) (6) 22 25 := ⟨by decide +kernel, rfl, by decide⟩
theorem D_X7_restore_22 : qd cX7_restore 22 (.ldc 162) 2 24 := ⟨by decide +kernel, rfl⟩
theorem D_X7_restore_24 : qd cX7_restore 24 (.ireturn) 1 25 := ⟨by decide +kernel, rfl⟩
theorem D_X7_restore_25 : qd cX7_restore 25 (.iconst 0) 1 26 := ⟨by decide +kernel, rfl⟩
theorem D_X7_restore_26 : qd cX7_restore 26 (.istore_n 2) 1 27 := ⟨by decide +kernel, rfl⟩
theorem D_X7_restore_27 : qd cX7_restore 27 (.iload_n 2) 1 28 := ⟨by decide +kernel, rfl⟩
theorem D_X7_restore_28 : qd cX7_restore 28 (.bipush 51) 2 30 := ⟨by decide +kernel, rfl⟩
theorem D_X7_restore_30 : qj cX7_restore 30 (.if_icmp .ge 26) (26) 33 56 := ⟨by decide +kernel, rfl, by decide⟩
theorem D_X7_restore_33 : qd cX7_restore 33 (.aload_n 0) 1 34 := ⟨by decide +kernel, rfl⟩
theorem D_X7_restore_34 : qd cX7_restore 34 (.getfield 19) 3 37 := ⟨by decide +kernel, rfl⟩
theorem D_X7_restore_37 : qd cX7_restore 37 (.iload_n 2) 1 38 := ⟨by decide +kernel, rfl⟩
theorem D_X7_restore_38 : qd cX7_restore 38 (.aload_n 0) 1 39 := ⟨by decide +kernel, rfl⟩
theorem D_X7_restore_39 : qd cX7_restore 39 (.getfield 44) 3 42 := ⟨by decide +kernel, rfl⟩
theorem D_X7_restore_42 : qd cX7_restore 42 (.bipush 51) 2 44 := ⟨by decide +kernel, rfl⟩
theorem D_X7_restore_44 : qd cX7_restore 44 (.iload_n 1) 1 45 := ⟨by decide +kernel, rfl⟩
theorem D_X7_restore_45 : qd cX7_restore 45 (.imul) 1 46 := ⟨by decide +kernel, rfl⟩
theorem D_X7_restore_46 : qd cX7_restore 46 (.iload_n 2) 1 47 := ⟨by decide +kernel, rfl⟩
theorem D_X7_restore_47 : qd cX7_restore 47 (.iadd) 1 48 := ⟨by decide +kernel, rfl⟩
theorem D_X7_restore_48 : qd cX7_restore 48 (.iaload) 1 49 := ⟨by decide +kernel, rfl⟩
theorem D_X7_restore_49 : qd cX7_restore 49 (.iastore) 1 50 := ⟨by decide +kernel, rfl⟩
theorem D_X7_restore_50 : qd cX7_restore 50 (.iinc 2 1) 3 53 := ⟨by decide +kernel, rfl⟩
theorem D_X7_restore_53 : qj cX7_restore 53 (.goto (-26)) (-26) 56 27 := ⟨by decide +kernel, rfl, by decide⟩
theorem D_X7_restore_56 : qd cX7_restore 56 (.aload_n 0) 1 57 := ⟨by decide +kernel, rfl⟩
theorem D_X7_restore_57 : qd cX7_restore 57 (.iconst 0) 1 58 := ⟨by decide +kernel, rfl⟩
theorem D_X7_restore_58 : qd cX7_restore 58 (.putfield 139) 3 61 := ⟨by decide +kernel, rfl⟩
theorem D_X7_restore_61 : qd cX7_restore 61 (.iconst 1) 1 62 := ⟨by decide +kernel, rfl⟩
theorem D_X7_restore_62 : qd cX7_restore 62 (.ireturn) 1 63 := ⟨by decide +kernel, rfl⟩
theorem D_X7_row_0 : qd cX7_row 0 (.iload_n 1) 1 1 := ⟨by decide +kernel, rfl⟩
theorem D_X7_row_1 : qd cX7_row 1 (.invokestatic 61) 3 4 := ⟨by decide +kernel, rfl⟩
theorem D_X7_row_4 : qj cX7_row 4 (.ifCond .eq 21) (21) 7 25 := ⟨by decide +kernel, rfl, by decide⟩
theorem D_X7_row_7 : qd cX7_row 7 (.iload_n 2) 1 8 := ⟨by decide +kernel, rfl⟩
theorem D_X7_row_8 : qd cX7_row 8 (.i2l) 1 9 := ⟨by decide +kernel, rfl⟩
theorem D_X7_row_9 : qd cX7_row 9 (.lconst 0) 1 10 := ⟨by decide +kernel, rfl⟩
theorem D_X7_row_10 : qd cX7_row 10 (.ldc2_w 65) 3 13 := ⟨by decide +kernel, rfl⟩
theorem D_X7_row_13 : qd cX7_row 13 (.invokestatic 57) 3 16 := ⟨by decide +kernel, rfl⟩
theorem D_X7_row_16 : qj cX7_row 16 (.ifCond .eq 9) (9) 19 25 := ⟨by decide +kernel, rfl, by decide⟩
theorem D_X7_row_19 : qd cX7_row 19 (.iload_n 3) 1 20 := ⟨by decide +kernel, rfl⟩
theorem D_X7_row_20 : qd cX7_row 20 (.bipush 40) 2 22 := ⟨by decide +kernel, rfl⟩
theorem D_X7_row_22 : qj cX7_row 22 (.if_icmp .le 6) (6) 25 28 := ⟨by decide +kernel, rfl, by decide⟩
theorem D_X7_row_25 : qd cX7_row 25 (.ldc 67) 2 27 := ⟨by decide +kernel, rfl⟩
theorem D_X7_row_27 : qd cX7_row 27 (.ireturn) 1 28 := ⟨by decide +kernel, rfl⟩
theorem D_X7_row_28 : qd cX7_row 28 (.iload_n 3) 1 29 := ⟨by decide +kernel, rfl⟩
theorem D_X7_row_29 : qj cX7_row 29 (.ifCond .ge 9) (9) 32 38 := ⟨by decide +kernel, rfl, by decide⟩
theorem D_X7_row_32 : qd cX7_row 32 (.aload_n 0) 1 33 := ⟨by decide +kernel, rfl⟩
theorem D_X7_row_33 : qd cX7_row 33 (.iconst 4) 1 34 := ⟨by decide +kernel, rfl⟩
theorem D_X7_row_34 : qd cX7_row 34 (.invokevirtual 68) 3 37 := ⟨by decide +kernel, rfl⟩
theorem D_X7_row_37 : qd cX7_row 37 (.ireturn) 1 38 := ⟨by decide +kernel, rfl⟩
theorem D_X7_row_38 : qd cX7_row 38 (.aload_n 0) 1 39 := ⟨by decide +kernel, rfl⟩
theorem D_X7_row_39 : qd cX7_row 39 (.getfield 7) 3 42 := ⟨by decide +kernel, rfl⟩
theorem D_X7_row_42 : qd cX7_row 42 (.iload_n 1) 1 43 := ⟨by decide +kernel, rfl⟩
theorem D_X7_row_43 : qd cX7_row 43 (.iload_n 2) 1 44 := ⟨by decide +kernel, rfl⟩
theorem D_X7_row_44 : qd cX7_row 44 (.iastore) 1 45 := ⟨by decide +kernel, rfl⟩
theorem D_X7_row_45 : qd cX7_row 45 (.aload_n 0) 1 46 := ⟨by decide +kernel, rfl⟩
theorem D_X7_row_46 : qd cX7_row 46 (.getfield 13) 3 49 := ⟨by decide +kernel, rfl⟩
theorem D_X7_row_49 : qd cX7_row 49 (.iload_n 1) 1 50 := ⟨by decide +kernel, rfl⟩
theorem D_X7_row_50 : qd cX7_row 50 (.iload_n 3) 1 51 := ⟨by decide +kernel, rfl⟩
theorem D_X7_row_51 : qd cX7_row 51 (.iastore) 1 52 := ⟨by decide +kernel, rfl⟩
theorem D_X7_row_52 : qd cX7_row 52 (.iconst 0) 1 53 := ⟨by decide +kernel, rfl⟩
theorem D_X7_row_53 : qd cX7_row 53 (.istore 4) 2 55 := ⟨by decide +kernel, rfl⟩
theorem D_X7_row_55 : qd cX7_row 55 (.iload 4) 2 57 := ⟨by decide +kernel, rfl⟩
theorem D_X7_row_57 : qd cX7_row 57 (.bipush 40) 2 59 := ⟨by decide +kernel, rfl⟩
theorem D_X7_row_59 : qj cX7_row 59 (.if_icmp .ge 22) (22) 62 81 := ⟨by decide +kernel, rfl, by decide⟩
theorem D_X7_row_62 : qd cX7_row 62 (.aload_n 0) 1 63 := ⟨by decide +kernel, rfl⟩
theorem D_X7_row_63 : qd cX7_row 63 (.getfield 16) 3 66 := ⟨by decide +kernel, rfl⟩
theorem D_X7_row_66 : qd cX7_row 66 (.bipush 40) 2 68 := ⟨by decide +kernel, rfl⟩
theorem D_X7_row_68 : qd cX7_row 68 (.iload_n 1) 1 69 := ⟨by decide +kernel, rfl⟩
theorem D_X7_row_69 : qd cX7_row 69 (.imul) 1 70 := ⟨by decide +kernel, rfl⟩
theorem D_X7_row_70 : qd cX7_row 70 (.iload 4) 2 72 := ⟨by decide +kernel, rfl⟩
theorem D_X7_row_72 : qd cX7_row 72 (.iadd) 1 73 := ⟨by decide +kernel, rfl⟩
theorem D_X7_row_73 : qd cX7_row 73 (.iconst 0) 1 74 := ⟨by decide +kernel, rfl⟩
theorem D_X7_row_74 : qd cX7_row 74 (.iastore) 1 75 := ⟨by decide +kernel, rfl⟩
theorem D_X7_row_75 : qd cX7_row 75 (.iinc 4 1) 3 78 := ⟨by decide +kernel, rfl⟩
theorem D_X7_row_78 : qj cX7_row 78 (.goto (-23)) (-23) 81 55 := ⟨by decide +kernel, rfl, by decide⟩
theorem D_X7_row_81 : qd cX7_row 81 (.aload_n 0) 1 82 := ⟨by decide +kernel, rfl⟩
theorem D_X7_row_82 : qd cX7_row 82 (.iload_n 3) 1 83 := ⟨by decide +kernel, rfl⟩
theorem D_X7_row_83 : qd cX7_row 83 (.invokevirtual 72) 3 86 := ⟨by decide +kernel, rfl⟩
theorem D_X7_row_86 : qd cX7_row 86 (.ireturn) 1 87 := ⟨by decide +kernel, rfl⟩
theorem D_X7_set_0 : qd cX7_set 0 (.iload_n 1) 1 1 := ⟨by decide +kernel, rfl⟩
theorem D_X7_set_1 : qd cX7_set 1 (.invokestatic 61) 3 4 := ⟨by decide +kernel, rfl⟩
theorem D_X7_set_4 : qj cX7_set 4 (.ifCond .ne 6) (6) 7 10 := ⟨by decide +kernel, rfl, by decide⟩
theorem D_X7_set_7 : qd cX7_set 7 (.ldc 67) 2 9 := ⟨by decide +kernel, rfl⟩
theorem D_X7_set_9 : qd cX7_set 9 (.ireturn) 1 10 := ⟨by decide +kernel, rfl⟩
theorem D_X7_set_10 : qd cX7_set 10 (.aload_n 0) 1 11 := ⟨by decide +kernel, rfl⟩
theorem D_X7_set_11 : qd cX7_set 11 (.getfield 13) 3 14 := ⟨by decide +kernel, rfl⟩
theorem D_X7_set_14 : qd cX7_set 14 (.iload_n 1) 1 15 := ⟨by decide +kernel, rfl⟩
theorem D_X7_set_15 : qd cX7_set 15 (.iaload) 1 16 := ⟨by decide +kernel, rfl⟩
theorem D_X7_set_16 : qj cX7_set 16 (.ifCond .ge 9) (9) 19 25 := ⟨by decide +kernel, rfl, by decide⟩
theorem D_X7_set_19 : qd cX7_set 19 (.aload_n 0) 1 20 := ⟨by decide +kernel, rfl⟩
theorem D_X7_set_20 : qd cX7_set 20 (.iconst 1) 1 21 := ⟨by decide +kernel, rfl⟩
theorem D_X7_set_21 : qd cX7_set 21 (.invokevirtual 68) 3 24 := ⟨by decide +kernel, rfl⟩
theorem D_X7_set_24 : qd cX7_set 24 (.ireturn) 1 25 := ⟨by decide +kernel, rfl⟩
theorem D_X7_set_25 : qd cX7_set 25 (.iload_n 2) 1 26 := ⟨by decide +kernel, rfl⟩
theorem D_X7_set_26 : qd cX7_set 26 (.i2l) 1 27 := ⟨by decide +kernel, rfl⟩
theorem D_X7_set_27 : qd cX7_set 27 (.lconst 0) 1 28 := ⟨by decide +kernel, rfl⟩
theorem D_X7_set_28 : qd cX7_set 28 (.aload_n 0) 1 29 := ⟨by decide +kernel, rfl⟩
theorem D_X7_set_29 : qd cX7_set 29 (.getfield 13) 3 32 := ⟨by decide +kernel, rfl⟩
theorem D_X7_set_32 : qd cX7_set 32 (.iload_n 1) 1 33 := ⟨by decide +kernel, rfl⟩
theorem D_X7_set_33 : qd cX7_set 33 (.iaload) 1 34 := ⟨by decide +kernel, rfl⟩
theorem D_X7_set_34 : qd cX7_set 34 (.iconst 1) 1 35 := ⟨by decide +kernel, rfl⟩
theorem D_X7_set_35 : qd cX7_set 35 (.isub) 1 36 := ⟨by decide +kernel, rfl⟩
theorem D_X7_set_36 : qd cX7_set 36 (.i2l) 1 37 := ⟨by decide +kernel, rfl⟩
theorem D_X7_set_37 : qd cX7_set 37 (.invokestatic 57) 3 40 := ⟨by decide +kernel, rfl⟩
theorem D_X7_set_40 : qj cX7_set 40 (.ifCond .ne 9) (9) 43 49 := ⟨by decide +kernel, rfl, by decide⟩
theorem D_X7_set_43 : qd cX7_set 43 (.aload_n 0) 1 44 := ⟨by decide +kernel, rfl⟩
theorem D_X7_set_44 : qd cX7_set 44 (.iconst 2) 1 45 := ⟨by decide +kernel, rfl⟩
theorem D_X7_set_45 : qd cX7_set 45 (.invokevirtual 68) 3 48 := ⟨by decide +kernel, rfl⟩
theorem D_X7_set_48 : qd cX7_set 48 (.ireturn) 1 49 := ⟨by decide +kernel, rfl⟩
theorem D_X7_set_49 : qd cX7_set 49 (.aload_n 0) 1 50 := ⟨by decide +kernel, rfl⟩
theorem D_X7_set_50 : qd cX7_set 50 (.getfield 16) 3 53 := ⟨by decide +kernel, rfl⟩
theorem D_X7_set_53 : qd cX7_set 53 (.bipush 40) 2 55 := ⟨by decide +kernel, rfl⟩
theorem D_X7_set_55 : qd cX7_set 55 (.iload_n 1) 1 56 := ⟨by decide +kernel, rfl⟩
theorem D_X7_set_56 : qd cX7_set 56 (.imul) 1 57 := ⟨by decide +kernel, rfl⟩
theorem D_X7_set_57 : qd cX7_set 57 (.iload_n 2) 1 58 := ⟨by decide +kernel, rfl⟩
theorem D_X7_set_58 : qd cX7_set 58 (.iadd) 1 59 := ⟨by decide +kernel, rfl⟩
theorem D_X7_set_59 : qd cX7_set 59 (.aload_n 0) 1 60 := ⟨by decide +kernel, rfl⟩
theorem D_X7_set_60 : qd cX7_set 60 (.getfield 7) 3 63 := ⟨by decide +kernel, rfl⟩
theorem D_X7_set_63 : qd cX7_set 63 (.iload_n 1) 1 64 := ⟨by decide +kernel, rfl⟩
theorem D_X7_set_64 : qd cX7_set 64 (.iaload) 1 65 := ⟨by decide +kernel, rfl⟩
theorem D_X7_set_65 : qd cX7_set 65 (.iload_n 3) 1 66 := ⟨by decide +kernel, rfl⟩
theorem D_X7_set_66 : qd cX7_set 66 (.invokestatic 75) 3 69 := ⟨by decide +kernel, rfl⟩
theorem D_X7_set_69 : qd cX7_set 69 (.iastore) 1 70 := ⟨by decide +kernel, rfl⟩
theorem D_X7_set_70 : qd cX7_set 70 (.aload_n 0) 1 71 := ⟨by decide +kernel, rfl⟩
theorem D_X7_set_71 : qd cX7_set 71 (.aload_n 0) 1 72 := ⟨by decide +kernel, rfl⟩
theorem D_X7_set_72 : qd cX7_set 72 (.getfield 16) 3 75 := ⟨by decide +kernel, rfl⟩
theorem D_X7_set_75 : qd cX7_set 75 (.bipush 40) 2 77 := ⟨by decide +kernel, rfl⟩
theorem D_X7_set_77 : qd cX7_set 77 (.iload_n 1) 1 78 := ⟨by decide +kernel, rfl⟩
theorem D_X7_set_78 : qd cX7_set 78 (.imul) 1 79 := ⟨by decide +kernel, rfl⟩
theorem D_X7_set_79 : qd cX7_set 79 (.iload_n 2) 1 80 := ⟨by decide +kernel, rfl⟩
theorem D_X7_set_80 : qd cX7_set 80 (.iadd) 1 81 := ⟨by decide +kernel, rfl⟩
theorem D_X7_set_81 : qd cX7_set 81 (.iaload) 1 82 := ⟨by decide +kernel, rfl⟩
theorem D_X7_set_82 : qd cX7_set 82 (.invokevirtual 72) 3 85 := ⟨by decide +kernel, rfl⟩
theorem D_X7_set_85 : qd cX7_set 85 (.ireturn) 1 86 := ⟨by decide +kernel, rfl⟩
theorem D_X7_sizeOf_0 : qd cX7_sizeOf 0 (.aload_n 0) 1 1 := ⟨by decide +kernel, rfl⟩
theorem D_X7_sizeOf_1 : qd cX7_sizeOf 1 (.getfield 19) 3 4 := ⟨by decide +kernel, rfl⟩
theorem D_X7_sizeOf_4 : qd cX7_sizeOf 4 (.bipush 6) 2 6 := ⟨by decide +kernel, rfl⟩
theorem D_X7_sizeOf_6 : qd cX7_sizeOf 6 (.iload_n 1) 1 7 := ⟨by decide +kernel, rfl⟩
theorem D_X7_sizeOf_7 : qd cX7_sizeOf 7 (.iadd) 1 8 := ⟨by decide +kernel, rfl⟩
theorem D_X7_sizeOf_8 : qd cX7_sizeOf 8 (.iaload) 1 9 := ⟨by decide +kernel, rfl⟩
theorem D_X7_sizeOf_9 : qd cX7_sizeOf 9 (.istore_n 2) 1 10 := ⟨by decide +kernel, rfl⟩
theorem D_X7_sizeOf_10 : qd cX7_sizeOf 10 (.iload_n 2) 1 11 := ⟨by decide +kernel, rfl⟩
theorem D_X7_sizeOf_11 : qd cX7_sizeOf 11 (.iconst 2) 1 12 := ⟨by decide +kernel, rfl⟩
theorem D_X7_sizeOf_12 : qj cX7_sizeOf 12 (.if_icmp .ne 16) (16) 15 28 := ⟨by decide +kernel, rfl, by decide⟩
theorem D_X7_sizeOf_15 : qd cX7_sizeOf 15 (.aload_n 0) 1 16 := ⟨by decide +kernel, rfl⟩
theorem D_X7_sizeOf_16 : qd cX7_sizeOf 16 (.bipush 12) 2 18 := ⟨by decide +kernel, rfl⟩
theorem D_X7_sizeOf_18 : qd cX7_sizeOf 18 (.invokevirtual 251) 3 21 := ⟨by decide +kernel, rfl⟩
theorem D_X7_sizeOf_21 : qd cX7_sizeOf 21 (.aload_n 0) 1 22 := ⟨by decide +kernel, rfl⟩
theorem D_X7_sizeOf_22 : qd cX7_sizeOf 22 (.iload_n 1) 1 23 := ⟨by decide +kernel, rfl⟩
theorem D_X7_sizeOf_23 : qd cX7_sizeOf 23 (.invokevirtual 269) 3 26 := ⟨by decide +kernel, rfl⟩
theorem D_X7_sizeOf_26 : qd cX7_sizeOf 26 (.ineg) 1 27 := ⟨by decide +kernel, rfl⟩
theorem D_X7_sizeOf_27 : qd cX7_sizeOf 27 (.ireturn) 1 28 := ⟨by decide +kernel, rfl⟩
theorem D_X7_sizeOf_28 : qd cX7_sizeOf 28 (.iload_n 2) 1 29 := ⟨by decide +kernel, rfl⟩
theorem D_X7_sizeOf_29 : qd cX7_sizeOf 29 (.iconst 4) 1 30 := ⟨by decide +kernel, rfl⟩
theorem D_X7_sizeOf_30 : qj cX7_sizeOf 30 (.if_icmp .lt 11) (11) 33 41 := ⟨by decide +kernel, rfl, by decide⟩
theorem D_X7_sizeOf_33 : qd cX7_sizeOf 33 (.aload_n 0) 1 34 := ⟨by decide +kernel, rfl⟩
theorem D_X7_sizeOf_34 : qd cX7_sizeOf 34 (.iload_n 1) 1 35 := ⟨by decide +kernel, rfl⟩
theorem D_X7_sizeOf_35 : qd cX7_sizeOf 35 (.invokevirtual 263) 3 38 := ⟨by decide +kernel, rfl⟩
theorem D_X7_sizeOf_38 : qj cX7_sizeOf 38 (.goto 8) (8) 41 46 := ⟨by decide +kernel, rfl, by decide⟩
theorem D_X7_sizeOf_41 : qd cX7_sizeOf 41 (.aload_n 0) 1 42 := ⟨by decide +kernel, rfl⟩
theorem D_X7_sizeOf_42 : qd cX7_sizeOf 42 (.iload_n 1) 1 43 := ⟨by decide +kernel, rfl⟩
theorem D_X7_sizeOf_43 : qd cX7_sizeOf 43 (.invokevirtual 269) 3 46 := ⟨by decide +kernel, rfl⟩
theorem D_X7_sizeOf_46 : qd cX7_sizeOf 46 (.ireturn) 1 47 := ⟨by decide +kernel, rfl⟩
theorem D_X7_sizeOfWife_0 : qd cX7_sizeOfWife 0 (.aload_n 0) 1 1 := ⟨by decide +kernel, rfl⟩
theorem D_X7_sizeOfWife_1 : qd cX7_sizeOfWife 1 (.getfield 19) 3 4 := ⟨by decide +kernel, rfl⟩
theorem D_X7_sizeOfWife_4 : qd cX7_sizeOfWife 4 (.bipush 6) 2 6 := ⟨by decide +kernel, rfl⟩
theorem D_X7_sizeOfWife_6 : qd cX7_sizeOfWife 6 (.iload_n 1) 1 7 := ⟨by decide +kernel, rfl⟩
theorem D_X7_sizeOfWife_7 : qd cX7_sizeOfWife 7 (.iadd) 1 8 := ⟨by decide +kernel, rfl⟩
theorem D_X7_sizeOfWife_8 : qd cX7_sizeOfWife 8 (.iaload) 1 9 := ⟨by decide +kernel, rfl⟩
theorem D_X7_sizeOfWife_9 : qd cX7_sizeOfWife 9 (.iconst 5) 1 10 := ⟨by decide +kernel, rfl⟩
theorem D_X7_sizeOfWife_10 : qj cX7_sizeOfWife 10 (.if_icmp .ne 17) (17) 13 27 := ⟨by decide +kernel, rfl, by decide⟩
theorem D_X7_sizeOfWife_13 : qd cX7_sizeOfWife 13 (.aload_n 0) 1 14 := ⟨by decide +kernel, rfl⟩
theorem D_X7_sizeOfWife_14 : qd cX7_sizeOfWife 14 (.bipush 14) 2 16 := ⟨by decide +kernel, rfl⟩
theorem D_X7_sizeOfWife_16 : qd cX7_sizeOfWife 16 (.invokevirtual 251) 3 19 := ⟨by decide +kernel, rfl⟩
theorem D_X7_sizeOfWife_19 : qd cX7_sizeOfWife 19 (.iconst 2) 1 20 := ⟨by decide +kernel, rfl⟩
theorem D_X7_sizeOfWife_20 : qd cX7_sizeOfWife 20 (.aload_n 0) 1 21 := ⟨by decide +kernel, rfl⟩
theorem D_X7_sizeOfWife_21 : qd cX7_sizeOfWife 21 (.iload_n 1) 1 22 := ⟨by decide +kernel, rfl⟩
theorem D_X7_sizeOfWife_22 : qd cX7_sizeOfWife 22 (.invokevirtual 257) 3 25 := ⟨by decide +kernel, rfl⟩
theorem D_X7_sizeOfWife_25 : qd cX7_sizeOfWife 25 (.imul) 1 26 := ⟨by decide +kernel, rfl⟩
theorem D_X7_sizeOfWife_26 : qd cX7_sizeOfWife 26 (.ireturn) 1 27 := ⟨by decide +kernel, rfl⟩
theorem D_X7_sizeOfWife_27 : qd cX7_sizeOfWife 27 (.aload_n 0) 1 28 := ⟨by decide +kernel, rfl⟩
theorem D_X7_sizeOfWife_28 : qd cX7_sizeOfWife 28 (.iload_n 1) 1 29 := ⟨by decide +kernel, rfl⟩
theorem D_X7_sizeOfWife_29 : qd cX7_sizeOfWife 29 (.invokevirtual 257) 3 32 := ⟨by decide +kernel, rfl⟩
theorem D_X7_sizeOfWife_32 : qd cX7_sizeOfWife 32 (.ireturn) 1 33 := ⟨by decide +kernel, rfl⟩
theorem D_X7_sleeper_0 : qd cX7_sleeper 0 (.aload_n 0) 1 1 := ⟨by decide +kernel, rfl⟩
theorem D_X7_sleeper_1 : qd cX7_sleeper 1 (.iload_n 1) 1 2 := ⟨by decide +kernel, rfl⟩
theorem D_X7_sleeper_2 : qd cX7_sleeper 2 (.invokevirtual 171) 3 5 := ⟨by decide +kernel, rfl⟩
theorem D_X7_sleeper_5 : qj cX7_sleeper 5 (.ifCond .ne 6) (6) 8 11 := ⟨by decide +kernel, rfl, by decide⟩
theorem D_X7_sleeper_8 : qd cX7_sleeper 8 (.ldc 67) 2 10 := ⟨by decide +kernel, rfl⟩
theorem D_X7_sleeper_10 : qd cX7_sleeper 10 (.ireturn) 1 11 := ⟨by decide +kernel, rfl⟩
theorem D_X7_sleeper_11 : qd cX7_sleeper 11 (.iload_n 2) 1 12 := ⟨by decide +kernel, rfl⟩
theorem D_X7_sleeper_12 : qd cX7_sleeper 12 (.tableswitch 64 0 3 #[32, 38, 44, 54]) 32 44 := ⟨by decide +kernel, rfl⟩
theorem D_X7_sleeper_44 : qd cX7_sleeper 44 (.aload_n 0) 1 45 := ⟨by decide +kernel, rfl⟩
theorem D_X7_sleeper_45 : qd cX7_sleeper 45 (.iload_n 1) 1 46 := ⟨by decide +kernel, rfl⟩
theorem D_X7_sleeper_46 : qd cX7_sleeper 46 (.invokevirtual 152) 3 49 := ⟨by decide +kernel, rfl⟩
theorem D_X7_sleeper_49 : qd cX7_sleeper 49 (.ireturn) 1 50 := ⟨by decide +kernel, rfl⟩
theorem D_X7_sleeper_50 : qd cX7_sleeper 50 (.aload_n 0) 1 51 := ⟨by decide +kernel, rfl⟩
theorem D_X7_sleeper_51 : qd cX7_sleeper 51 (.iload_n 1) 1 52 := ⟨by decide +kernel, rfl⟩
theorem D_X7_sleeper_52 : qd cX7_sleeper 52 (.invokevirtual 183) 3 55 := ⟨by decide +kernel, rfl⟩
theorem D_X7_sleeper_55 : qd cX7_sleeper 55 (.ireturn) 1 56 := ⟨by decide +kernel, rfl⟩
theorem D_X7_sleeper_56 : qd cX7_sleeper 56 (.aload_n 0) 1 57 := ⟨by decide +kernel, rfl⟩
theorem D_X7_sleeper_57 : qd cX7_sleeper 57 (.getfield 19) 3 60 := ⟨by decide +kernel, rfl⟩
theorem D_X7_sleeper_60 : qd cX7_sleeper 60 (.bipush 11) 2 62 := ⟨by decide +kernel, rfl⟩
theorem D_X7_sleeper_62 : qd cX7_sleeper 62 (.iload_n 1) 1 63 := ⟨by decide +kernel, rfl⟩
theorem D_X7_sleeper_63 : qd cX7_sleeper 63 (.iadd) 1 64 := ⟨by decide +kernel, rfl⟩
theorem D_X7_sleeper_64 : qd cX7_sleeper 64 (.iaload) 1 65 := ⟨by decide +kernel, rfl⟩
theorem D_X7_sleeper_65 : qd cX7_sleeper 65 (.ireturn) 1 66 := ⟨by decide +kernel, rfl⟩
theorem D_X7_sleeper_66 : qd cX7_sleeper 66 (.aload_n 0) 1 67 := ⟨by decide +kernel, rfl⟩
theorem D_X7_sleeper_67 : qd cX7_sleeper 67 (.getfield 19) 3 70 := ⟨by decide +kernel, rfl⟩
theorem D_X7_sleeper_70 : qd cX7_sleeper 70 (.bipush 16) 2 72 := ⟨by decide +kernel, rfl⟩
theorem D_X7_sleeper_72 : qd cX7_sleeper 72 (.iload_n 1) 1 73 := ⟨by decide +kernel, rfl⟩
theorem D_X7_sleeper_73 : qd cX7_sleeper 73 (.iadd) 1 74 := ⟨by decide +kernel, rfl⟩
theorem D_X7_sleeper_74 : qd cX7_sleeper 74 (.iaload) 1 75 := ⟨by decide +kernel, rfl⟩
theorem D_X7_sleeper_75 : qd cX7_sleeper 75 (.ireturn) 1 76 := ⟨by decide +kernel, rfl⟩
theorem D_X7_sleeper_76 : qd cX7_sleeper 76 (.ldc 67) 2 78 := ⟨by decide +kernel, rfl⟩
theorem D_X7_sleeper_78 : qd cX7_sleeper 78 (.ireturn) 1 79 := ⟨by decide +kernel, rfl⟩
theorem D_X7_status_0 : qd cX7_status 0 (.aload_n 0) 1 1 := ⟨by decide +kernel, rfl⟩
theorem D_X7_status_1 : qd cX7_status 1 (.getfield 50) 3 4 := ⟨by decide +kernel, rfl⟩
theorem D_X7_status_4 : qd cX7_status 4 (.ireturn) 1 5 := ⟨by decide +kernel, rfl⟩
theorem D_X7_supper_0 : qd cX7_supper 0 (.aload_n 0) 1 1 := ⟨by decide +kernel, rfl⟩
theorem D_X7_supper_1 : qd cX7_supper 1 (.iload_n 1) 1 2 := ⟨by decide +kernel, rfl⟩
theorem D_X7_supper_2 : qd cX7_supper 2 (.invokevirtual 171) 3 5 := ⟨by decide +kernel, rfl⟩
theorem D_X7_supper_5 : qj cX7_supper 5 (.ifCond .ne 6) (6) 8 11 := ⟨by decide +kernel, rfl, by decide⟩
theorem D_X7_supper_8 : qd cX7_supper 8 (.ldc 67) 2 10 := ⟨by decide +kernel, rfl⟩
theorem D_X7_supper_10 : qd cX7_supper 10 (.ireturn) 1 11 := ⟨by decide +kernel, rfl⟩
theorem D_X7_supper_11 : qd cX7_supper 11 (.aload_n 0) 1 12 := ⟨by decide +kernel, rfl⟩
theorem D_X7_supper_12 : qd cX7_supper 12 (.getfield 19) 3 15 := ⟨by decide +kernel, rfl⟩
theorem D_X7_supper_15 : qd cX7_supper 15 (.bipush 11) 2 17 := ⟨by decide +kernel, rfl⟩
theorem D_X7_supper_17 : qd cX7_supper 17 (.iload_n 1) 1 18 := ⟨by decide +kernel, rfl⟩
theorem D_X7_supper_18 : qd cX7_supper 18 (.iadd) 1 19 := ⟨by decide +kernel, rfl⟩
theorem D_X7_supper_19 : qd cX7_supper 19 (.iaload) 1 20 := ⟨by decide +kernel, rfl⟩
theorem D_X7_supper_20 : qd cX7_supper 20 (.iconst 1) 1 21 := ⟨by decide +kernel, rfl⟩
theorem D_X7_supper_21 : qj cX7_supper 21 (.if_icmp .ne 6) (6) 24 27 := ⟨by decide +kernel, rfl, by decide⟩
theorem D_X7_supper_24 : qd cX7_supper 24 (.ldc 162) 2 26 := ⟨by decide +kernel, rfl⟩
theorem D_X7_supper_26 : qd cX7_supper 26 (.ireturn) 1 27 := ⟨by decide +kernel, rfl⟩
theorem D_X7_supper_27 : qd cX7_supper 27 (.aload_n 0) 1 28 := ⟨by decide +kernel, rfl⟩
theorem D_X7_supper_28 : qd cX7_supper 28 (.invokevirtual 165) 3 31 := ⟨by decide +kernel, rfl⟩
theorem D_X7_supper_31 : qd cX7_supper 31 (.aload_n 0) 1 32 := ⟨by decide +kernel, rfl⟩
theorem D_X7_supper_32 : qd cX7_supper 32 (.getfield 19) 3 35 := ⟨by decide +kernel, rfl⟩
theorem D_X7_supper_35 : qd cX7_supper 35 (.bipush 11) 2 37 := ⟨by decide +kernel, rfl⟩
theorem D_X7_supper_37 : qd cX7_supper 37 (.iload_n 1) 1 38 := ⟨by decide +kernel, rfl⟩
theorem D_X7_supper_38 : qd cX7_supper 38 (.iadd) 1 39 := ⟨by decide +kernel, rfl⟩
theorem D_X7_supper_39 : qd cX7_supper 39 (.iconst 1) 1 40 := ⟨by decide +kernel, rfl⟩
theorem D_X7_supper_40 : qd cX7_supper 40 (.iastore) 1 41 := ⟨by decide +kernel, rfl⟩
theorem D_X7_supper_41 : qd cX7_supper 41 (.aload_n 0) 1 42 := ⟨by decide +kernel, rfl⟩
theorem D_X7_supper_42 : qd cX7_supper 42 (.invokevirtual 174) 3 45 := ⟨by decide +kernel, rfl⟩
theorem D_X7_supper_45 : qd cX7_supper 45 (.invokestatic 177) 3 48 := ⟨by decide +kernel, rfl⟩
theorem D_X7_supper_48 : qd cX7_supper 48 (.ireturn) 1 49 := ⟨by decide +kernel, rfl⟩
theorem D_X7_suppered_0 : qd cX7_suppered 0 (.iconst 0) 1 1 := ⟨by decide +kernel, rfl⟩
theorem D_X7_suppered_1 : qd cX7_suppered 1 (.istore_n 1) 1 2 := ⟨by decide +kernel, rfl⟩
theorem D_X7_suppered_2 : qd cX7_suppered 2 (.iconst 0) 1 3 := ⟨by decide +kernel, rfl⟩
theorem D_X7_suppered_3 : qd cX7_suppered 3 (.istore_n 2) 1 4 := ⟨by decide +kernel, rfl⟩
theorem D_X7_suppered_4 : qd cX7_suppered 4 (.iload_n 2) 1 5 := ⟨by decide +kernel, rfl⟩
theorem D_X7_suppered_5 : qd cX7_suppered 5 (.aload_n 0) 1 6 := ⟨by decide +kernel, rfl⟩
theorem D_X7_suppered_6 : qd cX7_suppered 6 (.getfield 19) 3 9 := ⟨by decide +kernel, rfl⟩
theorem D_X7_suppered_9 : qd cX7_suppered 9 (.iconst 3) 1 10 := ⟨by decide +kernel, rfl⟩
theorem D_X7_suppered_10 : qd cX7_suppered 10 (.iaload) 1 11 := ⟨by decide +kernel, rfl⟩
theorem D_X7_suppered_11 : qj cX7_suppered 11 (.if_icmp .ge 23) (23) 14 34 := ⟨by decide +kernel, rfl, by decide⟩
theorem D_X7_suppered_14 : qd cX7_suppered 14 (.iload_n 1) 1 15 := ⟨by decide +kernel, rfl⟩
theorem D_X7_suppered_15 : qd cX7_suppered 15 (.aload_n 0) 1 16 := ⟨by decide +kernel, rfl⟩
theorem D_X7_suppered_16 : qd cX7_suppered 16 (.getfield 19) 3 19 := ⟨by decide +kernel, rfl⟩
theorem D_X7_suppered_19 : qd cX7_suppered 19 (.bipush 11) 2 21 := ⟨by decide +kernel, rfl⟩
theorem D_X7_suppered_21 : qd cX7_suppered 21 (.iload_n 2) 1 22 := ⟨by decide +kernel, rfl⟩
theorem D_X7_suppered_22 : qd cX7_suppered 22 (.iadd) 1 23 := ⟨by decide +kernel, rfl⟩
theorem D_X7_suppered_23 : qd cX7_suppered 23 (.iaload) 1 24 := ⟨by decide +kernel, rfl⟩
theorem D_X7_suppered_24 : qd cX7_suppered 24 (.iload_n 2) 1 25 := ⟨by decide +kernel, rfl⟩
theorem D_X7_suppered_25 : qd cX7_suppered 25 (.ishl) 1 26 := ⟨by decide +kernel, rfl⟩
theorem D_X7_suppered_26 : qd cX7_suppered 26 (.ior) 1 27 := ⟨by decide +kernel, rfl⟩
theorem D_X7_suppered_27 : qd cX7_suppered 27 (.istore_n 1) 1 28 := ⟨by decide +kernel, rfl⟩
theorem D_X7_suppered_28 : qd cX7_suppered 28 (.iinc 2 1) 3 31 := ⟨by decide +kernel, rfl⟩
theorem D_X7_suppered_31 : qj cX7_suppered 31 (.goto (-27)) (-27) 34 4 := ⟨by decide +kernel, rfl, by decide⟩
theorem D_X7_suppered_34 : qd cX7_suppered 34 (.iload_n 1) 1 35 := ⟨by decide +kernel, rfl⟩
theorem D_X7_suppered_35 : qd cX7_suppered 35 (.ireturn) 1 36 := ⟨by decide +kernel, rfl⟩
theorem D_X7_suppers_0 : qd cX7_suppers 0 (.aload_n 0) 1 1 := ⟨by decide +kernel, rfl⟩
theorem D_X7_suppers_1 : qd cX7_suppers 1 (.getfield 135) 3 4 := ⟨by decide +kernel, rfl⟩
theorem D_X7_suppers_4 : qj cX7_suppers 4 (.ifCond .ne 6) (6) 7 10 := ⟨by decide +kernel, rfl, by decide⟩
theorem D_X7_suppers_7 : qd cX7_suppers 7 (.ldc 162) 2 9 := ⟨by decide +kernel, rfl⟩
theorem D_X7_suppers_9 : qd cX7_suppers 9 (.ireturn) 1 10 := ⟨by decide +kernel, rfl⟩
theorem D_X7_suppers_10 : qd cX7_suppers 10 (.iload_n 1) 1 11 := ⟨by decide +kernel, rfl⟩
theorem D_X7_suppers_11 : qd cX7_suppers 11 (.i2l) 1 12 := ⟨by decide +kernel, rfl⟩
theorem D_X7_suppers_12 : qd cX7_suppers 12 (.lconst 0) 1 13 := ⟨by decide +kernel, rfl⟩
theorem D_X7_suppers_13 : qd cX7_suppers 13 (.iconst 1) 1 14 := ⟨by decide +kernel, rfl⟩
theorem D_X7_suppers_14 : qd cX7_suppers 14 (.aload_n 0) 1 15 := ⟨by decide +kernel, rfl⟩
theorem D_X7_suppers_15 : qd cX7_suppers 15 (.getfield 19) 3 18 := ⟨by decide +kernel, rfl⟩
theorem D_X7_suppers_18 : qd cX7_suppers 18 (.iconst 0) 1 19 := ⟨by decide +kernel, rfl⟩
theorem D_X7_suppers_19 : qd cX7_suppers 19 (.iaload) 1 20 := ⟨by decide +kernel, rfl⟩
theorem D_X7_suppers_20 : qd cX7_suppers 20 (.ishl) 1 21 := ⟨by decide +kernel, rfl⟩
theorem D_X7_suppers_21 : qd cX7_suppers 21 (.iconst 1) 1 22 := ⟨by decide +kernel, rfl⟩
theorem D_X7_suppers_22 : qd cX7_suppers 22 (.isub) 1 23 := ⟨by decide +kernel, rfl⟩
theorem D_X7_suppers_23 : qd cX7_suppers 23 (.i2l) 1 24 := ⟨by decide +kernel, rfl⟩
theorem D_X7_suppers_24 : qd cX7_suppers 24 (.invokestatic 57) 3 27 := ⟨by decide +kernel, rfl⟩
theorem D_X7_suppers_27 : qj cX7_suppers 27 (.ifCond .eq 20) (20) 30 47 := ⟨by decide +kernel, rfl, by decide⟩
theorem D_X7_suppers_30 : qd cX7_suppers 30 (.iload_n 2) 1 31 := ⟨by decide +kernel, rfl⟩
theorem D_X7_suppers_31 : qd cX7_suppers 31 (.i2l) 1 32 := ⟨by decide +kernel, rfl⟩
theorem D_X7_suppers_32 : qd cX7_suppers 32 (.lconst 1) 1 33 := ⟨by decide +kernel, rfl⟩
theorem D_X7_suppers_33 : qd cX7_suppers 33 (.ldc2_w 212) 3 36 := ⟨by decide +kernel, rfl⟩
theorem D_X7_suppers_36 : qd cX7_suppers 36 (.invokestatic 57) 3 39 := ⟨by decide +kernel, rfl⟩
theorem D_X7_suppers_39 : qj cX7_suppers 39 (.ifCond .eq 8) (8) 42 47 := ⟨by decide +kernel, rfl, by decide⟩
theorem D_X7_suppers_42 : qd cX7_suppers 42 (.iload_n 3) 1 43 := ⟨by decide +kernel, rfl⟩
theorem D_X7_suppers_43 : qd cX7_suppers 43 (.iconst (-1)) 1 44 := ⟨by decide +kernel, rfl⟩
theorem D_X7_suppers_44 : qj cX7_suppers 44 (.if_icmp .ge 6) (6) 47 50 := ⟨by decide +kernel, rfl, by decide⟩
theorem D_X7_suppers_47 : qd cX7_suppers 47 (.ldc 67) 2 49 := ⟨by decide +kernel, rfl⟩
theorem D_X7_suppers_49 : qd cX7_suppers 49 (.ireturn) 1 50 := ⟨by decide +kernel, rfl⟩
theorem D_X7_suppers_50 : qd cX7_suppers 50 (.aload_n 0) 1 51 := ⟨by decide +kernel, rfl⟩
theorem D_X7_suppers_51 : qd cX7_suppers 51 (.iload_n 1) 1 52 := ⟨by decide +kernel, rfl⟩
theorem D_X7_suppers_52 : qd cX7_suppers 52 (.iload_n 2) 1 53 := ⟨by decide +kernel, rfl⟩
theorem D_X7_suppers_53 : qd cX7_suppers 53 (.invokevirtual 214) 3 56 := ⟨by decide +kernel, rfl⟩
theorem D_X7_suppers_56 : qd cX7_suppers 56 (.istore 4) 2 58 := ⟨by decide +kernel, rfl⟩
theorem D_X7_suppers_58 : qd cX7_suppers 58 (.iload 4) 2 60 := ⟨by decide +kernel, rfl⟩
theorem D_X7_suppers_60 : qj cX7_suppers 60 (.ifCond .lt 8) (8) 63 68 := ⟨by decide +kernel, rfl, by decide⟩
theorem D_X7_suppers_63 : qd cX7_suppers 63 (.iload_n 3) 1 64 := ⟨by decide +kernel, rfl⟩
theorem D_X7_suppers_64 : qd cX7_suppers 64 (.iload_n 2) 1 65 := ⟨by decide +kernel, rfl⟩
theorem D_X7_suppers_65 : qj cX7_suppers 65 (.if_icmp .lt 6) (6) 68 71 := ⟨by decide +kernel, rfl, by decide⟩
theorem D_X7_suppers_68 : qd cX7_suppers 68 (.ldc 197) 2 70 := ⟨by decide +kernel, rfl⟩
theorem D_X7_suppers_70 : qd cX7_suppers 70 (.ireturn) 1 71 := ⟨by decide +kernel, rfl⟩
theorem D_X7_suppers_71 : qd cX7_suppers 71 (.aload_n 0) 1 72 := ⟨by decide +kernel, rfl⟩
theorem D_X7_suppers_72 : qd cX7_suppers 72 (.getfield 209) 3 75 := ⟨by decide +kernel, rfl⟩
theorem D_X7_suppers_75 : qd cX7_suppers 75 (.istore 5) 2 77 := ⟨by decide +kernel, rfl⟩
theorem D_X7_suppers_77 : qd cX7_suppers 77 (.iload_n 2) 1 78 := ⟨by decide +kernel, rfl⟩
theorem D_X7_suppers_78 : qd cX7_suppers 78 (.iconst 1) 1 79 := ⟨by decide +kernel, rfl⟩
theorem D_X7_suppers_79 : qd cX7_suppers 79 (.isub) 1 80 := ⟨by decide +kernel, rfl⟩
theorem D_X7_suppers_80 : qd cX7_suppers 80 (.istore 6) 2 82 := ⟨by decide +kernel, rfl⟩
theorem D_X7_suppers_82 : qd cX7_suppers 82 (.iload 6) 2 84 := ⟨by decide +kernel, rfl⟩
theorem D_X7_suppers_84 : qd cX7_suppers 84 (.iload_n 3) 1 85 := ⟨by decide +kernel, rfl⟩
theorem D_X7_suppers_85 : qj cX7_suppers 85 (.if_icmp .le 22) (22) 88 107 := ⟨by decide +kernel, rfl, by decide⟩
theorem D_X7_suppers_88 : qd cX7_suppers 88 (.iload 5) 2 90 := ⟨by decide +kernel, rfl⟩
theorem D_X7_suppers_90 : qd cX7_suppers 90 (.iconst 1) 1 91 := ⟨by decide +kernel, rfl⟩
theorem D_X7_suppers_91 : qd cX7_suppers 91 (.aload_n 0) 1 92 := ⟨by decide +kernel, rfl⟩
theorem D_X7_suppers_92 : qd cX7_suppers 92 (.getfield 19) 3 95 := ⟨by decide +kernel, rfl⟩
theorem D_X7_suppers_95 : qd cX7_suppers 95 (.iconst 3) 1 96 := ⟨by decide +kernel, rfl⟩
theorem D_X7_suppers_96 : qd cX7_suppers 96 (.iaload) 1 97 := ⟨by decide +kernel, rfl⟩
theorem D_X7_suppers_97 : qd cX7_suppers 97 (.ishl) 1 98 := ⟨by decide +kernel, rfl⟩
theorem D_X7_suppers_98 : qd cX7_suppers 98 (.idiv) 1 99 := ⟨by decide +kernel, rfl⟩
theorem D_X7_suppers_99 : qd cX7_suppers 99 (.istore 5) 2 101 := ⟨by decide +kernel, rfl⟩
theorem D_X7_suppers_101 : qd cX7_suppers 101 (.iinc 6 (-1)) 3 104 := ⟨by decide +kernel, rfl⟩
theorem D_X7_suppers_104 : qj cX7_suppers 104 (.goto (-22)) (-22) 107 82 := ⟨by decide +kernel, rfl, by decide⟩
theorem D_X7_suppers_107 : qd cX7_suppers 107 (.iload_n 3) 1 108 := ⟨by decide +kernel, rfl⟩
theorem D_X7_suppers_108 : qj cX7_suppers 108 (.ifCond .ge 8) (8) 111 116 := ⟨by decide +kernel, rfl, by decide⟩
theorem D_X7_suppers_111 : qd cX7_suppers 111 (.iload 4) 2 113 := ⟨by decide +kernel, rfl⟩
theorem D_X7_suppers_113 : qj cX7_suppers 113 (.goto 14) (14) 116 127 := ⟨by decide +kernel, rfl, by decide⟩
theorem D_X7_suppers_116 : qd cX7_suppers 116 (.iload 5) 2 118 := ⟨by decide +kernel, rfl⟩
theorem D_X7_suppers_118 : qd cX7_suppers 118 (.iconst 1) 1 119 := ⟨by decide +kernel, rfl⟩
theorem D_X7_suppers_119 : qd cX7_suppers 119 (.aload_n 0) 1 120 := ⟨by decide +kernel, rfl⟩
theorem D_X7_suppers_120 : qd cX7_suppers 120 (.getfield 19) 3 123 := ⟨by decide +kernel, rfl⟩
theorem D_X7_suppers_123 : qd cX7_suppers 123 (.iconst 3) 1 124 := ⟨by decide +kernel, rfl⟩
theorem D_X7_suppers_124 : qd cX7_suppers 124 (.iaload) 1 125 := ⟨by decide +kernel, rfl⟩
theorem D_X7_suppers_125 : qd cX7_suppers 125 (.ishl) 1 126 := ⟨by decide +kernel, rfl⟩
theorem D_X7_suppers_126 : qd cX7_suppers 126 (.irem) 1 127 := ⟨by decide +kernel, rfl⟩
theorem D_X7_suppers_127 : qd cX7_suppers 127 (.ireturn) 1 128 := ⟨by decide +kernel, rfl⟩
theorem D_X7_takeBack_0 : qd cX7_takeBack 0 (.iconst 0) 1 1 := ⟨by decide +kernel, rfl⟩
theorem D_X7_takeBack_1 : qd cX7_takeBack 1 (.istore_n 1) 1 2 := ⟨by decide +kernel, rfl⟩
theorem D_X7_takeBack_2 : qd cX7_takeBack 2 (.iload_n 1) 1 3 := ⟨by decide +kernel, rfl⟩
theorem D_X7_takeBack_3 : qd cX7_takeBack 3 (.bipush 51) 2 5 := ⟨by decide +kernel, rfl⟩
theorem D_X7_takeBack_5 : qj cX7_takeBack 5 (.if_icmp .ge 21) (21) 8 26 := ⟨by decide +kernel, rfl, by decide⟩
theorem D_X7_takeBack_8 : qd cX7_takeBack 8 (.aload_n 0) 1 9 := ⟨by decide +kernel, rfl⟩
theorem D_X7_takeBack_9 : qd cX7_takeBack 9 (.getfield 19) 3 12 := ⟨by decide +kernel, rfl⟩
theorem D_X7_takeBack_12 : qd cX7_takeBack 12 (.iload_n 1) 1 13 := ⟨by decide +kernel, rfl⟩
theorem D_X7_takeBack_13 : qd cX7_takeBack 13 (.aload_n 0) 1 14 := ⟨by decide +kernel, rfl⟩
theorem D_X7_takeBack_14 : qd cX7_takeBack 14 (.getfield 34) 3 17 := ⟨by decide +kernel, rfl⟩
theorem D_X7_takeBack_17 : qd cX7_takeBack 17 (.iload_n 1) 1 18 := ⟨by decide +kernel, rfl⟩
theorem D_X7_takeBack_18 : qd cX7_takeBack 18 (.iaload) 1 19 := ⟨by decide +kernel, rfl⟩
theorem D_X7_takeBack_19 : qd cX7_takeBack 19 (.iastore) 1 20 := ⟨by decide +kernel, rfl⟩
theorem D_X7_takeBack_20 : qd cX7_takeBack 20 (.iinc 1 1) 3 23 := ⟨by decide +kernel, rfl⟩
theorem D_X7_takeBack_23 : qj cX7_takeBack 23 (.goto (-21)) (-21) 26 2 := ⟨by decide +kernel, rfl, by decide⟩
theorem D_X7_takeBack_26 : qd cX7_takeBack 26 (.return_) 1 27 := ⟨by decide +kernel, rfl⟩
theorem D_X7_takes_0 : qd cX7_takes 0 (.aload_n 0) 1 1 := ⟨by decide +kernel, rfl⟩
theorem D_X7_takes_1 : qd cX7_takes 1 (.iload_n 1) 1 2 := ⟨by decide +kernel, rfl⟩
theorem D_X7_takes_2 : qd cX7_takes 2 (.invokevirtual 108) 3 5 := ⟨by decide +kernel, rfl⟩
theorem D_X7_takes_5 : qj cX7_takes 5 (.ifCond .ne 9) (9) 8 14 := ⟨by decide +kernel, rfl, by decide⟩
theorem D_X7_takes_8 : qd cX7_takes 8 (.aload_n 0) 1 9 := ⟨by decide +kernel, rfl⟩
theorem D_X7_takes_9 : qd cX7_takes 9 (.iconst 1) 1 10 := ⟨by decide +kernel, rfl⟩
theorem D_X7_takes_10 : qd cX7_takes 10 (.invokevirtual 111) 3 13 := ⟨by decide +kernel, rfl⟩
theorem D_X7_takes_13 : qd cX7_takes 13 (.ireturn) 1 14 := ⟨by decide +kernel, rfl⟩
theorem D_X7_takes_14 : qd cX7_takes 14 (.aload_n 0) 1 15 := ⟨by decide +kernel, rfl⟩
theorem D_X7_takes_15 : qd cX7_takes 15 (.invokevirtual 114) 3 18 := ⟨by decide +kernel, rfl⟩
theorem D_X7_takes_18 : qd cX7_takes 18 (.iconst 1) 1 19 := ⟨by decide +kernel, rfl⟩
theorem D_X7_takes_19 : qd cX7_takes 19 (.ireturn) 1 20 := ⟨by decide +kernel, rfl⟩
theorem D_X7_takesNumber_0 : qd cX7_takesNumber 0 (.aload_n 0) 1 1 := ⟨by decide +kernel, rfl⟩
theorem D_X7_takesNumber_1 : qd cX7_takesNumber 1 (.getfield 91) 3 4 := ⟨by decide +kernel, rfl⟩
theorem D_X7_takesNumber_4 : qd cX7_takesNumber 4 (.iconst 2) 1 5 := ⟨by decide +kernel, rfl⟩
theorem D_X7_takesNumber_5 : qj cX7_takesNumber 5 (.if_icmp .ne 18) (18) 8 23 := ⟨by decide +kernel, rfl, by decide⟩
theorem D_X7_takesNumber_8 : qd cX7_takesNumber 8 (.aload_n 0) 1 9 := ⟨by decide +kernel, rfl⟩
theorem D_X7_takesNumber_9 : qd cX7_takesNumber 9 (.getfield 94) 3 12 := ⟨by decide +kernel, rfl⟩
theorem D_X7_takesNumber_12 : qd cX7_takesNumber 12 (.i2l) 1 13 := ⟨by decide +kernel, rfl⟩
theorem D_X7_takesNumber_13 : qd cX7_takesNumber 13 (.iload_n 1) 1 14 := ⟨by decide +kernel, rfl⟩
theorem D_X7_takesNumber_14 : qd cX7_takesNumber 14 (.i2l) 1 15 := ⟨by decide +kernel, rfl⟩
theorem D_X7_takesNumber_15 : qd cX7_takesNumber 15 (.iload_n 2) 1 16 := ⟨by decide +kernel, rfl⟩
theorem D_X7_takesNumber_16 : qd cX7_takesNumber 16 (.i2l) 1 17 := ⟨by decide +kernel, rfl⟩
theorem D_X7_takesNumber_17 : qd cX7_takesNumber 17 (.invokestatic 57) 3 20 := ⟨by decide +kernel, rfl⟩
theorem D_X7_takesNumber_20 : qj cX7_takesNumber 20 (.ifCond .ne 21) (21) 23 41 := ⟨by decide +kernel, rfl, by decide⟩
theorem D_X7_takesNumber_23 : qd cX7_takesNumber 23 (.aload_n 0) 1 24 := ⟨by decide +kernel, rfl⟩
theorem D_X7_takesNumber_24 : qd cX7_takesNumber 24 (.aload_n 0) 1 25 := ⟨by decide +kernel, rfl⟩
theorem D_X7_takesNumber_25 : qd cX7_takesNumber 25 (.getfield 91) 3 28 := ⟨by decide +kernel, rfl⟩
theorem D_X7_takesNumber_28 : qd cX7_takesNumber 28 (.iconst 2) 1 29 := ⟨by decide +kernel, rfl⟩
theorem D_X7_takesNumber_29 : qj cX7_takesNumber 29 (.if_icmp .ne 7) (7) 32 36 := ⟨by decide +kernel, rfl, by decide⟩
theorem D_X7_takesNumber_32 : qd cX7_takesNumber 32 (.iconst 2) 1 33 := ⟨by decide +kernel, rfl⟩
theorem D_X7_takesNumber_33 : qj cX7_takesNumber 33 (.goto 4) (4) 36 37 := ⟨by decide +kernel, rfl, by decide⟩
theorem D_X7_takesNumber_36 : qd cX7_takesNumber 36 (.iconst 1) 1 37 := ⟨by decide +kernel, rfl⟩
theorem D_X7_takesNumber_37 : qd cX7_takesNumber 37 (.invokevirtual 111) 3 40 := ⟨by decide +kernel, rfl⟩
theorem D_X7_takesNumber_40 : qd cX7_takesNumber 40 (.ireturn) 1 41 := ⟨by decide +kernel, rfl⟩
theorem D_X7_takesNumber_41 : qd cX7_takesNumber 41 (.aload_n 0) 1 42 := ⟨by decide +kernel, rfl⟩
theorem D_X7_takesNumber_42 : qd cX7_takesNumber 42 (.getfield 28) 3 45 := ⟨by decide +kernel, rfl⟩
theorem D_X7_takesNumber_45 : qd cX7_takesNumber 45 (.iload_n 3) 1 46 := ⟨by decide +kernel, rfl⟩
theorem D_X7_takesNumber_46 : qd cX7_takesNumber 46 (.aload_n 0) 1 47 := ⟨by decide +kernel, rfl⟩
theorem D_X7_takesNumber_47 : qd cX7_takesNumber 47 (.getfield 94) 3 50 := ⟨by decide +kernel, rfl⟩
theorem D_X7_takesNumber_50 : qd cX7_takesNumber 50 (.iastore) 1 51 := ⟨by decide +kernel, rfl⟩
theorem D_X7_takesNumber_51 : qd cX7_takesNumber 51 (.aload_n 0) 1 52 := ⟨by decide +kernel, rfl⟩
theorem D_X7_takesNumber_52 : qd cX7_takesNumber 52 (.invokevirtual 114) 3 55 := ⟨by decide +kernel, rfl⟩
theorem D_X7_takesNumber_55 : qd cX7_takesNumber 55 (.aload_n 0) 1 56 := ⟨by decide +kernel, rfl⟩
theorem D_X7_takesNumber_56 : qd cX7_takesNumber 56 (.iload 4) 2 58 := ⟨by decide +kernel, rfl⟩
theorem D_X7_takesNumber_58 : qd cX7_takesNumber 58 (.invokevirtual 117) 3 61 := ⟨by decide +kernel, rfl⟩
theorem D_X7_takesNumber_61 : qd cX7_takesNumber 61 (.ireturn) 1 62 := ⟨by decide +kernel, rfl⟩
theorem D_X7_tell_0 : qd cX7_tell 0 (.aload_n 0) 1 1 := ⟨by decide +kernel, rfl⟩
theorem D_X7_tell_1 : qd cX7_tell 1 (.iload_n 1) 1 2 := ⟨by decide +kernel, rfl⟩
theorem D_X7_tell_2 : qd cX7_tell 2 (.invokevirtual 171) 3 5 := ⟨by decide +kernel, rfl⟩
theorem D_X7_tell_5 : qj cX7_tell 5 (.ifCond .eq 11) (11) 8 16 := ⟨by decide +kernel, rfl, by decide⟩
theorem D_X7_tell_8 : qd cX7_tell 8 (.aload_n 0) 1 9 := ⟨by decide +kernel, rfl⟩
theorem D_X7_tell_9 : qd cX7_tell 9 (.iload_n 2) 1 10 := ⟨by decide +kernel, rfl⟩
theorem D_X7_tell_10 : qd cX7_tell 10 (.invokevirtual 180) 3 13 := ⟨by decide +kernel, rfl⟩
theorem D_X7_tell_13 : qj cX7_tell 13 (.ifCond .ne 6) (6) 16 19 := ⟨by decide +kernel, rfl, by decide⟩
theorem D_X7_tell_16 : qd cX7_tell 16 (.ldc 67) 2 18 := ⟨by decide +kernel, rfl⟩
theorem D_X7_tell_18 : qd cX7_tell 18 (.ireturn) 1 19 := ⟨by decide +kernel, rfl⟩
theorem D_X7_tell_19 : qd cX7_tell 19 (.aload_n 0) 1 20 := ⟨by decide +kernel, rfl⟩
theorem D_X7_tell_20 : qd cX7_tell 20 (.getfield 19) 3 23 := ⟨by decide +kernel, rfl⟩
theorem D_X7_tell_23 : qd cX7_tell 23 (.iconst 5) 1 24 := ⟨by decide +kernel, rfl⟩
theorem D_X7_tell_24 : qd cX7_tell 24 (.iaload) 1 25 := ⟨by decide +kernel, rfl⟩
theorem D_X7_tell_25 : qd cX7_tell 25 (.iload_n 2) 1 26 := ⟨by decide +kernel, rfl⟩
theorem D_X7_tell_26 : qd cX7_tell 26 (.invokestatic 142) 3 29 := ⟨by decide +kernel, rfl⟩
theorem D_X7_tell_29 : qj cX7_tell 29 (.ifCond .ne 6) (6) 32 35 := ⟨by decide +kernel, rfl, by decide⟩
theorem D_X7_tell_32 : qd cX7_tell 32 (.ldc 162) 2 34 := ⟨by decide +kernel, rfl⟩
theorem D_X7_tell_34 : qd cX7_tell 34 (.ireturn) 1 35 := ⟨by decide +kernel, rfl⟩
theorem D_X7_tell_35 : qd cX7_tell 35 (.aload_n 0) 1 36 := ⟨by decide +kernel, rfl⟩
theorem D_X7_tell_36 : qd cX7_tell 36 (.invokevirtual 165) 3 39 := ⟨by decide +kernel, rfl⟩
theorem D_X7_tell_39 : qd cX7_tell 39 (.aload_n 0) 1 40 := ⟨by decide +kernel, rfl⟩
theorem D_X7_tell_40 : qd cX7_tell 40 (.iload_n 1) 1 41 := ⟨by decide +kernel, rfl⟩
theorem D_X7_tell_41 : qd cX7_tell 41 (.iload_n 2) 1 42 := ⟨by decide +kernel, rfl⟩
theorem D_X7_tell_42 : qd cX7_tell 42 (.invokevirtual 146) 3 45 := ⟨by decide +kernel, rfl⟩
theorem D_X7_tell_45 : qd cX7_tell 45 (.istore_n 3) 1 46 := ⟨by decide +kernel, rfl⟩
theorem D_X7_tell_46 : qd cX7_tell 46 (.aload_n 0) 1 47 := ⟨by decide +kernel, rfl⟩
theorem D_X7_tell_47 : qd cX7_tell 47 (.getfield 19) 3 50 := ⟨by decide +kernel, rfl⟩
theorem D_X7_tell_50 : qd cX7_tell 50 (.bipush 21) 2 52 := ⟨by decide +kernel, rfl⟩
theorem D_X7_tell_52 : qd cX7_tell 52 (.bipush 6) 2 54 := ⟨by decide +kernel, rfl⟩
theorem D_X7_tell_54 : qd cX7_tell 54 (.iload_n 1) 1 55 := ⟨by decide +kernel, rfl⟩
theorem D_X7_tell_55 : qd cX7_tell 55 (.imul) 1 56 := ⟨by decide +kernel, rfl⟩
theorem D_X7_tell_56 : qd cX7_tell 56 (.iadd) 1 57 := ⟨by decide +kernel, rfl⟩
theorem D_X7_tell_57 : qd cX7_tell 57 (.iload_n 2) 1 58 := ⟨by decide +kernel, rfl⟩
theorem D_X7_tell_58 : qd cX7_tell 58 (.iadd) 1 59 := ⟨by decide +kernel, rfl⟩
theorem D_X7_tell_59 : qd cX7_tell 59 (.bipush 27) 2 61 := ⟨by decide +kernel, rfl⟩
theorem D_X7_tell_61 : qd cX7_tell 61 (.iastore) 1 62 := ⟨by decide +kernel, rfl⟩
theorem D_X7_tell_62 : qd cX7_tell 62 (.iload_n 3) 1 63 := ⟨by decide +kernel, rfl⟩
theorem D_X7_tell_63 : qd cX7_tell 63 (.ireturn) 1 64 := ⟨by decide +kernel, rfl⟩
theorem D_X7_trace_0 : qd cX7_trace 0 (.iload_n 1) 1 1 := ⟨by decide +kernel, rfl⟩
theorem D_X7_trace_1 : qd cX7_trace 1 (.i2l) 1 2 := ⟨by decide +kernel, rfl⟩
theorem D_X7_trace_2 : qd cX7_trace 2 (.lconst 0) 1 3 := ⟨by decide +kernel, rfl⟩
theorem D_X7_trace_3 : qd cX7_trace 3 (.aload_n 0) 1 4 := ⟨by decide +kernel, rfl⟩
theorem D_X7_trace_4 : qd cX7_trace 4 (.getfield 248) 3 7 := ⟨by decide +kernel, rfl⟩
theorem D_X7_trace_7 : qd cX7_trace 7 (.iconst 1) 1 8 := ⟨by decide +kernel, rfl⟩
theorem D_X7_trace_8 : qd cX7_trace 8 (.isub) 1 9 := ⟨by decide +kernel, rfl⟩
theorem D_X7_trace_9 : qd cX7_trace 9 (.i2l) 1 10 := ⟨by decide +kernel, rfl⟩
theorem D_X7_trace_10 : qd cX7_trace 10 (.invokestatic 57) 3 13 := ⟨by decide +kernel, rfl⟩
theorem D_X7_trace_13 : qj cX7_trace 13 (.ifCond .eq 12) (12) 16 25 := ⟨by decide +kernel, rfl, by decide⟩
theorem D_X7_trace_16 : qd cX7_trace 16 (.aload_n 0) 1 17 := ⟨by decide +kernel, rfl⟩
theorem D_X7_trace_17 : qd cX7_trace 17 (.getfield 47) 3 20 := ⟨by decide +kernel, rfl⟩
theorem D_X7_trace_20 : qd cX7_trace 20 (.iload_n 1) 1 21 := ⟨by decide +kernel, rfl⟩
theorem D_X7_trace_21 : qd cX7_trace 21 (.iaload) 1 22 := ⟨by decide +kernel, rfl⟩
theorem D_X7_trace_22 : qj cX7_trace 22 (.goto 5) (5) 25 27 := ⟨by decide +kernel, rfl, by decide⟩
theorem D_X7_trace_25 : qd cX7_trace 25 (.ldc 197) 2 27 := ⟨by decide +kernel, rfl⟩
theorem D_X7_trace_27 : qd cX7_trace 27 (.ireturn) 1 28 := ⟨by decide +kernel, rfl⟩
theorem D_X7_undo_0 : qd cX7_undo 0 (.aload_n 0) 1 1 := ⟨by decide +kernel, rfl⟩
theorem D_X7_undo_1 : qd cX7_undo 1 (.getfield 139) 3 4 := ⟨by decide +kernel, rfl⟩
theorem D_X7_undo_4 : qj cX7_undo 4 (.ifCond .ne 6) (6) 7 10 := ⟨by decide +kernel, rfl, by decide⟩
theorem D_X7_undo_7 : qd cX7_undo 7 (.ldc 162) 2 9 := ⟨by decide +kernel, rfl⟩
theorem D_X7_undo_9 : qd cX7_undo 9 (.ireturn) 1 10 := ⟨by decide +kernel, rfl⟩
theorem D_X7_undo_10 : qd cX7_undo 10 (.aload_n 0) 1 11 := ⟨by decide +kernel, rfl⟩
theorem D_X7_undo_11 : qd cX7_undo 11 (.dup) 1 12 := ⟨by decide +kernel, rfl⟩
theorem D_X7_undo_12 : qd cX7_undo 12 (.getfield 139) 3 15 := ⟨by decide +kernel, rfl⟩
theorem D_X7_undo_15 : qd cX7_undo 15 (.iconst 1) 1 16 := ⟨by decide +kernel, rfl⟩
theorem D_X7_undo_16 : qd cX7_undo 16 (.isub) 1 17 := ⟨by decide +kernel, rfl⟩
theorem D_X7_undo_17 : qd cX7_undo 17 (.putfield 139) 3 20 := ⟨by decide +kernel, rfl⟩
theorem D_X7_undo_20 : qd cX7_undo 20 (.iconst 0) 1 21 := ⟨by decide +kernel, rfl⟩
theorem D_X7_undo_21 : qd cX7_undo 21 (.istore_n 1) 1 22 := ⟨by decide +kernel, rfl⟩
theorem D_X7_undo_22 : qd cX7_undo 22 (.iload_n 1) 1 23 := ⟨by decide +kernel, rfl⟩
theorem D_X7_undo_23 : qd cX7_undo 23 (.bipush 51) 2 25 := ⟨by decide +kernel, rfl⟩
theorem D_X7_undo_25 : qj cX7_undo 25 (.if_icmp .ge 29) (29) 28 54 := ⟨by decide +kernel, rfl, by decide⟩
theorem D_X7_undo_28 : qd cX7_undo 28 (.aload_n 0) 1 29 := ⟨by decide +kernel, rfl⟩
theorem D_X7_undo_29 : qd cX7_undo 29 (.getfield 19) 3 32 := ⟨by decide +kernel, rfl⟩
theorem D_X7_undo_32 : qd cX7_undo 32 (.iload_n 1) 1 33 := ⟨by decide +kernel, rfl⟩
theorem D_X7_undo_33 : qd cX7_undo 33 (.aload_n 0) 1 34 := ⟨by decide +kernel, rfl⟩
theorem D_X7_undo_34 : qd cX7_undo 34 (.getfield 31) 3 37 := ⟨by decide +kernel, rfl⟩
theorem D_X7_undo_37 : qd cX7_undo 37 (.bipush 51) 2 39 := ⟨by decide +kernel, rfl⟩
theorem D_X7_undo_39 : qd cX7_undo 39 (.aload_n 0) 1 40 := ⟨by decide +kernel, rfl⟩
theorem D_X7_undo_40 : qd cX7_undo 40 (.getfield 139) 3 43 := ⟨by decide +kernel, rfl⟩
theorem D_X7_undo_43 : qd cX7_undo 43 (.imul) 1 44 := ⟨by decide +kernel, rfl⟩
theorem D_X7_undo_44 : qd cX7_undo 44 (.iload_n 1) 1 45 := ⟨by decide +kernel, rfl⟩
theorem D_X7_undo_45 : qd cX7_undo 45 (.iadd) 1 46 := ⟨by decide +kernel, rfl⟩
theorem D_X7_undo_46 : qd cX7_undo 46 (.iaload) 1 47 := ⟨by decide +kernel, rfl⟩
theorem D_X7_undo_47 : qd cX7_undo 47 (.iastore) 1 48 := ⟨by decide +kernel, rfl⟩
theorem D_X7_undo_48 : qd cX7_undo 48 (.iinc 1 1) 3 51 := ⟨by decide +kernel, rfl⟩
theorem D_X7_undo_51 : qj cX7_undo 51 (.goto (-29)) (-29) 54 22 := ⟨by decide +kernel, rfl, by decide⟩
theorem D_X7_undo_54 : qd cX7_undo 54 (.aload_n 0) 1 55 := ⟨by decide +kernel, rfl⟩
theorem D_X7_undo_55 : qd cX7_undo 55 (.getfield 139) 3 58 := ⟨by decide +kernel, rfl⟩
theorem D_X7_undo_58 : qd cX7_undo 58 (.ireturn) 1 59 := ⟨by decide +kernel, rfl⟩
theorem D_X7_well_0 : qd cX7_well 0 (.aload_n 0) 1 1 := ⟨by decide +kernel, rfl⟩
theorem D_X7_well_1 : qd cX7_well 1 (.iconst 0) 1 2 := ⟨by decide +kernel, rfl⟩
theorem D_X7_well_2 : qd cX7_well 2 (.putfield 50) 3 5 := ⟨by decide +kernel, rfl⟩
theorem D_X7_well_5 : qd cX7_well 5 (.iload_n 1) 1 6 := ⟨by decide +kernel, rfl⟩
theorem D_X7_well_6 : qd cX7_well 6 (.ireturn) 1 7 := ⟨by decide +kernel, rfl⟩
theorem D_X7_whispered_0 : qd cX7_whispered 0 (.aload_n 0) 1 1 := ⟨by decide +kernel, rfl⟩
theorem D_X7_whispered_1 : qd cX7_whispered 1 (.getfield 135) 3 4 := ⟨by decide +kernel, rfl⟩
theorem D_X7_whispered_4 : qj cX7_whispered 4 (.ifCond .ne 6) (6) 7 10 := ⟨by decide +kernel, rfl, by decide⟩
theorem D_X7_whispered_7 : qd cX7_whispered 7 (.ldc 162) 2 9 := ⟨by decide +kernel, rfl⟩
theorem D_X7_whispered_9 : qd cX7_whispered 9 (.ireturn) 1 10 := ⟨by decide +kernel, rfl⟩
theorem D_X7_whispered_10 : qd cX7_whispered 10 (.aload_n 0) 1 11 := ⟨by decide +kernel, rfl⟩
theorem D_X7_whispered_11 : qd cX7_whispered 11 (.iload_n 1) 1 12 := ⟨by decide +kernel, rfl⟩
theorem D_X7_whispered_12 : qd cX7_whispered 12 (.invokevirtual 180) 3 15 := ⟨by decide +kernel, rfl⟩
theorem D_X7_whispered_15 : qj cX7_whispered 15 (.ifCond .eq 23) (23) 18 38 := ⟨by decide +kernel, rfl, by decide⟩
theorem D_X7_whispered_18 : qd cX7_whispered 18 (.iload_n 2) 1 19 := ⟨by decide +kernel, rfl⟩
theorem D_X7_whispered_19 : qd cX7_whispered 19 (.invokestatic 61) 3 22 := ⟨by decide +kernel, rfl⟩
theorem D_X7_whispered_22 : qj cX7_whispered 22 (.ifCond .eq 16) (16) 25 38 := ⟨by decide +kernel, rfl, by decide⟩
theorem D_X7_whispered_25 : qd cX7_whispered 25 (.iload 4) 2 27 := ⟨by decide +kernel, rfl⟩
theorem D_X7_whispered_27 : qd cX7_whispered 27 (.i2l) 1 28 := ⟨by decide +kernel, rfl⟩
theorem D_X7_whispered_28 : qd cX7_whispered 28 (.lconst 1) 1 29 := ⟨by decide +kernel, rfl⟩
theorem D_X7_whispered_29 : qd cX7_whispered 29 (.ldc2_w 226) 3 32 := ⟨by decide +kernel, rfl⟩
theorem D_X7_whispered_32 : qd cX7_whispered 32 (.invokestatic 57) 3 35 := ⟨by decide +kernel, rfl⟩
theorem D_X7_whispered_35 : qj cX7_whispered 35 (.ifCond .ne 6) (6) 38 41 := ⟨by decide +kernel, rfl, by decide⟩
theorem D_X7_whispered_38 : qd cX7_whispered 38 (.ldc 67) 2 40 := ⟨by decide +kernel, rfl⟩
theorem D_X7_whispered_40 : qd cX7_whispered 40 (.ireturn) 1 41 := ⟨by decide +kernel, rfl⟩
theorem D_X7_whispered_41 : qd cX7_whispered 41 (.aload_n 0) 1 42 := ⟨by decide +kernel, rfl⟩
theorem D_X7_whispered_42 : qd cX7_whispered 42 (.iload_n 2) 1 43 := ⟨by decide +kernel, rfl⟩
theorem D_X7_whispered_43 : qd cX7_whispered 43 (.iload_n 3) 1 44 := ⟨by decide +kernel, rfl⟩
theorem D_X7_whispered_44 : qd cX7_whispered 44 (.iload 4) 2 46 := ⟨by decide +kernel, rfl⟩
theorem D_X7_whispered_46 : qd cX7_whispered 46 (.invokevirtual 219) 3 49 := ⟨by decide +kernel, rfl⟩
theorem D_X7_whispered_49 : qd cX7_whispered 49 (.istore 5) 2 51 := ⟨by decide +kernel, rfl⟩
theorem D_X7_whispered_51 : qd cX7_whispered 51 (.iload 5) 2 53 := ⟨by decide +kernel, rfl⟩
theorem D_X7_whispered_53 : qj cX7_whispered 53 (.ifCond .ge 6) (6) 56 59 := ⟨by decide +kernel, rfl, by decide⟩
theorem D_X7_whispered_56 : qd cX7_whispered 56 (.iload 5) 2 58 := ⟨by decide +kernel, rfl⟩
theorem D_X7_whispered_58 : qd cX7_whispered 58 (.ireturn) 1 59 := ⟨by decide +kernel, rfl⟩
theorem D_X7_whispered_59 : qd cX7_whispered 59 (.aload_n 0) 1 60 := ⟨by decide +kernel, rfl⟩
theorem D_X7_whispered_60 : qd cX7_whispered 60 (.invokevirtual 188) 3 63 := ⟨by decide +kernel, rfl⟩
theorem D_X7_whispered_63 : qd cX7_whispered 63 (.iconst 0) 1 64 := ⟨by decide +kernel, rfl⟩
theorem D_X7_whispered_64 : qd cX7_whispered 64 (.istore 6) 2 66 := ⟨by decide +kernel, rfl⟩
theorem D_X7_whispered_66 : qd cX7_whispered 66 (.iconst 0) 1 67 := ⟨by decide +kernel, rfl⟩
theorem D_X7_whispered_67 : qd cX7_whispered 67 (.istore 7) 2 69 := ⟨by decide +kernel, rfl⟩
theorem D_X7_whispered_69 : qd cX7_whispered 69 (.iload 7) 2 71 := ⟨by decide +kernel, rfl⟩
theorem D_X7_whispered_71 : qd cX7_whispered 71 (.aload_n 0) 1 72 := ⟨by decide +kernel, rfl⟩
theorem D_X7_whispered_72 : qd cX7_whispered 72 (.getfield 34) 3 75 := ⟨by decide +kernel, rfl⟩
theorem D_X7_whispered_75 : qd cX7_whispered 75 (.iconst 3) 1 76 := ⟨by decide +kernel, rfl⟩
theorem D_X7_whispered_76 : qd cX7_whispered 76 (.iaload) 1 77 := ⟨by decide +kernel, rfl⟩
theorem D_X7_whispered_77 : qj cX7_whispered 77 (.if_icmp .ge 54) (54) 80 131 := ⟨by decide +kernel, rfl, by decide⟩
theorem D_X7_whispered_80 : qd cX7_whispered 80 (.aload_n 0) 1 81 := ⟨by decide +kernel, rfl⟩
theorem D_X7_whispered_81 : qd cX7_whispered 81 (.getfield 19) 3 84 := ⟨by decide +kernel, rfl⟩
theorem D_X7_whispered_84 : qd cX7_whispered 84 (.bipush 21) 2 86 := ⟨by decide +kernel, rfl⟩
theorem D_X7_whispered_86 : qd cX7_whispered 86 (.bipush 6) 2 88 := ⟨by decide +kernel, rfl⟩
theorem D_X7_whispered_88 : qd cX7_whispered 88 (.iload 7) 2 90 := ⟨by decide +kernel, rfl⟩
theorem D_X7_whispered_90 : qd cX7_whispered 90 (.imul) 1 91 := ⟨by decide +kernel, rfl⟩
theorem D_X7_whispered_91 : qd cX7_whispered 91 (.iadd) 1 92 := ⟨by decide +kernel, rfl⟩
theorem D_X7_whispered_92 : qd cX7_whispered 92 (.iload_n 1) 1 93 := ⟨by decide +kernel, rfl⟩
theorem D_X7_whispered_93 : qd cX7_whispered 93 (.iadd) 1 94 := ⟨by decide +kernel, rfl⟩
theorem D_X7_whispered_94 : qd cX7_whispered 94 (.bipush 27) 2 96 := ⟨by decide +kernel, rfl⟩
theorem D_X7_whispered_96 : qd cX7_whispered 96 (.iastore) 1 97 := ⟨by decide +kernel, rfl⟩
theorem D_X7_whispered_97 : qd cX7_whispered 97 (.iload 6) 2 99 := ⟨by decide +kernel, rfl⟩
theorem D_X7_whispered_99 : qd cX7_whispered 99 (.aload_n 0) 1 100 := ⟨by decide +kernel, rfl⟩
theorem D_X7_whispered_100 : qd cX7_whispered 100 (.bipush 40) 2 102 := ⟨by decide +kernel, rfl⟩
theorem D_X7_whispered_102 : qd cX7_whispered 102 (.iload_n 2) 1 103 := ⟨by decide +kernel, rfl⟩
theorem D_X7_whispered_103 : qd cX7_whispered 103 (.imul) 1 104 := ⟨by decide +kernel, rfl⟩
theorem D_X7_whispered_104 : qd cX7_whispered 104 (.iload_n 3) 1 105 := ⟨by decide +kernel, rfl⟩
theorem D_X7_whispered_105 : qd cX7_whispered 105 (.iadd) 1 106 := ⟨by decide +kernel, rfl⟩
theorem D_X7_whispered_106 : qd cX7_whispered 106 (.iload 4) 2 108 := ⟨by decide +kernel, rfl⟩
theorem D_X7_whispered_108 : qd cX7_whispered 108 (.invokevirtual 223) 3 111 := ⟨by decide +kernel, rfl⟩
theorem D_X7_whispered_111 : qj cX7_whispered 111 (.ifCond .eq 10) (10) 114 121 := ⟨by decide +kernel, rfl, by decide⟩
theorem D_X7_whispered_114 : qd cX7_whispered 114 (.iconst 1) 1 115 := ⟨by decide +kernel, rfl⟩
theorem D_X7_whispered_115 : qd cX7_whispered 115 (.iload 7) 2 117 := ⟨by decide +kernel, rfl⟩
theorem D_X7_whispered_117 : qd cX7_whispered 117 (.ishl) 1 118 := ⟨by decide +kernel, rfl⟩
theorem D_X7_whispered_118 : qj cX7_whispered 118 (.goto 4) (4) 121 122 := ⟨by decide +kernel, rfl, by decide⟩
theorem D_X7_whispered_121 : qd cX7_whispered 121 (.iconst 0) 1 122 := ⟨by decide +kernel, rfl⟩
theorem D_X7_whispered_122 : qd cX7_whispered 122 (.ior) 1 123 := ⟨by decide +kernel, rfl⟩
theorem D_X7_whispered_123 : qd cX7_whispered 123 (.istore 6) 2 125 := ⟨by decide +kernel, rfl⟩
theorem D_X7_whispered_125 : qd cX7_whispered 125 (.iinc 7 1) 3 128 := ⟨by decide +kernel, rfl⟩
theorem D_X7_whispered_128 : qj cX7_whispered 128 (.goto (-59)) (-59) 131 69 := ⟨by decide +kernel, rfl, by decide⟩
theorem D_X7_whispered_131 : qd cX7_whispered 131 (.aload_n 0) 1 132 := ⟨by decide +kernel, rfl⟩
theorem D_X7_whispered_132 : qd cX7_whispered 132 (.iload 6) 2 134 := ⟨by decide +kernel, rfl⟩
theorem D_X7_whispered_134 : qd cX7_whispered 134 (.invokevirtual 72) 3 137 := ⟨by decide +kernel, rfl⟩
theorem D_X7_whispered_137 : qd cX7_whispered 137 (.ireturn) 1 138 := ⟨by decide +kernel, rfl⟩
theorem D_X7_who_0 : qd cX7_who 0 (.aload_n 0) 1 1 := ⟨by decide +kernel, rfl⟩
theorem D_X7_who_1 : qd cX7_who 1 (.iload_n 1) 1 2 := ⟨by decide +kernel, rfl⟩
theorem D_X7_who_2 : qd cX7_who 2 (.invokevirtual 171) 3 5 := ⟨by decide +kernel, rfl⟩
theorem D_X7_who_5 : qj cX7_who 5 (.ifCond .eq 23) (23) 8 28 := ⟨by decide +kernel, rfl, by decide⟩
theorem D_X7_who_8 : qd cX7_who 8 (.iload_n 2) 1 9 := ⟨by decide +kernel, rfl⟩
theorem D_X7_who_9 : qd cX7_who 9 (.invokestatic 61) 3 12 := ⟨by decide +kernel, rfl⟩
theorem D_X7_who_12 : qj cX7_who 12 (.ifCond .eq 16) (16) 15 28 := ⟨by decide +kernel, rfl, by decide⟩
theorem D_X7_who_15 : qd cX7_who 15 (.iload 4) 2 17 := ⟨by decide +kernel, rfl⟩
theorem D_X7_who_17 : qd cX7_who 17 (.i2l) 1 18 := ⟨by decide +kernel, rfl⟩
theorem D_X7_who_18 : qd cX7_who 18 (.lconst 1) 1 19 := ⟨by decide +kernel, rfl⟩
theorem D_X7_who_19 : qd cX7_who 19 (.ldc2_w 217) 3 22 := ⟨by decide +kernel, rfl⟩
theorem D_X7_who_22 : qd cX7_who 22 (.invokestatic 57) 3 25 := ⟨by decide +kernel, rfl⟩
theorem D_X7_who_25 : qj cX7_who 25 (.ifCond .ne 6) (6) 28 31 := ⟨by decide +kernel, rfl, by decide⟩
theorem D_X7_who_28 : qd cX7_who 28 (.ldc 67) 2 30 := ⟨by decide +kernel, rfl⟩
theorem D_X7_who_30 : qd cX7_who 30 (.ireturn) 1 31 := ⟨by decide +kernel, rfl⟩
theorem D_X7_who_31 : qd cX7_who 31 (.aload_n 0) 1 32 := ⟨by decide +kernel, rfl⟩
theorem D_X7_who_32 : qd cX7_who 32 (.iload_n 2) 1 33 := ⟨by decide +kernel, rfl⟩
theorem D_X7_who_33 : qd cX7_who 33 (.iload_n 3) 1 34 := ⟨by decide +kernel, rfl⟩
theorem D_X7_who_34 : qd cX7_who 34 (.iload 4) 2 36 := ⟨by decide +kernel, rfl⟩
theorem D_X7_who_36 : qd cX7_who 36 (.invokevirtual 219) 3 39 := ⟨by decide +kernel, rfl⟩
theorem D_X7_who_39 : qd cX7_who 39 (.istore 5) 2 41 := ⟨by decide +kernel, rfl⟩
theorem D_X7_who_41 : qd cX7_who 41 (.iload 5) 2 43 := ⟨by decide +kernel, rfl⟩
theorem D_X7_who_43 : qj cX7_who 43 (.ifCond .ge 6) (6) 46 49 := ⟨by decide +kernel, rfl, by decide⟩
theorem D_X7_who_46 : qd cX7_who 46 (.iload 5) 2 48 := ⟨by decide +kernel, rfl⟩
theorem D_X7_who_48 : qd cX7_who 48 (.ireturn) 1 49 := ⟨by decide +kernel, rfl⟩
theorem D_X7_who_49 : qd cX7_who 49 (.aload_n 0) 1 50 := ⟨by decide +kernel, rfl⟩
theorem D_X7_who_50 : qd cX7_who 50 (.invokevirtual 188) 3 53 := ⟨by decide +kernel, rfl⟩
theorem D_X7_who_53 : qd cX7_who 53 (.iconst 0) 1 54 := ⟨by decide +kernel, rfl⟩
theorem D_X7_who_54 : qd cX7_who 54 (.istore 6) 2 56 := ⟨by decide +kernel, rfl⟩
theorem D_X7_who_56 : qd cX7_who 56 (.iconst 1) 1 57 := ⟨by decide +kernel, rfl⟩
theorem D_X7_who_57 : qd cX7_who 57 (.istore 7) 2 59 := ⟨by decide +kernel, rfl⟩
theorem D_X7_who_59 : qd cX7_who 59 (.iload 7) 2 61 := ⟨by decide +kernel, rfl⟩
theorem D_X7_who_61 : qd cX7_who 61 (.iconst 5) 1 62 := ⟨by decide +kernel, rfl⟩
theorem D_X7_who_62 : qj cX7_who 62 (.if_icmp .gt 48) (48) 65 110 := ⟨by decide +kernel, rfl, by decide⟩
theorem D_X7_who_65 : qd cX7_who 65 (.aload_n 0) 1 66 := ⟨by decide +kernel, rfl⟩
theorem D_X7_who_66 : qd cX7_who 66 (.getfield 19) 3 69 := ⟨by decide +kernel, rfl⟩
theorem D_X7_who_69 : qd cX7_who 69 (.bipush 6) 2 71 := ⟨by decide +kernel, rfl⟩
theorem D_X7_who_71 : qd cX7_who 71 (.iload_n 1) 1 72 := ⟨by decide +kernel, rfl⟩
theorem D_X7_who_72 : qd cX7_who 72 (.iadd) 1 73 := ⟨by decide +kernel, rfl⟩
theorem D_X7_who_73 : qd cX7_who 73 (.iload 7) 2 75 := ⟨by decide +kernel, rfl⟩
theorem D_X7_who_75 : qd cX7_who 75 (.iastore) 1 76 := ⟨by decide +kernel, rfl⟩
theorem D_X7_who_76 : qd cX7_who 76 (.iload 6) 2 78 := ⟨by decide +kernel, rfl⟩
theorem D_X7_who_78 : qd cX7_who 78 (.aload_n 0) 1 79 := ⟨by decide +kernel, rfl⟩
theorem D_X7_who_79 : qd cX7_who 79 (.bipush 40) 2 81 := ⟨by decide +kernel, rfl⟩
theorem D_X7_who_81 : qd cX7_who 81 (.iload_n 2) 1 82 := ⟨by decide +kernel, rfl⟩
theorem D_X7_who_82 : qd cX7_who 82 (.imul) 1 83 := ⟨by decide +kernel, rfl⟩
theorem D_X7_who_83 : qd cX7_who 83 (.iload_n 3) 1 84 := ⟨by decide +kernel, rfl⟩
theorem D_X7_who_84 : qd cX7_who 84 (.iadd) 1 85 := ⟨by decide +kernel, rfl⟩
theorem D_X7_who_85 : qd cX7_who 85 (.iload 4) 2 87 := ⟨by decide +kernel, rfl⟩
theorem D_X7_who_87 : qd cX7_who 87 (.invokevirtual 223) 3 90 := ⟨by decide +kernel, rfl⟩
theorem D_X7_who_90 : qj cX7_who 90 (.ifCond .eq 10) (10) 93 100 := ⟨by decide +kernel, rfl, by decide⟩
theorem D_X7_who_93 : qd cX7_who 93 (.iconst 1) 1 94 := ⟨by decide +kernel, rfl⟩
theorem D_X7_who_94 : qd cX7_who 94 (.iload 7) 2 96 := ⟨by decide +kernel, rfl⟩
theorem D_X7_who_96 : qd cX7_who 96 (.ishl) 1 97 := ⟨by decide +kernel, rfl⟩
theorem D_X7_who_97 : qj cX7_who 97 (.goto 4) (4) 100 101 := ⟨by decide +kernel, rfl, by decide⟩
theorem D_X7_who_100 : qd cX7_who 100 (.iconst 0) 1 101 := ⟨by decide +kernel, rfl⟩
theorem D_X7_who_101 : qd cX7_who 101 (.ior) 1 102 := ⟨by decide +kernel, rfl⟩
theorem D_X7_who_102 : qd cX7_who 102 (.istore 6) 2 104 := ⟨by decide +kernel, rfl⟩
theorem D_X7_who_104 : qd cX7_who 104 (.iinc 7 1) 3 107 := ⟨by decide +kernel, rfl⟩
theorem D_X7_who_107 : qj cX7_who 107 (.goto (-48)) (-48) 110 59 := ⟨by decide +kernel, rfl, by decide⟩
theorem D_X7_who_110 : qd cX7_who 110 (.aload_n 0) 1 111 := ⟨by decide +kernel, rfl⟩
theorem D_X7_who_111 : qd cX7_who 111 (.iload 6) 2 113 := ⟨by decide +kernel, rfl⟩
theorem D_X7_who_113 : qd cX7_who 113 (.invokevirtual 72) 3 116 := ⟨by decide +kernel, rfl⟩
theorem D_X7_who_116 : qd cX7_who 116 (.ireturn) 1 117 := ⟨by decide +kernel, rfl⟩
theorem D_X7_wifeSize_0 : qd cX7_wifeSize 0 (.aload_n 0) 1 1 := ⟨by decide +kernel, rfl⟩
theorem D_X7_wifeSize_1 : qd cX7_wifeSize 1 (.bipush 13) 2 3 := ⟨by decide +kernel, rfl⟩
theorem D_X7_wifeSize_3 : qd cX7_wifeSize 3 (.invokevirtual 251) 3 6 := ⟨by decide +kernel, rfl⟩
theorem D_X7_wifeSize_6 : qd cX7_wifeSize 6 (.aload_n 0) 1 7 := ⟨by decide +kernel, rfl⟩
theorem D_X7_wifeSize_7 : qd cX7_wifeSize 7 (.iload_n 1) 1 8 := ⟨by decide +kernel, rfl⟩
theorem D_X7_wifeSize_8 : qd cX7_wifeSize 8 (.bipush 10) 2 10 := ⟨by decide +kernel, rfl⟩
theorem D_X7_wifeSize_10 : qd cX7_wifeSize 10 (.invokevirtual 254) 3 13 := ⟨by decide +kernel, rfl⟩
theorem D_X7_wifeSize_13 : qd cX7_wifeSize 13 (.bipush 100) 2 15 := ⟨by decide +kernel, rfl⟩
theorem D_X7_wifeSize_15 : qd cX7_wifeSize 15 (.isub) 1 16 := ⟨by decide +kernel, rfl⟩
theorem D_X7_wifeSize_16 : qd cX7_wifeSize 16 (.ireturn) 1 17 := ⟨by decide +kernel, rfl⟩
theorem D_X7_yard_0 : qd cX7_yard 0 (.aload_n 0) 1 1 := ⟨by decide +kernel, rfl⟩
theorem D_X7_yard_1 : qd cX7_yard 1 (.invokevirtual 127) 3 4 := ⟨by decide +kernel, rfl⟩
theorem D_X7_yard_4 : qd cX7_yard 4 (.istore_n 1) 1 5 := ⟨by decide +kernel, rfl⟩
theorem D_X7_yard_5 : qd cX7_yard 5 (.aload_n 0) 1 6 := ⟨by decide +kernel, rfl⟩
theorem D_X7_yard_6 : qd cX7_yard 6 (.iconst 0) 1 7 := ⟨by decide +kernel, rfl⟩
theorem D_X7_yard_7 : qd cX7_yard 7 (.putfield 81) 3 10 := ⟨by decide +kernel, rfl⟩
theorem D_X7_yard_10 : qd cX7_yard 10 (.iload_n 1) 1 11 := ⟨by decide +kernel, rfl⟩
theorem D_X7_yard_11 : qj cX7_yard 11 (.ifCond .ne 19) (19) 14 30 := ⟨by decide +kernel, rfl, by decide⟩
theorem D_X7_yard_14 : qd cX7_yard 14 (.aload_n 0) 1 15 := ⟨by decide +kernel, rfl⟩
theorem D_X7_yard_15 : qd cX7_yard 15 (.aload_n 0) 1 16 := ⟨by decide +kernel, rfl⟩
theorem D_X7_yard_16 : qd cX7_yard 16 (.getfield 105) 3 19 := ⟨by decide +kernel, rfl⟩
theorem D_X7_yard_19 : qd cX7_yard 19 (.putfield 131) 3 22 := ⟨by decide +kernel, rfl⟩
theorem D_X7_yard_22 : qd cX7_yard 22 (.ldc 134) 2 24 := ⟨by decide +kernel, rfl⟩
theorem D_X7_yard_24 : qd cX7_yard 24 (.aload_n 0) 1 25 := ⟨by decide +kernel, rfl⟩
theorem D_X7_yard_25 : qd cX7_yard 25 (.getfield 88) 3 28 := ⟨by decide +kernel, rfl⟩
theorem D_X7_yard_28 : qd cX7_yard 28 (.isub) 1 29 := ⟨by decide +kernel, rfl⟩
theorem D_X7_yard_29 : qd cX7_yard 29 (.ireturn) 1 30 := ⟨by decide +kernel, rfl⟩
theorem D_X7_yard_30 : qd cX7_yard 30 (.iconst 0) 1 31 := ⟨by decide +kernel, rfl⟩
theorem D_X7_yard_31 : qd cX7_yard 31 (.istore_n 2) 1 32 := ⟨by decide +kernel, rfl⟩
theorem D_X7_yard_32 : qd cX7_yard 32 (.iload_n 2) 1 33 := ⟨by decide +kernel, rfl⟩
theorem D_X7_yard_33 : qd cX7_yard 33 (.bipush 51) 2 35 := ⟨by decide +kernel, rfl⟩
theorem D_X7_yard_35 : qj cX7_yard 35 (.if_icmp .ge 21) (21) 38 56 := ⟨by decide +kernel, rfl, by decide⟩
theorem D_X7_yard_38 : qd cX7_yard 38 (.aload_n 0) 1 39 := ⟨by decide +kernel, rfl⟩
theorem D_X7_yard_39 : qd cX7_yard 39 (.getfield 19) 3 42 := ⟨by decide +kernel, rfl⟩
theorem D_X7_yard_42 : qd cX7_yard 42 (.iload_n 2) 1 43 := ⟨by decide +kernel, rfl⟩
theorem D_X7_yard_43 : qd cX7_yard 43 (.aload_n 0) 1 44 := ⟨by decide +kernel, rfl⟩
theorem D_X7_yard_44 : qd cX7_yard 44 (.getfield 28) 3 47 := ⟨by decide +kernel, rfl⟩
theorem D_X7_yard_47 : qd cX7_yard 47 (.iload_n 2) 1 48 := ⟨by decide +kernel, rfl⟩
theorem D_X7_yard_48 : qd cX7_yard 48 (.iaload) 1 49 := ⟨by decide +kernel, rfl⟩
theorem D_X7_yard_49 : qd cX7_yard 49 (.iastore) 1 50 := ⟨by decide +kernel, rfl⟩
theorem D_X7_yard_50 : qd cX7_yard 50 (.iinc 2 1) 3 53 := ⟨by decide +kernel, rfl⟩
theorem D_X7_yard_53 : qj cX7_yard 53 (.goto (-21)) (-21) 56 32 := ⟨by decide +kernel, rfl, by decide⟩
theorem D_X7_yard_56 : qd cX7_yard 56 (.aload_n 0) 1 57 := ⟨by decide +kernel, rfl⟩
theorem D_X7_yard_57 : qd cX7_yard 57 (.getfield 19) 3 60 := ⟨by decide +kernel, rfl⟩
theorem D_X7_yard_60 : qd cX7_yard 60 (.iconst 5) 1 61 := ⟨by decide +kernel, rfl⟩
theorem D_X7_yard_61 : qd cX7_yard 61 (.iconst 1) 1 62 := ⟨by decide +kernel, rfl⟩
theorem D_X7_yard_62 : qd cX7_yard 62 (.aload_n 0) 1 63 := ⟨by decide +kernel, rfl⟩
theorem D_X7_yard_63 : qd cX7_yard 63 (.getfield 19) 3 66 := ⟨by decide +kernel, rfl⟩
theorem D_X7_yard_66 : qd cX7_yard 66 (.iconst 0) 1 67 := ⟨by decide +kernel, rfl⟩
theorem D_X7_yard_67 : qd cX7_yard 67 (.iaload) 1 68 := ⟨by decide +kernel, rfl⟩
theorem D_X7_yard_68 : qd cX7_yard 68 (.ishl) 1 69 := ⟨by decide +kernel, rfl⟩
theorem D_X7_yard_69 : qd cX7_yard 69 (.iconst 1) 1 70 := ⟨by decide +kernel, rfl⟩
theorem D_X7_yard_70 : qd cX7_yard 70 (.isub) 1 71 := ⟨by decide +kernel, rfl⟩
theorem D_X7_yard_71 : qd cX7_yard 71 (.iastore) 1 72 := ⟨by decide +kernel, rfl⟩
theorem D_X7_yard_72 : qd cX7_yard 72 (.aload_n 0) 1 73 := ⟨by decide +kernel, rfl⟩
theorem D_X7_yard_73 : qd cX7_yard 73 (.iconst 1) 1 74 := ⟨by decide +kernel, rfl⟩
theorem D_X7_yard_74 : qd cX7_yard 74 (.putfield 135) 3 77 := ⟨by decide +kernel, rfl⟩
theorem D_X7_yard_77 : qd cX7_yard 77 (.aload_n 0) 1 78 := ⟨by decide +kernel, rfl⟩
theorem D_X7_yard_78 : qd cX7_yard 78 (.iconst 0) 1 79 := ⟨by decide +kernel, rfl⟩
theorem D_X7_yard_79 : qd cX7_yard 79 (.putfield 139) 3 82 := ⟨by decide +kernel, rfl⟩
theorem D_X7_yard_82 : qd cX7_yard 82 (.aload_n 0) 1 83 := ⟨by decide +kernel, rfl⟩
theorem D_X7_yard_83 : qd cX7_yard 83 (.getfield 19) 3 86 := ⟨by decide +kernel, rfl⟩
theorem D_X7_yard_86 : qd cX7_yard 86 (.iconst 3) 1 87 := ⟨by decide +kernel, rfl⟩
theorem D_X7_yard_87 : qd cX7_yard 87 (.iaload) 1 88 := ⟨by decide +kernel, rfl⟩
theorem D_X7_yard_88 : qd cX7_yard 88 (.ireturn) 1 89 := ⟨by decide +kernel, rfl⟩
theorem D_X7_years_0 : qd cX7_years 0 (.aload_n 0) 1 1 := ⟨by decide +kernel, rfl⟩
theorem D_X7_years_1 : qd cX7_years 1 (.getfield 135) 3 4 := ⟨by decide +kernel, rfl⟩
theorem D_X7_years_4 : qj cX7_years 4 (.ifCond .ne 6) (6) 7 10 := ⟨by decide +kernel, rfl, by decide⟩
theorem D_X7_years_7 : qd cX7_years 7 (.ldc 162) 2 9 := ⟨by decide +kernel, rfl⟩
theorem D_X7_years_9 : qd cX7_years 9 (.ireturn) 1 10 := ⟨by decide +kernel, rfl⟩
theorem D_X7_years_10 : qd cX7_years 10 (.iload_n 1) 1 11 := ⟨by decide +kernel, rfl⟩
theorem D_X7_years_11 : qd cX7_years 11 (.i2l) 1 12 := ⟨by decide +kernel, rfl⟩
theorem D_X7_years_12 : qd cX7_years 12 (.lconst 1) 1 13 := ⟨by decide +kernel, rfl⟩
theorem D_X7_years_13 : qd cX7_years 13 (.ldc2_w 163) 3 16 := ⟨by decide +kernel, rfl⟩
theorem D_X7_years_16 : qd cX7_years 16 (.invokestatic 57) 3 19 := ⟨by decide +kernel, rfl⟩
theorem D_X7_years_19 : qj cX7_years 19 (.ifCond .ne 6) (6) 22 25 := ⟨by decide +kernel, rfl, by decide⟩
theorem D_X7_years_22 : qd cX7_years 22 (.ldc 67) 2 24 := ⟨by decide +kernel, rfl⟩
theorem D_X7_years_24 : qd cX7_years 24 (.ireturn) 1 25 := ⟨by decide +kernel, rfl⟩
theorem D_X7_years_25 : qd cX7_years 25 (.aload_n 0) 1 26 := ⟨by decide +kernel, rfl⟩
theorem D_X7_years_26 : qd cX7_years 26 (.getfield 19) 3 29 := ⟨by decide +kernel, rfl⟩
theorem D_X7_years_29 : qd cX7_years 29 (.iconst 4) 1 30 := ⟨by decide +kernel, rfl⟩
theorem D_X7_years_30 : qd cX7_years 30 (.iaload) 1 31 := ⟨by decide +kernel, rfl⟩
theorem D_X7_years_31 : qd cX7_years 31 (.iload_n 1) 1 32 := ⟨by decide +kernel, rfl⟩
theorem D_X7_years_32 : qd cX7_years 32 (.iadd) 1 33 := ⟨by decide +kernel, rfl⟩
theorem D_X7_years_33 : qd cX7_years 33 (.sipush 999) 3 36 := ⟨by decide +kernel, rfl⟩
theorem D_X7_years_36 : qj cX7_years 36 (.if_icmp .le 6) (6) 39 42 := ⟨by decide +kernel, rfl, by decide⟩
theorem D_X7_years_39 : qd cX7_years 39 (.ldc 84) 2 41 := ⟨by decide +kernel, rfl⟩
theorem D_X7_years_41 : qd cX7_years 41 (.ireturn) 1 42 := ⟨by decide +kernel, rfl⟩
theorem D_X7_years_42 : qd cX7_years 42 (.iconst 0) 1 43 := ⟨by decide +kernel, rfl⟩
theorem D_X7_years_43 : qd cX7_years 43 (.istore_n 2) 1 44 := ⟨by decide +kernel, rfl⟩
theorem D_X7_years_44 : qd cX7_years 44 (.iload_n 2) 1 45 := ⟨by decide +kernel, rfl⟩
theorem D_X7_years_45 : qd cX7_years 45 (.iload_n 1) 1 46 := ⟨by decide +kernel, rfl⟩
theorem D_X7_years_46 : qj cX7_years 46 (.if_icmp .ge 17) (17) 49 63 := ⟨by decide +kernel, rfl, by decide⟩
theorem D_X7_years_49 : qd cX7_years 49 (.aload_n 0) 1 50 := ⟨by decide +kernel, rfl⟩
theorem D_X7_years_50 : qd cX7_years 50 (.invokevirtual 165) 3 53 := ⟨by decide +kernel, rfl⟩
theorem D_X7_years_53 : qd cX7_years 53 (.aload_n 0) 1 54 := ⟨by decide +kernel, rfl⟩
theorem D_X7_years_54 : qd cX7_years 54 (.invokevirtual 168) 3 57 := ⟨by decide +kernel, rfl⟩
theorem D_X7_years_57 : qd cX7_years 57 (.iinc 2 1) 3 60 := ⟨by decide +kernel, rfl⟩
theorem D_X7_years_60 : qj cX7_years 60 (.goto (-16)) (-16) 63 44 := ⟨by decide +kernel, rfl, by decide⟩
theorem D_X7_years_63 : qd cX7_years 63 (.aload_n 0) 1 64 := ⟨by decide +kernel, rfl⟩
theorem D_X7_years_64 : qd cX7_years 64 (.getfield 19) 3 67 := ⟨by decide +kernel, rfl⟩
theorem D_X7_years_67 : qd cX7_years 67 (.iconst 5) 1 68 := ⟨by decide +kernel, rfl⟩
theorem D_X7_years_68 : qd cX7_years 68 (.iaload) 1 69 := ⟨by decide +kernel, rfl⟩
theorem D_X7_years_69 : qd cX7_years 69 (.ireturn) 1 70 := ⟨by decide +kernel, rfl⟩
end
section
/-! numbers: ints that are small naturals; the rows of instructions over them -/
section
theorem n_lt {a b : Nat} (ha : a < 2 ^ 31) (hb : b < 2 ^ 31) : nI a < nI b ↔ a < b := nI_ltI ha hb
theorem n_le {a b : Nat} (ha : a < 2 ^ 31) (hb : b < 2 ^ 31) : nI a ≤ nI b ↔ a ≤ b := nI_leI ha hb
theorem n_eq {a b : Nat} (ha : a < 2 ^ 31) (hb : b < 2 ^ 31) : nI a = nI b ↔ a = b := nI_eq ha hb
theorem n_z : (0 : Int32) = nI 0 := rfl
theorem n_and (a b : Nat) : nI a &&& nI b = nI (a &&& b) := by
  unfold nI; apply Int32.toBitVec_inj.mp; simp
theorem n_or (a b : Nat) : nI a ||| nI b = nI (a ||| b) := by
  unfold nI; apply Int32.toBitVec_inj.mp; simp
theorem n_xor (a b : Nat) : nI a ^^^ nI b = nI (a ^^^ b) := by
  unfold nI; apply Int32.toBitVec_inj.mp; simp
theorem n_shc : ∀ b, b < 32 → ((nI b &&& 31).toBitVec.smod 32).toNat = b := by decide +kernel
theorem n_shl (a : Nat) {b : Nat} (hb : b < 32) : nI a <<< (nI b &&& 31) = nI (a * 2 ^ b) := by
  apply Int32.toBitVec_inj.mp
  apply BitVec.eq_of_toNat_eq
  rw [pk_shl _ _ b (n_shc b hb)]
  unfold nI
  simp
theorem n_shr {a b : Nat} (ha : a < 2 ^ 31) (hb : b < 32) : nI a >>> (nI b &&& 31) = nI (a / 2 ^ b) := pk_shrN ha _ b (n_shc b hb)
theorem n_div {a b : Nat} (ha : a < 2 ^ 31) (h0 : 0 < b) (hb : b < 2 ^ 31) : nI a / nI b = nI (a / b) := pk_div ha h0 hb
theorem n_rem {a b : Nat} (ha : a < 2 ^ 31) (h0 : 0 < b) (hb : b < 2 ^ 31) : nI a - nI a / nI b * nI b = nI (a % b) := pk_rem ha h0 hb
theorem n_ne0 {b : Nat} (h0 : 0 < b) (hb : b < 2 ^ 31) : ¬ nI b = 0 := nI_ne0 h0 hb
variable {X : qX} {G : qG} {cc : ByteArray} {nL kc ks pc pc' d : Nat} {own : String} {lv : List (Option Value)} {st : List Value} {h : List va_E} {a b : Nat}
theorem z_iadd (C : qC X G cc nL own d) (hd : qd cc pc (.iadd) 1 pc') (k : Y X G nL kc ks pc' lv (.int (nI (a + b)) :: st) h) : Y X G nL kc ks pc lv (.int (nI b) :: .int (nI a) :: st) h := y_iadd C hd (y_top (nI_add a b) k)
theorem z_isub (C : qC X G cc nL own d) (hd : qd cc pc (.isub) 1 pc') (hb : b ≤ a) (k : Y X G nL kc ks pc' lv (.int (nI (a - b)) :: st) h) : Y X G nL kc ks pc lv (.int (nI b) :: .int (nI a) :: st) h := y_isub C hd (y_top (pk_sub hb) k)
theorem z_imul (C : qC X G cc nL own d) (hd : qd cc pc (.imul) 1 pc') (k : Y X G nL kc ks pc' lv (.int (nI (a * b)) :: st) h) : Y X G nL kc ks pc lv (.int (nI b) :: .int (nI a) :: st) h := y_imul C hd (y_top (pk_mul a b) k)
theorem z_iand (C : qC X G cc nL own d) (hd : qd cc pc (.iand) 1 pc') (k : Y X G nL kc ks pc' lv (.int (nI (a &&& b)) :: st) h) : Y X G nL kc ks pc lv (.int (nI b) :: .int (nI a) :: st) h := y_iand C hd (y_top (n_and a b) k)
theorem z_ior (C : qC X G cc nL own d) (hd : qd cc pc (.ior) 1 pc') (k : Y X G nL kc ks pc' lv (.int (nI (a ||| b)) :: st) h) : Y X G nL kc ks pc lv (.int (nI b) :: .int (nI a) :: st) h := y_ior C hd (y_top (n_or a b) k)
theorem z_ixor (C : qC X G cc nL own d) (hd : qd cc pc (.ixor) 1 pc') (k : Y X G nL kc ks pc' lv (.int (nI (a ^^^ b)) :: st) h) : Y X G nL kc ks pc lv (.int (nI b) :: .int (nI a) :: st) h := y_ixor C hd (y_top (n_xor a b) k)
theorem z_ishl (C : qC X G cc nL own d) (hd : qd cc pc (.ishl) 1 pc') (hb : b < 32) (k : Y X G nL kc ks pc' lv (.int (nI (a * 2 ^ b)) :: st) h) : Y X G nL kc ks pc lv (.int (nI b) :: .int (nI a) :: st) h := y_ishl C hd (y_top (n_shl a hb) k)
theorem z_ishr (C : qC X G cc nL own d) (hd : qd cc pc (.ishr) 1 pc') (ha : a < 2 ^ 31) (hb : b < 32) (k : Y X G nL kc ks pc' lv (.int (nI (a / 2 ^ b)) :: st) h) : Y X G nL kc ks pc lv (.int (nI b) :: .int (nI a) :: st) h := y_ishr C hd (y_top (n_shr ha hb) k)
theorem z_idiv (C : qC X G cc nL own d) (hd : qd cc pc (.idiv) 1 pc') (ha : a < 2 ^ 31) (h0 : 0 < b) (hb : b < 2 ^ 31) (k : Y X G nL kc ks pc' lv (.int (nI (a / b)) :: st) h) : Y X G nL kc ks pc lv (.int (nI b) :: .int (nI a) :: st) h := y_idiv C hd (n_ne0 h0 hb) (y_top (n_div ha h0 hb) k)
theorem z_irem (C : qC X G cc nL own d) (hd : qd cc pc (.irem) 1 pc') (ha : a < 2 ^ 31) (h0 : 0 < b) (hb : b < 2 ^ 31) (k : Y X G nL kc ks pc' lv (.int (nI (a % b)) :: st) h) : Y X G nL kc ks pc lv (.int (nI b) :: .int (nI a) :: st) h := y_irem C hd (n_ne0 h0 hb) (y_top (n_rem ha h0 hb) k)
theorem z_iinc {i : Nat} {n : Nat} (C : qC X G cc nL own d) (hd : qd cc pc (.iinc i (n : Int)) 3 pc') (hl : lv[i]? = some (some (.int (nI a)))) (hn : i < nL) (ho : qok lv i) (k : Y X G nL kc ks pc' (lv.set i (some (.int (nI (a + n))))) st h) : Y X G nL kc ks pc lv st h :=
  y_iinc C hd hl (by rw [← nI_add]; rfl) hn ho k
theorem z_ild {n k : Nat} {f : Nat → Int32} {ad : Nat} {v : Int32} (C : qC X G cc nL own d) (hd : qd cc pc (.iaload) 1 pc') (hl : h[ad]? = some (qI G n f)) (hk : k < n) (hn : n < 2 ^ 31) (hv : f k = v) (kk : Y X G nL kc ks pc' lv (.int v :: st) h) : Y X G nL kc ks pc lv (.int (nI k) :: qr G ad :: st) h := by
  refine y_ild C hd hl (vp_in_nI hk hn) ?_
  rw [nI_clamp (Nat.lt_trans hk hn), hv]
  exact kk
theorem z_zld {n k : Nat} {f : Nat → Int32} {ad : Nat} {v : Int32} (C : qC X G cc nL own d) (hd : qd cc pc (.baload) 1 pc') (hl : h[ad]? = some (qZ G n f)) (hk : k < n) (hn : n < 2 ^ 31) (hv : f k = v) (kk : Y X G nL kc ks pc' lv (.int v :: st) h) : Y X G nL kc ks pc lv (.int (nI k) :: qr G ad :: st) h := by
  refine y_zld C hd hl (vp_in_nI hk hn) ?_
  rw [nI_clamp (Nat.lt_trans hk hn), hv]
  exact kk
theorem z_ist {n k : Nat} {f : Nat → Int32} {ad : Nat} {x : Int32} {h' : List va_E} (C : qC X G cc nL own d) (hd : qd cc pc (.iastore) 1 pc') (hl : h[ad]? = some (qI G n f)) (hk : k < n) (hn : n < 2 ^ 31) (hh : h.set ad (qI G n (upd f k x)) = h') (kk : Y X G nL kc ks pc' lv st h') : Y X G nL kc ks pc lv (.int x :: .int (nI k) :: qr G ad :: st) h := by
  refine y_ist C hd hl (vp_in_nI hk hn) ?_ kk
  rw [nI_clamp (Nat.lt_trans hk hn)]
  exact hh
theorem z_zst {n k : Nat} {f : Nat → Int32} {ad : Nat} {x : Int32} {h' : List va_E} (C : qC X G cc nL own d) (hd : qd cc pc (.bastore) 1 pc') (hl : h[ad]? = some (qZ G n f)) (hk : k < n) (hn : n < 2 ^ 31) (hx : vp_nar .boolean x = x) (hh : h.set ad (qZ G n (upd f k x)) = h') (kk : Y X G nL kc ks pc' lv st h') : Y X G nL kc ks pc lv (.int x :: .int (nI k) :: qr G ad :: st) h := by
  refine y_zst C hd hl (vp_in_nI hk hn) ?_ kk
  rw [nI_clamp (Nat.lt_trans hk hn), hx]
  exact hh
theorem z_ald {n k t0 : Nat} {E : String} {cA : ClassId} {f : Nat → Option Nat} {ad v : Nat} (C : qC X G cc nL own d) (hd : qd cc pc (.aaload) 1 pc') (hl : h[ad]? = some (.inl (cA, n, .inr (.inr (.inr (.inr f)))))) (ht : (qT G)[t0]? = some (cA, .object E)) (hk : k < n) (hn : n < 2 ^ 31) (hv : f k = some (G.2 4 + v)) (kk : Y X G nL kc ks pc' lv (qr G v :: st) h) : Y X G nL kc ks pc lv (.int (nI k) :: qr G ad :: st) h := by
  refine y_ald C hd hl ht (vp_in_nI hk hn) ?_ kk
  rw [nI_clamp (Nat.lt_trans hk hn), hv]
  rfl
/-- a truth value on the stack -/
abbrev bI (P : Prop) [Decidable P] : Int32 := if P then 1 else 0
theorem bI_1 {P : Prop} [Decidable P] (h : P) : bI P = nI 1 := if_pos h
theorem bI_0 {P : Prop} [Decidable P] (h : ¬ P) : bI P = nI 0 := if_neg h
theorem bI_iff {P : Prop} [Decidable P] : bI P = 0 ↔ ¬ P := by
  unfold bI
  by_cases h : P <;> simp [h]
theorem bI_nar {P : Prop} [Decidable P] : narrow .boolean (.int (bI P)) = .int (bI P) := by
  unfold bI
  by_cases h : P <;> simp [h] <;> decide
theorem nar_0 : narrow .boolean (.int (nI 0)) = .int (nI 0) := by decide
theorem nar_1 : narrow .boolean (.int (nI 1)) = .int (nI 1) := by decide
theorem z_ifeqB {P : Prop} [Decidable P] {off : Int} {tgt : Nat} (C : qC X G cc nL own d) (hd : qj cc pc (.ifCond .eq off) off pc' tgt) (kt : ¬ P → Y X G nL kc ks tgt lv st h) (kf : P → Y X G nL kc ks pc' lv st h) : Y X G nL kc ks pc lv (.int (bI P) :: st) h :=
  y_if_eq C hd bI_iff kt (fun q => kf (Decidable.not_not.mp q))
theorem z_ifneB {P : Prop} [Decidable P] {off : Int} {tgt : Nat} (C : qC X G cc nL own d) (hd : qj cc pc (.ifCond .ne off) off pc' tgt) (kt : P → Y X G nL kc ks tgt lv st h) (kf : ¬ P → Y X G nL kc ks pc' lv st h) : Y X G nL kc ks pc lv (.int (bI P) :: st) h :=
  y_if_ne C hd bI_iff (fun q => kt (Decidable.not_not.mp q)) kf
/-- constants: the branch is known -/
theorem z_ifeq0 {off : Int} {tgt : Nat} (C : qC X G cc nL own d) (hd : qj cc pc (.ifCond .eq off) off pc' tgt) (kt : Y X G nL kc ks tgt lv st h) : Y X G nL kc ks pc lv (.int (nI 0) :: st) h :=
  y_if_eq C hd (P := True) (iff_of_true rfl trivial) (fun _ => kt) (fun q => absurd trivial q)
theorem z_ifeq1 {off : Int} {tgt : Nat} (C : qC X G cc nL own d) (hd : qj cc pc (.ifCond .eq off) off pc' tgt) (kf : Y X G nL kc ks pc' lv st h) : Y X G nL kc ks pc lv (.int (nI 1) :: st) h :=
  y_if_eq C hd (P := False) (iff_of_false (by decide) id) (fun q => q.elim) (fun _ => kf)
theorem z_ifne0 {off : Int} {tgt : Nat} (C : qC X G cc nL own d) (hd : qj cc pc (.ifCond .ne off) off pc' tgt) (kf : Y X G nL kc ks pc' lv st h) : Y X G nL kc ks pc lv (.int (nI 0) :: st) h :=
  y_if_ne C hd (P := True) (iff_of_true rfl trivial) (fun q => absurd trivial q) (fun _ => kf)
theorem z_ifne1 {off : Int} {tgt : Nat} (C : qC X G cc nL own d) (hd : qj cc pc (.ifCond .ne off) off pc' tgt) (kt : Y X G nL kc ks tgt lv st h) : Y X G nL kc ks pc lv (.int (nI 1) :: st) h :=
  y_if_ne C hd (P := False) (iff_of_false (by decide) id) (fun _ => kt) (fun q => q.elim)
theorem n_eq0 {a : Nat} (ha : a < 2 ^ 31) : nI a = 0 ↔ a = 0 := nI_eq (b := 0) ha (by decide)
theorem n_gt0 {a : Nat} (ha : a < 2 ^ 31) : 0 < nI a ↔ 0 < a := nI_ltI (a := 0) (by decide) ha
theorem n_le0 {a : Nat} (ha : a < 2 ^ 31) : nI a ≤ 0 ↔ a = 0 := (nI_leI (b := 0) ha (by decide)).trans Nat.le_zero
theorem n_lt0 {a : Nat} (ha : a < 2 ^ 31) : nI a < 0 ↔ False := iff_of_false (nI_pos ha) id
theorem n_ge0 {a : Nat} (ha : a < 2 ^ 31) : 0 ≤ nI a ↔ True := iff_of_true (nI_pos' ha) trivial
end
section
variable {X : qX} {G : qG} {cc : ByteArray} {nL kc ks pc pc' d d' : Nat} {own : String} {lv : List (Option Value)} {st sk : List Value} {h h' : List va_E} {y : MethodName} {v : Value} {As : List Value}
theorem z_callV {idx ci n a : Nat} {fs : List Value} (C : qC X G cc nL own d) (hd : qd cc pc (.invokevirtual idx) 3 pc') (hk : qcV own idx y ci n) (hM : Ct X.2.1 G y d' (qr G a :: As) h (some v) h') (hl : h[a]? = some (.inr (ci, fs))) (hs : sk = As.reverse ++ qr G a :: st) (hn : As.length = n) (hdd : d' + 1 ≤ d) (hst : (st.map fun v => v.category).sum ≤ 8) (hkc : kc ≤ X.2.2.2.1.cells ∧ ks ≤ X.2.2.2.1.slots) (k : Y X G nL kc ks pc' lv (v :: st) h') : Y X G nL kc ks pc lv sk h := y_callV C hd hk hM hl hs hn hdd hst hkc k
theorem z_callVv {idx ci n a : Nat} {fs : List Value} (C : qC X G cc nL own d) (hd : qd cc pc (.invokevirtual idx) 3 pc') (hk : qcV own idx y ci n) (hM : Ct X.2.1 G y d' (qr G a :: As) h none h') (hl : h[a]? = some (.inr (ci, fs))) (hs : sk = As.reverse ++ qr G a :: st) (hn : As.length = n) (hdd : d' + 1 ≤ d) (hst : (st.map fun v => v.category).sum ≤ 8) (hkc : kc ≤ X.2.2.2.1.cells ∧ ks ≤ X.2.2.2.1.slots) (k : Y X G nL kc ks pc' lv st h') : Y X G nL kc ks pc lv sk h := y_callV C hd hk hM hl hs hn hdd hst hkc k
theorem z_callS {idx n : Nat} (C : qC X G cc nL own d) (hd : qd cc pc (.invokestatic idx) 3 pc') (hk : qcS own idx y n) (hM : Ct X.2.1 G y d' As h (some v) h') (hs : sk = As.reverse ++ st) (hn : As.length = n) (hdd : d' + 1 ≤ d) (hst : (st.map fun v => v.category).sum ≤ 8) (hkc : kc ≤ X.2.2.2.1.cells ∧ ks ≤ X.2.2.2.1.slots) (k : Y X G nL kc ks pc' lv (v :: st) h') : Y X G nL kc ks pc lv sk h := y_callS C hd hk hM hs hn hdd hst hkc k
theorem z_callSv {idx n : Nat} (C : qC X G cc nL own d) (hd : qd cc pc (.invokestatic idx) 3 pc') (hk : qcS own idx y n) (hM : Ct X.2.1 G y d' As h none h') (hs : sk = As.reverse ++ st) (hn : As.length = n) (hdd : d' + 1 ≤ d) (hst : (st.map fun v => v.category).sum ≤ 8) (hkc : kc ≤ X.2.2.2.1.cells ∧ ks ≤ X.2.2.2.1.slots) (k : Y X G nL kc ks pc' lv st h') : Y X G nL kc ks pc lv sk h := y_callS C hd hk hM hs hn hdd hst hkc k
theorem z_callSN {idx n : Nat} (C : qC X G cc nL own d) (hd : qd cc pc (.invokestatic idx) 3 pc') (hk : qcSN own idx y n) (hM : Ct X.2.1 G y d' As h (some v) h') (hs : sk = As.reverse ++ st) (hn : As.length = n) (hdd : d' + 1 ≤ d) (hst : (st.map fun v => v.category).sum ≤ 8) (hkc : kc ≤ X.2.2.2.1.cells ∧ ks ≤ X.2.2.2.1.slots) (k : Y X G nL kc ks pc' lv (v :: st) h') : Y X G nL kc ks pc lv sk h := y_callSN C hd hk hM hs hn hdd hst hkc k
end
theorem ki_0 : Int32.ofInt 0 = nI 0 := rfl
theorem ki_1 : Int32.ofInt 1 = nI 1 := rfl
theorem ki_2 : Int32.ofInt 2 = nI 2 := rfl
theorem ki_3 : Int32.ofInt 3 = nI 3 := rfl
theorem ki_4 : Int32.ofInt 4 = nI 4 := rfl
theorem ki_5 : Int32.ofInt 5 = nI 5 := rfl
theorem ki_m1 : Int32.ofInt (-1) = -1 := rfl
theorem kb_m3 : (Int8.ofInt (-3)).toInt32 = -3 := by decide
theorem kb_m2 : (Int8.ofInt (-2)).toInt32 = -2 := by decide
theorem kb_6 : (Int8.ofInt 6).toInt32 = nI 6 := by decide
theorem kb_8 : (Int8.ofInt 8).toInt32 = nI 8 := by decide
theorem kb_9 : (Int8.ofInt 9).toInt32 = nI 9 := by decide
theorem kb_10 : (Int8.ofInt 10).toInt32 = nI 10 := by decide
theorem kb_11 : (Int8.ofInt 11).toInt32 = nI 11 := by decide
theorem kb_12 : (Int8.ofInt 12).toInt32 = nI 12 := by decide
theorem kb_13 : (Int8.ofInt 13).toInt32 = nI 13 := by decide
theorem kb_14 : (Int8.ofInt 14).toInt32 = nI 14 := by decide
theorem kb_16 : (Int8.ofInt 16).toInt32 = nI 16 := by decide
theorem kb_20 : (Int8.ofInt 20).toInt32 = nI 20 := by decide
theorem kb_21 : (Int8.ofInt 21).toInt32 = nI 21 := by decide
theorem kb_22 : (Int8.ofInt 22).toInt32 = nI 22 := by decide
theorem kb_23 : (Int8.ofInt 23).toInt32 = nI 23 := by decide
theorem kb_24 : (Int8.ofInt 24).toInt32 = nI 24 := by decide
theorem kb_27 : (Int8.ofInt 27).toInt32 = nI 27 := by decide
theorem kb_30 : (Int8.ofInt 30).toInt32 = nI 30 := by decide
theorem kb_40 : (Int8.ofInt 40).toInt32 = nI 40 := by decide
theorem kb_44 : (Int8.ofInt 44).toInt32 = nI 44 := by decide
theorem kb_48 : (Int8.ofInt 48).toInt32 = nI 48 := by decide
theorem kb_51 : (Int8.ofInt 51).toInt32 = nI 51 := by decide
theorem kb_57 : (Int8.ofInt 57).toInt32 = nI 57 := by decide
theorem kb_59 : (Int8.ofInt 59).toInt32 = nI 59 := by decide
theorem kb_63 : (Int8.ofInt 63).toInt32 = nI 63 := by decide
theorem kb_64 : (Int8.ofInt 64).toInt32 = nI 64 := by decide
theorem kb_97 : (Int8.ofInt 97).toInt32 = nI 97 := by decide
theorem kb_99 : (Int8.ofInt 99).toInt32 = nI 99 := by decide
theorem kb_100 : (Int8.ofInt 100).toInt32 = nI 100 := by decide
theorem kb_102 : (Int8.ofInt 102).toInt32 = nI 102 := by decide
theorem kb_103 : (Int8.ofInt 103).toInt32 = nI 103 := by decide
theorem kb_109 : (Int8.ofInt 109).toInt32 = nI 109 := by decide
theorem kb_115 : (Int8.ofInt 115).toInt32 = nI 115 := by decide
theorem kb_116 : (Int8.ofInt 116).toInt32 = nI 116 := by decide
theorem kb_119 : (Int8.ofInt 119).toInt32 = nI 119 := by decide
theorem kb_120 : (Int8.ofInt 120).toInt32 = nI 120 := by decide
theorem kb_122 : (Int8.ofInt 122).toInt32 = nI 122 := by decide
theorem kn_255 : (Int16.ofInt 255).toInt32 = nI 255 := by decide
theorem kn_320 : (Int16.ofInt 320).toInt32 = nI 320 := by decide
theorem kn_999 : (Int16.ofInt 999).toInt32 = nI 999 := by decide
theorem kn_1000 : (Int16.ofInt 1000).toInt32 = nI 1000 := by decide
theorem kn_1173 : (Int16.ofInt 1173).toInt32 = nI 1173 := by decide
theorem kn_1224 : (Int16.ofInt 1224).toInt32 = nI 1224 := by decide
section
variable {X : qX} {G : qG} {cc : ByteArray} {nL kc ks pc pc' d : Nat} {own : String} {lv : List (Option Value)} {st : List Value} {h : List va_E} {off : Int} {tgt : Nat}
theorem z_ifltM (C : qC X G cc nL own d) (hd : qj cc pc (.ifCond .lt off) off pc' tgt) (k : Y X G nL kc ks tgt lv st h) : Y X G nL kc ks pc lv (.int (-1) :: st) h := y_if_lt C hd (P := True) (iff_of_true (by decide) trivial) (fun _ => k) (fun q => absurd trivial q)
theorem z_ifgeM (C : qC X G cc nL own d) (hd : qj cc pc (.ifCond .ge off) off pc' tgt) (k : Y X G nL kc ks pc' lv st h) : Y X G nL kc ks pc lv (.int (-1) :: st) h := y_if_ge C hd (P := False) (iff_of_false (by decide) id) (fun q => q.elim) (fun _ => k)
end
/-- an option as the code tells it: -1 is none -/
def oI : Option Nat → Int32
  | none => -1
  | some k => nI k
theorem oI_n : oI none = -1 := rfl
theorem oI_s (k : Nat) : oI (some k) = nI k := rfl
section
variable {X : qX} {G : qG} {nL kc ks pc : Nat} {lv : List (Option Value)} {st : List Value} {h : List va_E}
/-- a local that is forgotten -/
theorem y_fg (j : Nat) (k : Y X G nL kc ks pc (lv.set j none) st h) : Y X G nL kc ks pc lv st h := by
  intro H locs ls a b c
  refine k H locs ls a b ⟨c.1, c.2.1, fun q hq => ?_⟩
  obtain ⟨m, h1, h2⟩ := qlv_of _ 0 q hq
  by_cases hm : j = m
  · subst hm
    rw [List.getElem?_set] at h2
    simp at h2
  · rw [List.getElem?_set_ne hm] at h2
    have := qlv_mem lv 0 m q.2 h2
    rw [← h1] at this
    exact c.2.2 q this
end
theorem z_ishl1 {X : qX} {G : qG} {cc : ByteArray} {nL kc ks pc pc' d : Nat} {own : String} {lv : List (Option Value)} {st : List Value} {h : List va_E} {b : Nat} (C : qC X G cc nL own d) (hd : qd cc pc (.ishl) 1 pc') (hb : b < 32) (k : Y X G nL kc ks pc' lv (.int (nI (2 ^ b)) :: st) h) : Y X G nL kc ks pc lv (.int (nI b) :: .int (nI 1) :: st) h := z_ishl C hd hb (y_top (by rw [Nat.one_mul]) k)
end
section
section
variable {G : qG} {U : List va_E} {i : Nat → Nat} {A : Nat → Nat → Nat} {B : Nat → Nat → Int32}
/-- the reference: int fields i, arrays of naturals A, arrays of ints B, each by its field's number -/
abbrev mf (G : qG) (i : Nat → Nat) : List Value := [qr G 123, qr G 124, qr G 125, .int (nI (i 3)), .int (nI (i 4)), qr G 126, qr G 127, qr G 128, .int (nI (i 8)), .int (nI (i 9)), .int (nI (i 10)), .int (nI (i 11)), .int (nI (i 12)), .int (nI (i 13)), .int (nI (i 14)), qr G 129, qr G 130, .int (nI (i 17)), qr G 131, qr G 132, .int (nI (i 20)), qr G 133, qr G 134, qr G 135, .int (nI (i 24))]
abbrev mc (G : qG) (i : Nat → Nat) (A : Nat → Nat → Nat) (B : Nat → Nat → Int32) : List va_E := [.inr (7, mf G i), qI G 8 (fun k => nI (A 0 k)), qI G 8 (B 1), qI G 320 (B 2), qI G 51 (fun k => nI (A 5 k)), qI G 40 (B 6), qI G 120 (fun k => nI (A 7 k)), qI G 51 (fun k => nI (A 15 k)), qI G 1224 (fun k => nI (A 16 k)), qI G 51 (fun k => nI (A 18 k)), qI G 3 (fun k => nI (A 19 k)), qZ G 2 (fun k => nI (A 21 k)), qI G 102 (fun k => nI (A 22 k)), qI G 16 (fun k => nI (A 23 k))]
def hm (G : qG) (U : List va_E) (i : Nat → Nat) (A : Nat → Nat → Nat) (B : Nat → Nat → Int32) : List va_E := U ++ mc G i A B
theorem hm_at (hU : U.length = 122) (j : Nat) : (hm G U i A B)[122 + j]? = (mc G i A B)[j]? := by
  unfold hm
  rw [List.getElem?_append_right (by omega), hU, Nat.add_sub_cancel_left]
theorem hm_set (hU : U.length = 122) (j : Nat) (e : va_E) : (hm G U i A B).set (122 + j) e = U ++ (mc G i A B).set j e := by
  unfold hm
  rw [List.set_append, if_neg (by omega), hU, Nat.add_sub_cancel_left]
theorem hm_o (hU : U.length = 122) : (hm G U i A B)[122]? = some (.inr (7, mf G i)) := (hm_at hU 0).trans rfl
theorem hm_lanes (hU : U.length = 122) : (hm G U i A B)[123]? = some (qI G 8 (fun k => nI (A 0 k))) := (hm_at hU 1).trans rfl
theorem hm_sizes (hU : U.length = 122) : (hm G U i A B)[124]? = some (qI G 8 (B 1)) := (hm_at hU 2).trans rfl
theorem hm_items (hU : U.length = 122) : (hm G U i A B)[125]? = some (qI G 320 (B 2)) := (hm_at hU 3).trans rfl
theorem hm_st (hU : U.length = 122) : (hm G U i A B)[126]? = some (qI G 51 (fun k => nI (A 5 k))) := (hm_at hU 4).trans rfl
theorem hm_moved (hU : U.length = 122) : (hm G U i A B)[127]? = some (qI G 40 (B 6)) := (hm_at hU 5).trans rfl
theorem hm_tape (hU : U.length = 122) : (hm G U i A B)[128]? = some (qI G 120 (fun k => nI (A 7 k))) := (hm_at hU 6).trans rfl
theorem hm_read (hU : U.length = 122) : (hm G U i A B)[129]? = some (qI G 51 (fun k => nI (A 15 k))) := (hm_at hU 7).trans rfl
theorem hm_acts (hU : U.length = 122) : (hm G U i A B)[130]? = some (qI G 1224 (fun k => nI (A 16 k))) := (hm_at hU 8).trans rfl
theorem hm_aside (hU : U.length = 122) : (hm G U i A B)[131]? = some (qI G 51 (fun k => nI (A 18 k))) := (hm_at hU 9).trans rfl
theorem hm_way (hU : U.length = 122) : (hm G U i A B)[132]? = some (qI G 3 (fun k => nI (A 19 k))) := (hm_at hU 10).trans rfl
theorem hm_isHeld (hU : U.length = 122) : (hm G U i A B)[133]? = some (qZ G 2 (fun k => nI (A 21 k))) := (hm_at hU 11).trans rfl
theorem hm_held (hU : U.length = 122) : (hm G U i A B)[134]? = some (qI G 102 (fun k => nI (A 22 k))) := (hm_at hU 12).trans rfl
theorem hm_trace (hU : U.length = 122) : (hm G U i A B)[135]? = some (qI G 16 (fun k => nI (A 23 k))) := (hm_at hU 13).trans rfl
theorem va_upn (f : Nat → Nat) (k v : Nat) : upd (fun j => nI (f j)) k (nI v) = fun j => nI (va_up f k v j) := by
  funext j
  unfold upd va_up
  split <;> rfl
theorem up_eq {α : Type} (f : Nat → α) (k : Nat) (v : α) : va_up f k v k = v := if_pos rfl
theorem up_ne {α : Type} (f : Nat → α) {k j : Nat} (v : α) (h : j ≠ k) : va_up f k v j = f j := if_neg h
theorem hm_pstatus (hU : U.length = 122) (v : Nat) : (hm G U i A B).set 122 (.inr (7, (mf G i).set 3 (.int (nI v)))) = hm G U (va_up i 3 v) A B := (hm_set hU 0 _).trans rfl
theorem hm_pisThere (hU : U.length = 122) (v : Nat) : (hm G U i A B).set 122 (.inr (7, (mf G i).set 4 (.int (nI v)))) = hm G U (va_up i 4 v) A B := (hm_set hU 0 _).trans rfl
theorem hm_pbytes (hU : U.length = 122) (v : Nat) : (hm G U i A B).set 122 (.inr (7, (mf G i).set 8 (.int (nI v)))) = hm G U (va_up i 8 v) A B := (hm_set hU 0 _).trans rfl
theorem hm_platest (hU : U.length = 122) (v : Nat) : (hm G U i A B).set 122 (.inr (7, (mf G i).set 9 (.int (nI v)))) = hm G U (va_up i 9 v) A B := (hm_set hU 0 _).trans rfl
theorem hm_pplace (hU : U.length = 122) (v : Nat) : (hm G U i A B).set 122 (.inr (7, (mf G i).set 10 (.int (nI v)))) = hm G U (va_up i 10 v) A B := (hm_set hU 0 _).trans rfl
theorem hm_ptoken (hU : U.length = 122) (v : Nat) : (hm G U i A B).set 122 (.inr (7, (mf G i).set 11 (.int (nI v)))) = hm G U (va_up i 11 v) A B := (hm_set hU 0 _).trans rfl
theorem hm_pvalue (hU : U.length = 122) (v : Nat) : (hm G U i A B).set 122 (.inr (7, (mf G i).set 12 (.int (nI v)))) = hm G U (va_up i 12 v) A B := (hm_set hU 0 _).trans rfl
theorem hm_pbegins (hU : U.length = 122) (v : Nat) : (hm G U i A B).set 122 (.inr (7, (mf G i).set 13 (.int (nI v)))) = hm G U (va_up i 13 v) A B := (hm_set hU 0 _).trans rfl
theorem hm_pwrong (hU : U.length = 122) (v : Nat) : (hm G U i A B).set 122 (.inr (7, (mf G i).set 14 (.int (nI v)))) = hm G U (va_up i 14 v) A B := (hm_set hU 0 _).trans rfl
theorem hm_pactMany (hU : U.length = 122) (v : Nat) : (hm G U i A B).set 122 (.inr (7, (mf G i).set 17 (.int (nI v)))) = hm G U (va_up i 17 v) A B := (hm_set hU 0 _).trans rfl
theorem hm_pbestWay (hU : U.length = 122) (v : Nat) : (hm G U i A B).set 122 (.inr (7, (mf G i).set 20 (.int (nI v)))) = hm G U (va_up i 20 v) A B := (hm_set hU 0 _).trans rfl
theorem hm_ptraced (hU : U.length = 122) (v : Nat) : (hm G U i A B).set 122 (.inr (7, (mf G i).set 24 (.int (nI v)))) = hm G U (va_up i 24 v) A B := (hm_set hU 0 _).trans rfl
theorem hm_wlanes (hU : U.length = 122) (j v : Nat) : (hm G U i A B).set 123 (qI G 8 (upd (fun k => nI (A 0 k)) j (nI v))) = hm G U i (va_up A 0 (va_up (A 0) j v)) B := by
  rw [va_upn]
  exact (hm_set hU 1 _).trans rfl
theorem hm_wsizes (hU : U.length = 122) (j : Nat) (v : Int32) : (hm G U i A B).set 124 (qI G 8 (upd (B 1) j v)) = hm G U i A (va_up B 1 (upd (B 1) j v)) := (hm_set hU 2 _).trans rfl
theorem hm_witems (hU : U.length = 122) (j : Nat) (v : Int32) : (hm G U i A B).set 125 (qI G 320 (upd (B 2) j v)) = hm G U i A (va_up B 2 (upd (B 2) j v)) := (hm_set hU 3 _).trans rfl
theorem hm_wst (hU : U.length = 122) (j v : Nat) : (hm G U i A B).set 126 (qI G 51 (upd (fun k => nI (A 5 k)) j (nI v))) = hm G U i (va_up A 5 (va_up (A 5) j v)) B := by
  rw [va_upn]
  exact (hm_set hU 4 _).trans rfl
theorem hm_wmoved (hU : U.length = 122) (j : Nat) (v : Int32) : (hm G U i A B).set 127 (qI G 40 (upd (B 6) j v)) = hm G U i A (va_up B 6 (upd (B 6) j v)) := (hm_set hU 5 _).trans rfl
theorem hm_wtape (hU : U.length = 122) (j v : Nat) : (hm G U i A B).set 128 (qI G 120 (upd (fun k => nI (A 7 k)) j (nI v))) = hm G U i (va_up A 7 (va_up (A 7) j v)) B := by
  rw [va_upn]
  exact (hm_set hU 6 _).trans rfl
theorem hm_wread (hU : U.length = 122) (j v : Nat) : (hm G U i A B).set 129 (qI G 51 (upd (fun k => nI (A 15 k)) j (nI v))) = hm G U i (va_up A 15 (va_up (A 15) j v)) B := by
  rw [va_upn]
  exact (hm_set hU 7 _).trans rfl
theorem hm_wacts (hU : U.length = 122) (j v : Nat) : (hm G U i A B).set 130 (qI G 1224 (upd (fun k => nI (A 16 k)) j (nI v))) = hm G U i (va_up A 16 (va_up (A 16) j v)) B := by
  rw [va_upn]
  exact (hm_set hU 8 _).trans rfl
theorem hm_waside (hU : U.length = 122) (j v : Nat) : (hm G U i A B).set 131 (qI G 51 (upd (fun k => nI (A 18 k)) j (nI v))) = hm G U i (va_up A 18 (va_up (A 18) j v)) B := by
  rw [va_upn]
  exact (hm_set hU 9 _).trans rfl
theorem hm_wway (hU : U.length = 122) (j v : Nat) : (hm G U i A B).set 132 (qI G 3 (upd (fun k => nI (A 19 k)) j (nI v))) = hm G U i (va_up A 19 (va_up (A 19) j v)) B := by
  rw [va_upn]
  exact (hm_set hU 10 _).trans rfl
theorem hm_wisHeld (hU : U.length = 122) (j v : Nat) : (hm G U i A B).set 133 (qZ G 2 (upd (fun k => nI (A 21 k)) j (nI v))) = hm G U i (va_up A 21 (va_up (A 21) j v)) B := by
  rw [va_upn]
  exact (hm_set hU 11 _).trans rfl
theorem hm_wheld (hU : U.length = 122) (j v : Nat) : (hm G U i A B).set 134 (qI G 102 (upd (fun k => nI (A 22 k)) j (nI v))) = hm G U i (va_up A 22 (va_up (A 22) j v)) B := by
  rw [va_upn]
  exact (hm_set hU 12 _).trans rfl
theorem hm_wtrace (hU : U.length = 122) (j v : Nat) : (hm G U i A B).set 135 (qI G 16 (upd (fun k => nI (A 23 k)) j (nI v))) = hm G U i (va_up A 23 (va_up (A 23) j v)) B := by
  rw [va_upn]
  exact (hm_set hU 13 _).trans rfl
end
end
section
/-! THE YARD, in naturals: y 0 graves, 1 least, 2 share, 3 many, 4 year, 5 kept, 6.. kinds, 11.. suppers, 16.. fevers, 21 + 6 p + g memory -/
abbrev hs (b k : Nat) : Prop := b / 2 ^ k % 2 = 1
abbrev me (y : Nat → Nat) (p g : Nat) : Nat := y (21 + 6 * p + g)
theorem and1 (n : Nat) : n &&& 1 = n % 2 := Nat.and_one_is_mod n
theorem has_iff (b k : Nat) : nI (b / 2 ^ k &&& 1) = nI 1 ↔ hs b k := by
  rw [and1]
  exact n_eq (by omega) (by decide)
/-- the first with most memory among the first n graves of b, if it is enough -/
def mo (y : Nat → Nat) (p b : Nat) : Nat → Option Nat
  | 0 => none
  | g + 1 => match mo y p b g with
    | none => if hs b g ∧ y 1 ≤ me y p g then some g else none
    | some q => if hs b g ∧ y 1 ≤ me y p g ∧ me y p q < me y p g then some g else some q
theorem mo_lt {y : Nat → Nat} {p b : Nat} : ∀ {n q : Nat}, mo y p b n = some q → q < n
  | 0, q, h => by simp [mo] at h
  | n + 1, q, h => by
    unfold mo at h
    cases hm : mo y p b n with
    | none =>
      rw [hm] at h
      simp only at h
      split at h
      · cases h; omega
      · cases h
    | some r =>
      rw [hm] at h
      have := mo_lt hm
      simp only at h
      split at h
      · cases h; omega
      · cases h; omega
/-- how many ones a set has -/
def ones : Nat → Nat := fun b => b % 2 + b / 2 % 2 + b / 4 % 2 + b / 8 % 2 + b / 16 % 2
theorem ones_step : ∀ b, b < 32 → 0 < b → b &&& (b - 1) < b ∧ ones b = 1 + ones (b &&& (b - 1)) := by decide +kernel
theorem ones_le (b : Nat) : ones b ≤ 5 := by unfold ones; omega
/-- what is left of memory -/
def less (y : Nat → Nat) (m : Nat) : Nat := if m = 0 then 0 else m - m / y 2 - 1
/-! numbers that came from outside -/
abbrev isx (x : Int32) (n : Nat) : Prop := 0 ≤ x ∧ x < nI n
abbrev inr (x : Int32) (a b : Nat) : Prop := nI a ≤ x ∧ x ≤ nI b
theorem bI_c {P Q : Prop} [Decidable P] [Decidable Q] (h : P ↔ Q) : bI P = bI Q := by
  unfold bI
  by_cases hq : Q
  · rw [if_pos hq, if_pos (h.mpr hq)]
  · rw [if_neg hq, if_neg (fun z => hq (h.mp z))]
theorem w_lt (a b : Int32) : a.toInt64 < b.toInt64 ↔ a < b := by
  rw [Int64.lt_iff_toInt_lt, Int32.lt_iff_toInt_lt, Int32.toInt_toInt64, Int32.toInt_toInt64]
theorem w_le (a b : Int32) : a.toInt64 ≤ b.toInt64 ↔ a ≤ b := by
  rw [Int64.le_iff_toInt_le, Int32.le_iff_toInt_le, Int32.toInt_toInt64, Int32.toInt_toInt64]
theorem nI_int {n : Nat} (h : n < 2 ^ 31) : (nI n).toInt = (n : Int) := nI_toInt h
theorem isx_of {x : Int32} {n : Nat} (hn : n < 2 ^ 31) (h : isx x n) : ∃ j, j < n ∧ x = nI j := by
  obtain ⟨h1, h2⟩ := h
  obtain ⟨j, hj, rfl⟩ := nI_of (Int32.not_lt.mpr h1)
  exact ⟨j, (n_lt hj hn).mp h2, rfl⟩
theorem isx_n {j n : Nat} (hn : n < 2 ^ 31) (h : j < n) : isx (nI j) n := ⟨nI_pos' (by omega), (n_lt (by omega) hn).mpr h⟩
theorem isx_n' {j n : Nat} (hj : j < 2 ^ 31) (hn : n < 2 ^ 31) : isx (nI j) n ↔ j < n := ⟨fun h => (n_lt hj hn).mp h.2, isx_n hn⟩
theorem inr_of {x : Int32} {a b : Nat} (ha : a < 2 ^ 31) (hb : b < 2 ^ 31) (h : inr x a b) : ∃ j, a ≤ j ∧ j ≤ b ∧ x = nI j := by
  obtain ⟨h1, h2⟩ := h
  have h0 : ¬ x < 0 := by
    rw [Int32.le_iff_toInt_le, nI_int ha] at h1
    rw [Int32.lt_iff_toInt_lt]
    show ¬ _ < (0 : Int)
    omega
  obtain ⟨j, hj, rfl⟩ := nI_of h0
  exact ⟨j, (n_le ha hj).mp h1, (n_le hj hb).mp h2, rfl⟩
theorem inr_n {j a b : Nat} (hb : b < 2 ^ 31) (h1 : a ≤ j) (h2 : j ≤ b) : inr (nI j) a b := ⟨(n_le (by omega) (by omega)).mpr h1, (n_le (by omega) hb).mpr h2⟩
/-- how the reference looks at a range: by longs -/
theorem in_isx {x z : Int32} {n : Nat} (hn : n < 2 ^ 31) (hz : z.toInt = (n : Int) - 1) : ((0 : Int64) ≤ x.toInt64 ∧ x.toInt64 ≤ z.toInt64) ↔ isx x n := by
  have e : (0 : Int64) = (0 : Int32).toInt64 := rfl
  rw [e, w_le, w_le]
  unfold isx
  rw [Int32.le_iff_toInt_le (x := x) (y := z), Int32.lt_iff_toInt_lt (x := x) (y := nI n), nI_int hn, hz]
  constructor
  · intro h; exact ⟨h.1, by omega⟩
  · intro h; exact ⟨h.1, by omega⟩
theorem in_inr {x y z : Int32} {a b : Nat} (hy : y = nI a) (hz : z = nI b) : (y.toInt64 ≤ x.toInt64 ∧ x.toInt64 ≤ z.toInt64) ↔ inr x a b := by
  rw [w_le, w_le, hy, hz]
theorem nI_sub1 {n : Nat} (hn : n < 2 ^ 31) : (nI n - nI 1).toInt = (n : Int) - 1 := by
  cases n with
  | zero => decide
  | succ k =>
    rw [pk_sub (by omega), nI_int (by omega)]
    omega
theorem rt_0 {P : Prop} [Decidable P] (h : ¬ P) : some (Value.int (nI 0)) = some (Value.int (bI P)) := by rw [bI_0 h]
theorem rt_1 {P : Prop} [Decidable P] (h : P) : some (Value.int (nI 1)) = some (Value.int (bI P)) := by rw [bI_1 h]
theorem rv {x y : Int32} (h : x = y) : some (Value.int x) = some (Value.int y) := by rw [h]
/-! dreams -/
def clr (b f : Nat) : Nat := b &&& (63 ^^^ 2 ^ f)
theorem clr_eq : ∀ b, b < 64 → ∀ f, f < 6 → nI b &&& (nI (2 ^ f) ^^^ (-1)) = nI (clr b f) := by decide +kernel
theorem clr_lt : ∀ b, b < 64 → ∀ f, f < 6 → clr b f < 64 := by decide +kernel
def two (o : Option Nat) : Nat := match o with
  | none => 0
  | some q => 2 ^ q
/-- of which graves p dreams, a fever apart -/
def dset (y : Nat → Nat) (p : Nat) : Nat :=
  if 4 ≤ y (6 + p) then 2 ^ (y 4 % y 0) ||| (if y (6 + p) = 5 then 1 else 0)
  else match mo y p (y 5) (y 0) with
    | none => 0
    | some f => (if y (6 + p) = 3 then 2 ^ ((f + 1) % y 0) else 2 ^ f) ||| (if y (6 + p) = 2 then two (mo y p (clr (y 5) f) (y 0)) else 0)
def fset (y : Nat → Nat) (p s : Nat) : Nat → Nat
  | 0 => s
  | g + 1 => fset y p s g ||| (if hs (y 5) g ∧ 0 < me y p g then 2 ^ g else 0)
def dr (y : Nat → Nat) (p : Nat) : Nat := if y (16 + p) = 1 then fset y p (dset y p) (y 0) else dset y p
theorem pow6 {k : Nat} (h : k < 6) : 2 ^ k < 64 := Nat.lt_of_lt_of_le (Nat.pow_lt_pow_right (by decide) h) (by decide)
theorem or64 {a b : Nat} (ha : a < 64) (hb : b < 64) : a ||| b < 64 := Nat.or_lt_two_pow (n := 6) ha hb
theorem two_lt {y : Nat → Nat} {p b n : Nat} (hn : n ≤ 6) : two (mo y p b n) < 64 := by
  cases h : mo y p b n with
  | none => exact (by decide : (0 : Nat) < 64)
  | some q => exact pow6 (Nat.lt_of_lt_of_le (mo_lt h) hn)
theorem dset_lt {y : Nat → Nat} {p : Nat} (h1 : 1 ≤ y 0) (h6 : y 0 ≤ 6) : dset y p < 64 := by
  unfold dset
  split
  · refine or64 (pow6 (Nat.lt_of_lt_of_le (Nat.mod_lt _ h1) h6)) ?_
    split <;> decide
  · cases h : mo y p (y 5) (y 0) with
    | none => exact (by decide : (0 : Nat) < 64)
    | some f =>
      have hf := mo_lt h
      refine or64 ?_ ?_
      · split
        · exact pow6 (Nat.lt_of_lt_of_le (Nat.mod_lt _ h1) h6)
        · exact pow6 (Nat.lt_of_lt_of_le hf h6)
      · split
        · exact two_lt h6
        · decide
theorem fset_lt {y : Nat → Nat} {p s : Nat} (hs64 : s < 64) : ∀ {n : Nat}, n ≤ 6 → fset y p s n < 64
  | 0, _ => hs64
  | n + 1, h => by
    unfold fset
    refine or64 (fset_lt hs64 (by omega)) ?_
    split
    · exact pow6 (by omega)
    · decide
theorem dr_lt {y : Nat → Nat} {p : Nat} (h1 : 1 ≤ y 0) (h6 : y 0 ≤ 6) : dr y p < 64 := by
  unfold dr
  split
  · exact fset_lt (dset_lt h1 h6) h6
  · exact dset_lt h1 h6
/-- bounds that always hold -/
def Bd (y : Nat → Nat) : Prop := (∀ k, y k < 2000) ∧ y 0 ≤ 6 ∧ y 3 ≤ 5 ∧ y 5 < 64
end
section
section
variable {l : Launch} {G : qG} {U : List va_E} {i : Nat → Nat} {A : Nat → Nat → Nat} {B : Nat → Nat → Int32} {h : List va_E}
theorem c_X7_in {x y z : Int64} : Ct l G yX7_in 0 [.long x, .long y, .long z] h (some (.int (bI (y ≤ x ∧ x ≤ z)))) h := by
  refine ctm_intro (maxL := 6) kw_X7_in (by decide) (by decide) [some (.long x), none, some (.long y), none, some (.long z), none] rfl (Nat.le_of_ble_eq_true rfl) ?_
  intro X _ hcl hsl _ _ C E
  refine y_lload_n C D_X7_in_0 rfl ?_
  refine y_lload_n C D_X7_in_1 rfl ?_
  refine y_lcmp C D_X7_in_2 ?_
  refine y_if_lt C D_X7_in_3 (lg_cmp_lt _ _) (fun c_3 => ?_) (fun c_3 => ?_)
  · refine y_iconst C D_X7_in_17 ki_0 ?_
    exact y_zret C E D_X7_in_18 nar_0 (rt_0 (fun q => absurd c_3 (Int64.not_lt.mpr q.1))) (rfl)
  · refine y_lload_n C D_X7_in_6 rfl ?_
    refine y_lload C D_X7_in_7 rfl ?_
    refine y_lcmp C D_X7_in_9 ?_
    refine y_if_gt C D_X7_in_10 (lg_cmp_gt _ _) (fun c_10 => ?_) (fun c_10 => ?_)
    · refine y_iconst C D_X7_in_17 ki_0 ?_
      exact y_zret C E D_X7_in_18 nar_0 (rt_0 (fun q => absurd c_10 (Int64.not_lt.mpr q.2))) (rfl)
    · refine y_iconst C D_X7_in_13 ki_1 ?_
      refine y_goto C D_X7_in_14 ?_
      exact y_zret C E D_X7_in_18 nar_1 (rt_1 (⟨Int64.not_lt.mp c_3, Int64.not_lt.mp c_10⟩)) (rfl)
theorem c_X7_has {b k : Nat} (hb : b < 2 ^ 31) (hk : k < 32) : Ct l G yX7_has 0 [.int (nI b), .int (nI k)] (h) (some (.int (bI (hs b k)))) (h) := by
  refine ctm_intro (maxL := 2) kw_X7_has (by decide) (by decide) [some (.int (nI b)), some (.int (nI k))] rfl (Nat.le_of_ble_eq_true rfl) ?_
  intro X _ hcl hsl _ _ C E
  refine y_iload_n C D_X7_has_0 rfl ?_
  refine y_iload_n C D_X7_has_1 rfl ?_
  refine z_ishr C D_X7_has_2 (by omega) (by omega) ?_
  refine y_iconst C D_X7_has_3 ki_1 ?_
  refine z_iand C D_X7_has_4 ?_
  refine y_iconst C D_X7_has_5 ki_1 ?_
  refine y_icmp_ne C D_X7_has_6 (has_iff _ _) (fun c_6 => ?_) (fun c_6 => ?_)
  · refine y_iconst C D_X7_has_13 ki_0 ?_
    exact y_zret C E D_X7_has_14 nar_0 (rt_0 (c_6)) (rfl)
  · refine y_iconst C D_X7_has_9 ki_1 ?_
    refine y_goto C D_X7_has_10 ?_
    exact y_zret C E D_X7_has_14 nar_1 (rt_1 (c_6)) (rfl)
theorem lp_X7_ones {X : qX} {d : Nat} {r : Option Value} (C : qC X G cX7_ones 3 RX7 d) (E : qE X G (some .int) 0 0 r h) (v0 : Nat) : ∀ (n s c : Nat), s ≤ n → s < 32 → r = some (.int (nI (c + ones s))) → Y X G 3 0 0 4 [some (.int (nI v0)), some (.int (nI c)), some (.int (nI s))] [] h := by
  intro n
  induction n with
  | zero =>
    intro s c h1 h2 hr
    obtain rfl : s = 0 := by omega
    refine y_iload_n C D_X7_ones_4 rfl ?_
    refine y_if_eq C D_X7_ones_5 (n_eq0 (by omega)) (fun c_5 => ?_) (fun c_5 => absurd rfl c_5)
    refine y_iload_n C D_X7_ones_20 rfl ?_
    exact y_iret C E D_X7_ones_21 (hr.symm) (rfl)
  | succ n ih =>
    intro s c h1 h2 hr
    refine y_iload_n C D_X7_ones_4 rfl ?_
    refine y_if_eq C D_X7_ones_5 (n_eq0 (by omega)) (fun c_5 => ?_) (fun c_5 => ?_)
    · refine y_iload_n C D_X7_ones_20 rfl ?_
      exact y_iret C E D_X7_ones_21 (by rw [hr, c_5]; rfl) (rfl)
    · refine z_iinc (n := 1) C D_X7_ones_8 rfl (by decide) (qok_s rfl rfl) ?_
      refine y_iload_n C D_X7_ones_11 rfl ?_
      refine y_iload_n C D_X7_ones_12 rfl ?_
      refine y_iconst C D_X7_ones_13 ki_1 ?_
      refine z_isub C D_X7_ones_14 (by omega) ?_
      refine z_iand C D_X7_ones_15 ?_
      refine y_istore_n C D_X7_ones_16 (by decide) (qok_s rfl rfl) ?_
      refine y_goto C D_X7_ones_17 ?_
      have hst := ones_step s h2 (by omega)
      exact ih (s &&& (s - 1)) (c + 1) (by omega) (by omega) (by rw [hr, hst.2, Nat.add_assoc])
theorem c_X7_ones {b : Nat} (hb : b < 32) : Ct l G yX7_ones 0 [.int (nI b)] (h) (some (.int (nI (ones b)))) (h) := by
  refine ctm_intro (maxL := 3) kw_X7_ones (by decide) (by decide) [some (.int (nI b)), none, none] rfl (Nat.le_of_ble_eq_true rfl) ?_
  intro X _ hcl hsl _ _ C E
  refine y_iconst C D_X7_ones_0 ki_0 ?_
  refine y_istore_n C D_X7_ones_1 (by decide) (qok_s rfl rfl) ?_
  refine y_iload_n C D_X7_ones_2 rfl ?_
  refine y_istore_n C D_X7_ones_3 (by decide) (qok_s rfl rfl) ?_
  exact lp_X7_ones C E _ 32 b 0 (by omega) hb (by rw [Nat.zero_add])
theorem c_X7_find (hU : U.length = 122) {f : Nat} : Ct l G yX7_find 0 [qr G 122, .int (nI f)] (hm G U i A B) (some (.int (-1000010 - nI f))) (hm G U (va_up i 3 f) A B) := by
  refine ctm_intro (maxL := 2) kw_X7_find (by decide) (by decide) [some (qr G 122), some (.int (nI f))] rfl (Nat.le_of_ble_eq_true rfl) ?_
  intro X _ hcl hsl _ _ C E
  refine y_aload_n C D_X7_find_0 rfl ?_
  refine y_iload_n C D_X7_find_1 rfl ?_
  refine y_put C D_X7_find_2 fl_X7_50 (hm_o hU) (Nat.le_of_ble_eq_true rfl) rfl rfl (hm_pstatus hU _) ?_
  refine y_ldc C D_X7_find_5 lk_X7_54 ?_
  refine y_iload_n C D_X7_find_7 rfl ?_
  refine y_isub C D_X7_find_8 ?_
  exact y_iret C E D_X7_find_9 (rfl) (rfl)
theorem c_X7_well (hU : U.length = 122) {v : Int32} : Ct l G yX7_well 0 [qr G 122, .int v] (hm G U i A B) (some (.int v)) (hm G U (va_up i 3 0) A B) := by
  refine ctm_intro (maxL := 2) kw_X7_well (by decide) (by decide) [some (qr G 122), some (.int v)] rfl (Nat.le_of_ble_eq_true rfl) ?_
  intro X _ hcl hsl _ _ C E
  refine y_aload_n C D_X7_well_0 rfl ?_
  refine y_iconst C D_X7_well_1 ki_0 ?_
  refine y_put C D_X7_well_2 fl_X7_50 (hm_o hU) (Nat.le_of_ble_eq_true rfl) rfl rfl (hm_pstatus hU _) ?_
  refine y_iload_n C D_X7_well_5 rfl ?_
  exact y_iret C E D_X7_well_6 (rfl) (rfl)
theorem c_X7_isRow {x : Int32} : Ct l G yX7_isRow 1 [.int x] (h) (some (.int (bI (isx x 8)))) (h) := by
  refine ctm_intro (maxL := 1) kw_X7_isRow (by decide) (by decide) [some (.int x)] rfl (Nat.le_of_ble_eq_true rfl) ?_
  intro X _ hcl hsl _ _ C E
  refine y_iload_n C D_X7_isRow_0 rfl ?_
  refine y_i2l C D_X7_isRow_1 ?_
  refine y_lconst C D_X7_isRow_2 rfl ?_
  refine y_ldc2 C D_X7_isRow_3 lk_X7_55 ?_
  refine z_callS C D_X7_isRow_6 lk_X7_57 (c_X7_in) rfl rfl (Nat.le_of_ble_eq_true rfl) (Nat.le_of_ble_eq_true rfl) ⟨Nat.zero_le _, Nat.zero_le _⟩ ?_
  exact y_zret C E D_X7_isRow_9 bI_nar (rv (bI_c (in_isx (z := 7) (by decide) rfl))) (rfl)
theorem c_X7_isSleeper (hU : U.length = 122) {x : Int32} (hn : A 5 3 < 2 ^ 31) : Ct l G yX7_isSleeper 1 [qr G 122, .int x] (hm G U i A B) (some (.int (bI (isx x (A 5 3))))) (hm G U i A B) := by
  refine ctm_intro (maxL := 2) kw_X7_isSleeper (by decide) (by decide) [some (qr G 122), some (.int x)] rfl (Nat.le_of_ble_eq_true rfl) ?_
  intro X _ hcl hsl _ _ C E
  refine y_iload_n C D_X7_isSleeper_0 rfl ?_
  refine y_i2l C D_X7_isSleeper_1 ?_
  refine y_lconst C D_X7_isSleeper_2 rfl ?_
  refine y_aload_n C D_X7_isSleeper_3 rfl ?_
  refine y_get C D_X7_isSleeper_4 fl_X7_19 (hm_o hU) rfl ?_
  refine y_iconst C D_X7_isSleeper_7 ki_3 ?_
  refine z_ild C D_X7_isSleeper_8 (hm_st hU) (by omega) (by decide) rfl ?_
  refine y_iconst C D_X7_isSleeper_9 ki_1 ?_
  refine y_isub C D_X7_isSleeper_10 ?_
  refine y_i2l C D_X7_isSleeper_11 ?_
  refine z_callS C D_X7_isSleeper_12 lk_X7_57 (c_X7_in) rfl rfl (Nat.le_of_ble_eq_true rfl) (Nat.le_of_ble_eq_true rfl) ⟨Nat.zero_le _, Nat.zero_le _⟩ ?_
  exact y_zret C E D_X7_isSleeper_15 bI_nar (rv (bI_c (in_isx hn (nI_sub1 hn)))) (rfl)
theorem c_X7_isGrave (hU : U.length = 122) {x : Int32} (hn : A 5 0 < 2 ^ 31) : Ct l G yX7_isGrave 1 [qr G 122, .int x] (hm G U i A B) (some (.int (bI (isx x (A 5 0))))) (hm G U i A B) := by
  refine ctm_intro (maxL := 2) kw_X7_isGrave (by decide) (by decide) [some (qr G 122), some (.int x)] rfl (Nat.le_of_ble_eq_true rfl) ?_
  intro X _ hcl hsl _ _ C E
  refine y_iload_n C D_X7_isGrave_0 rfl ?_
  refine y_i2l C D_X7_isGrave_1 ?_
  refine y_lconst C D_X7_isGrave_2 rfl ?_
  refine y_aload_n C D_X7_isGrave_3 rfl ?_
  refine y_get C D_X7_isGrave_4 fl_X7_19 (hm_o hU) rfl ?_
  refine y_iconst C D_X7_isGrave_7 ki_0 ?_
  refine z_ild C D_X7_isGrave_8 (hm_st hU) (by omega) (by decide) rfl ?_
  refine y_iconst C D_X7_isGrave_9 ki_1 ?_
  refine y_isub C D_X7_isGrave_10 ?_
  refine y_i2l C D_X7_isGrave_11 ?_
  refine z_callS C D_X7_isGrave_12 lk_X7_57 (c_X7_in) rfl rfl (Nat.le_of_ble_eq_true rfl) (Nat.le_of_ble_eq_true rfl) ⟨Nat.zero_le _, Nat.zero_le _⟩ ?_
  exact y_zret C E D_X7_isGrave_15 bI_nar (rv (bI_c (in_isx hn (nI_sub1 hn)))) (rfl)
theorem c_X7_memoryOf (hU : U.length = 122) {p g : Nat} (hp : p < 5) (hg : g < 6) : Ct l G yX7_memoryOf 0 [qr G 122, .int (nI p), .int (nI g)] (hm G U i A B) (some (.int (nI (me (A 5) p g)))) (hm G U i A B) := by
  refine ctm_intro (maxL := 3) kw_X7_memoryOf (by decide) (by decide) [some (qr G 122), some (.int (nI p)), some (.int (nI g))] rfl (Nat.le_of_ble_eq_true rfl) ?_
  intro X _ hcl hsl _ _ C E
  refine y_aload_n C D_X7_memoryOf_0 rfl ?_
  refine y_get C D_X7_memoryOf_1 fl_X7_19 (hm_o hU) rfl ?_
  refine y_bipush C D_X7_memoryOf_4 kb_21 ?_
  refine y_bipush C D_X7_memoryOf_6 kb_6 ?_
  refine y_iload_n C D_X7_memoryOf_8 rfl ?_
  refine z_imul C D_X7_memoryOf_9 ?_
  refine z_iadd C D_X7_memoryOf_10 ?_
  refine y_iload_n C D_X7_memoryOf_11 rfl ?_
  refine z_iadd C D_X7_memoryOf_12 ?_
  refine z_ild C D_X7_memoryOf_13 (hm_st hU) (by omega) (by decide) rfl ?_
  exact y_iret C E D_X7_memoryOf_14 (rfl) (rfl)
theorem c_X7_lessOf (hU : U.length = 122) {m : Nat} (hm1 : m < 2 ^ 20) (h2 : 2 ≤ A 5 2) (h9 : A 5 2 < 2 ^ 20) : Ct l G yX7_lessOf 0 [qr G 122, .int (nI m)] (hm G U i A B) (some (.int (nI (less (A 5) m)))) (hm G U i A B) := by
  refine ctm_intro (maxL := 2) kw_X7_lessOf (by decide) (by decide) [some (qr G 122), some (.int (nI m))] rfl (Nat.le_of_ble_eq_true rfl) ?_
  intro X _ hcl hsl _ _ C E
  refine y_iload_n C D_X7_lessOf_0 rfl ?_
  refine y_if_ne C D_X7_lessOf_1 (n_eq0 (by omega)) (fun c_1 => ?_) (fun c_1 => ?_)
  · refine y_iload_n C D_X7_lessOf_8 rfl ?_
    refine y_iload_n C D_X7_lessOf_9 rfl ?_
    refine y_aload_n C D_X7_lessOf_10 rfl ?_
    refine y_get C D_X7_lessOf_11 fl_X7_19 (hm_o hU) rfl ?_
    refine y_iconst C D_X7_lessOf_14 ki_2 ?_
    refine z_ild C D_X7_lessOf_15 (hm_st hU) (by omega) (by decide) rfl ?_
    refine z_idiv C D_X7_lessOf_16 (by omega) (by omega) (by omega) ?_
    have hq : m / A 5 2 < m := Nat.div_lt_self (by omega) (by omega)
    refine z_isub C D_X7_lessOf_17 (by omega) ?_
    refine y_iconst C D_X7_lessOf_18 ki_1 ?_
    refine z_isub C D_X7_lessOf_19 (by omega) ?_
    exact y_iret C E D_X7_lessOf_20 (by rw [less, if_neg c_1]) (rfl)
  · refine y_iconst C D_X7_lessOf_4 ki_0 ?_
    refine y_goto C D_X7_lessOf_5 ?_
    exact y_iret C E D_X7_lessOf_20 (by rw [less, if_pos c_1]) (rfl)
end
end
section
section
variable {l : Launch} {G : qG} {U : List va_E} {i : Nat → Nat} {A : Nat → Nat → Nat} {B : Nat → Nat → Int32} {h : List va_E}
theorem lp_X7_mostOf {X : qX} {r : Option Value} {p b : Nat} (hU : U.length = 122) (hp : p < 5) (h0 : A 5 0 ≤ 6) (hB : ∀ k, A 5 k < 2000) (hb : b < 64) (C : qC X G cX7_mostOf 6 RX7 1) (E : qE X G (some .int) 0 0 r (hm G U i A B)) (hr : r = some (.int (oI (mo (A 5) p b (A 5 0))))) : ∀ (n g : Nat), g + n = A 5 0 → Y X G 6 0 0 5 [some (qr G 122), some (.int (nI p)), some (.int (nI b)), some (.int (oI (mo (A 5) p b g))), some (.int (nI g)), none] [] (hm G U i A B) := by
  intro n
  induction n with
  | zero =>
    intro g hg
    obtain rfl : g = A 5 0 := by omega
    refine y_iload C D_X7_mostOf_5 rfl ?_
    refine y_aload_n C D_X7_mostOf_7 rfl ?_
    refine y_get C D_X7_mostOf_8 fl_X7_19 (hm_o hU) rfl ?_
    refine y_iconst C D_X7_mostOf_11 ki_0 ?_
    refine z_ild C D_X7_mostOf_12 (hm_st hU) (by omega) (by decide) rfl ?_
    have hb0 := hB 0
    refine y_icmp_ge C D_X7_mostOf_13 (n_le (by omega) (by omega)) (fun c_13 => ?_) (fun c_13 => absurd (Nat.le_refl _) c_13)
    refine y_iload_n C D_X7_mostOf_86 rfl ?_
    exact y_iret C E D_X7_mostOf_87 (hr.symm) (rfl)
  | succ n ih =>
    intro g hg
    have hb0 := hB 0
    have hb1 := hB 1
    have hbg : me (A 5) p g < 2000 := hB _
    rcases hm1 : mo (A 5) p b g with _ | q
    · refine y_iload C D_X7_mostOf_5 rfl ?_
      refine y_aload_n C D_X7_mostOf_7 rfl ?_
      refine y_get C D_X7_mostOf_8 fl_X7_19 (hm_o hU) rfl ?_
      refine y_iconst C D_X7_mostOf_11 ki_0 ?_
      refine z_ild C D_X7_mostOf_12 (hm_st hU) (by omega) (by decide) rfl ?_
      refine y_icmp_ge C D_X7_mostOf_13 (n_le (by omega) (by omega)) (fun c_13 => absurd c_13 (by omega)) (fun c_13 => ?_)
      refine y_iload_n C D_X7_mostOf_16 rfl ?_
      refine y_iload C D_X7_mostOf_17 rfl ?_
      refine z_callS C D_X7_mostOf_19 lk_X7_142 (c_X7_has (by omega) (by omega)) rfl rfl (Nat.le_of_ble_eq_true rfl) (Nat.le_of_ble_eq_true rfl) ⟨Nat.zero_le _, Nat.zero_le _⟩ ?_
      refine z_ifeqB C D_X7_mostOf_22 (fun c_22 => ?_) (fun c_22 => ?_)
      · refine y_iconst C D_X7_mostOf_45 ki_0 ?_
        refine y_istore C D_X7_mostOf_46 (by decide) (qok_s rfl rfl) ?_
        refine y_iload C D_X7_mostOf_48 rfl ?_
        refine z_ifeq0 C D_X7_mostOf_50 ?_
        refine y_iload_n C D_X7_mostOf_78 rfl ?_
        refine y_istore_n C D_X7_mostOf_79 (by decide) (qok_s rfl rfl) ?_
        refine z_iinc (n := 1) C D_X7_mostOf_80 rfl (by decide) (qok_s rfl rfl) ?_
        refine y_goto C D_X7_mostOf_83 ?_
        refine y_fg 5 ?_
        have e : mo (A 5) p b (g + 1) = none := by simp [mo, hm1, c_22]
        have z := ih (g + 1) (by omega)
        rw [e] at z
        exact z
      · refine y_aload_n C D_X7_mostOf_25 rfl ?_
        refine y_iload_n C D_X7_mostOf_26 rfl ?_
        refine y_iload C D_X7_mostOf_27 rfl ?_
        refine z_callV C D_X7_mostOf_29 lk_X7_146 (c_X7_memoryOf hU (by omega) (by omega)) (hm_o hU) rfl rfl (Nat.le_of_ble_eq_true rfl) (Nat.le_of_ble_eq_true rfl) ⟨Nat.zero_le _, Nat.zero_le _⟩ ?_
        refine y_aload_n C D_X7_mostOf_32 rfl ?_
        refine y_get C D_X7_mostOf_33 fl_X7_19 (hm_o hU) rfl ?_
        refine y_iconst C D_X7_mostOf_36 ki_1 ?_
        refine z_ild C D_X7_mostOf_37 (hm_st hU) (by omega) (by decide) rfl ?_
        refine y_icmp_lt C D_X7_mostOf_38 (n_lt (by omega) (by omega)) (fun c_38 => ?_) (fun c_38 => ?_)
        · refine y_iconst C D_X7_mostOf_45 ki_0 ?_
          refine y_istore C D_X7_mostOf_46 (by decide) (qok_s rfl rfl) ?_
          refine y_iload C D_X7_mostOf_48 rfl ?_
          refine z_ifeq0 C D_X7_mostOf_50 ?_
          refine y_iload_n C D_X7_mostOf_78 rfl ?_
          refine y_istore_n C D_X7_mostOf_79 (by decide) (qok_s rfl rfl) ?_
          refine z_iinc (n := 1) C D_X7_mostOf_80 rfl (by decide) (qok_s rfl rfl) ?_
          refine y_goto C D_X7_mostOf_83 ?_
          refine y_fg 5 ?_
          have e : mo (A 5) p b (g + 1) = none := by simp [mo, hm1, c_22, Nat.not_le.mpr c_38]
          have z := ih (g + 1) (by omega)
          rw [e] at z
          exact z
        · refine y_iconst C D_X7_mostOf_41 ki_1 ?_
          refine y_goto C D_X7_mostOf_42 ?_
          refine y_istore C D_X7_mostOf_46 (by decide) (qok_s rfl rfl) ?_
          refine y_iload C D_X7_mostOf_48 rfl ?_
          refine z_ifeq1 C D_X7_mostOf_50 ?_
          refine y_iload_n C D_X7_mostOf_53 rfl ?_
          refine z_ifltM C D_X7_mostOf_54 ?_
          refine y_iload C D_X7_mostOf_73 rfl ?_
          refine y_goto C D_X7_mostOf_75 ?_
          refine y_istore_n C D_X7_mostOf_79 (by decide) (qok_s rfl rfl) ?_
          refine z_iinc (n := 1) C D_X7_mostOf_80 rfl (by decide) (qok_s rfl rfl) ?_
          refine y_goto C D_X7_mostOf_83 ?_
          refine y_fg 5 ?_
          have e : mo (A 5) p b (g + 1) = some g := by simp [mo, hm1, c_22, Nat.not_lt.mp c_38]
          have z := ih (g + 1) (by omega)
          rw [e] at z
          exact z
    · have hq := mo_lt hm1
      have hbq : me (A 5) p q < 2000 := hB _
      refine y_iload C D_X7_mostOf_5 rfl ?_
      refine y_aload_n C D_X7_mostOf_7 rfl ?_
      refine y_get C D_X7_mostOf_8 fl_X7_19 (hm_o hU) rfl ?_
      refine y_iconst C D_X7_mostOf_11 ki_0 ?_
      refine z_ild C D_X7_mostOf_12 (hm_st hU) (by omega) (by decide) rfl ?_
      refine y_icmp_ge C D_X7_mostOf_13 (n_le (by omega) (by omega)) (fun c_13 => absurd c_13 (by omega)) (fun c_13 => ?_)
      refine y_iload_n C D_X7_mostOf_16 rfl ?_
      refine y_iload C D_X7_mostOf_17 rfl ?_
      refine z_callS C D_X7_mostOf_19 lk_X7_142 (c_X7_has (by omega) (by omega)) rfl rfl (Nat.le_of_ble_eq_true rfl) (Nat.le_of_ble_eq_true rfl) ⟨Nat.zero_le _, Nat.zero_le _⟩ ?_
      refine z_ifeqB C D_X7_mostOf_22 (fun c_22 => ?_) (fun c_22 => ?_)
      · refine y_iconst C D_X7_mostOf_45 ki_0 ?_
        refine y_istore C D_X7_mostOf_46 (by decide) (qok_s rfl rfl) ?_
        refine y_iload C D_X7_mostOf_48 rfl ?_
        refine z_ifeq0 C D_X7_mostOf_50 ?_
        refine y_iload_n C D_X7_mostOf_78 rfl ?_
        refine y_istore_n C D_X7_mostOf_79 (by decide) (qok_s rfl rfl) ?_
        refine z_iinc (n := 1) C D_X7_mostOf_80 rfl (by decide) (qok_s rfl rfl) ?_
        refine y_goto C D_X7_mostOf_83 ?_
        refine y_fg 5 ?_
        have e : mo (A 5) p b (g + 1) = some q := by simp [mo, hm1, c_22]
        have z := ih (g + 1) (by omega)
        rw [e] at z
        exact z
      · refine y_aload_n C D_X7_mostOf_25 rfl ?_
        refine y_iload_n C D_X7_mostOf_26 rfl ?_
        refine y_iload C D_X7_mostOf_27 rfl ?_
        refine z_callV C D_X7_mostOf_29 lk_X7_146 (c_X7_memoryOf hU (by omega) (by omega)) (hm_o hU) rfl rfl (Nat.le_of_ble_eq_true rfl) (Nat.le_of_ble_eq_true rfl) ⟨Nat.zero_le _, Nat.zero_le _⟩ ?_
        refine y_aload_n C D_X7_mostOf_32 rfl ?_
        refine y_get C D_X7_mostOf_33 fl_X7_19 (hm_o hU) rfl ?_
        refine y_iconst C D_X7_mostOf_36 ki_1 ?_
        refine z_ild C D_X7_mostOf_37 (hm_st hU) (by omega) (by decide) rfl ?_
        refine y_icmp_lt C D_X7_mostOf_38 (n_lt (by omega) (by omega)) (fun c_38 => ?_) (fun c_38 => ?_)
        · refine y_iconst C D_X7_mostOf_45 ki_0 ?_
          refine y_istore C D_X7_mostOf_46 (by decide) (qok_s rfl rfl) ?_
          refine y_iload C D_X7_mostOf_48 rfl ?_
          refine z_ifeq0 C D_X7_mostOf_50 ?_
          refine y_iload_n C D_X7_mostOf_78 rfl ?_
          refine y_istore_n C D_X7_mostOf_79 (by decide) (qok_s rfl rfl) ?_
          refine z_iinc (n := 1) C D_X7_mostOf_80 rfl (by decide) (qok_s rfl rfl) ?_
          refine y_goto C D_X7_mostOf_83 ?_
          refine y_fg 5 ?_
          have e : mo (A 5) p b (g + 1) = some q := by simp [mo, hm1, c_22, Nat.not_le.mpr c_38]
          have z := ih (g + 1) (by omega)
          rw [e] at z
          exact z
        · refine y_iconst C D_X7_mostOf_41 ki_1 ?_
          refine y_goto C D_X7_mostOf_42 ?_
          refine y_istore C D_X7_mostOf_46 (by decide) (qok_s rfl rfl) ?_
          refine y_iload C D_X7_mostOf_48 rfl ?_
          refine z_ifeq1 C D_X7_mostOf_50 ?_
          refine y_iload_n C D_X7_mostOf_53 rfl ?_
          refine y_if_lt C D_X7_mostOf_54 (n_lt0 (by omega)) (fun q => q.elim) (fun _ => ?_)
          refine y_aload_n C D_X7_mostOf_57 rfl ?_
          refine y_iload_n C D_X7_mostOf_58 rfl ?_
          refine y_iload C D_X7_mostOf_59 rfl ?_
          refine z_callV C D_X7_mostOf_61 lk_X7_146 (c_X7_memoryOf hU (by omega) (by omega)) (hm_o hU) rfl rfl (Nat.le_of_ble_eq_true rfl) (Nat.le_of_ble_eq_true rfl) ⟨Nat.zero_le _, Nat.zero_le _⟩ ?_
          refine y_aload_n C D_X7_mostOf_64 rfl ?_
          refine y_iload_n C D_X7_mostOf_65 rfl ?_
          refine y_iload_n C D_X7_mostOf_66 rfl ?_
          refine z_callV C D_X7_mostOf_67 lk_X7_146 (c_X7_memoryOf hU (by omega) (by omega)) (hm_o hU) rfl rfl (Nat.le_of_ble_eq_true rfl) (Nat.le_of_ble_eq_true rfl) ⟨Nat.zero_le _, Nat.zero_le _⟩ ?_
          refine y_icmp_le C D_X7_mostOf_70 (n_le (by omega) (by omega)) (fun c_70 => ?_) (fun c_70 => ?_)
          · refine y_iload_n C D_X7_mostOf_78 rfl ?_
            refine y_istore_n C D_X7_mostOf_79 (by decide) (qok_s rfl rfl) ?_
            refine z_iinc (n := 1) C D_X7_mostOf_80 rfl (by decide) (qok_s rfl rfl) ?_
            refine y_goto C D_X7_mostOf_83 ?_
            refine y_fg 5 ?_
            have e : mo (A 5) p b (g + 1) = some q := by simp [mo, hm1, c_22, Nat.not_lt.mp c_38, Nat.not_lt.mpr c_70]
            have z := ih (g + 1) (by omega)
            rw [e] at z
            exact z
          · refine y_iload C D_X7_mostOf_73 rfl ?_
            refine y_goto C D_X7_mostOf_75 ?_
            refine y_istore_n C D_X7_mostOf_79 (by decide) (qok_s rfl rfl) ?_
            refine z_iinc (n := 1) C D_X7_mostOf_80 rfl (by decide) (qok_s rfl rfl) ?_
            refine y_goto C D_X7_mostOf_83 ?_
            refine y_fg 5 ?_
            have e : mo (A 5) p b (g + 1) = some g := by simp [mo, hm1, c_22, Nat.not_lt.mp c_38, Nat.not_le.mp c_70]
            have z := ih (g + 1) (by omega)
            rw [e] at z
            exact z
theorem c_X7_mostOf (hU : U.length = 122) {p b : Nat} (hp : p < 5) (h0 : A 5 0 ≤ 6) (hB : ∀ k, A 5 k < 2000) (hb : b < 64) : Ct l G yX7_mostOf 1 [qr G 122, .int (nI p), .int (nI b)] (hm G U i A B) (some (.int (oI (mo (A 5) p b (A 5 0))))) (hm G U i A B) := by
  refine ctm_intro (maxL := 6) kw_X7_mostOf (by decide) (by decide) [some (qr G 122), some (.int (nI p)), some (.int (nI b)), none, none, none] rfl (Nat.le_of_ble_eq_true rfl) ?_
  intro X _ hcl hsl _ _ C E
  refine y_iconst C D_X7_mostOf_0 ki_m1 ?_
  refine y_istore_n C D_X7_mostOf_1 (by decide) (qok_s rfl rfl) ?_
  refine y_iconst C D_X7_mostOf_2 ki_0 ?_
  refine y_istore C D_X7_mostOf_3 (by decide) (qok_s rfl rfl) ?_
  exact lp_X7_mostOf hU hp h0 hB hb C E rfl (A 5 0) 0 (by omega)
theorem lp_X7_dreams {X : qX} {r : Option Value} {p v2 s : Nat} {v3 : Int32} (hU : U.length = 122) (hp : p < 5) (h1 : 1 ≤ A 5 0) (h0 : A 5 0 ≤ 6) (hB : ∀ k, A 5 k < 2000) (h5 : A 5 5 < 64) (C : qC X G cX7_dreams 6 RX7 2) (E : qE X G (some .int) 0 0 r (hm G U i A B)) (hr : r = some (.int (nI (if A 5 (16 + p) = 1 then fset (A 5) p s (A 5 0) else s)))) : ∀ (n g : Nat), g + n = A 5 0 → (A 5 (16 + p) = 1 ∨ g = 0) → Y X G 6 0 0 139 [some (qr G 122), some (.int (nI p)), some (.int (nI v2)), some (.int v3), some (.int (nI (fset (A 5) p s g))), some (.int (nI g))] [] (hm G U i A B) := by
  have hb0 := hB 0
  have hbf := hB (16 + p)
  intro n
  induction n with
  | zero =>
    intro g hg hf
    obtain rfl : g = A 5 0 := by omega
    refine y_iload C D_X7_dreams_139 rfl ?_
    refine y_aload_n C D_X7_dreams_141 rfl ?_
    refine y_get C D_X7_dreams_142 fl_X7_19 (hm_o hU) rfl ?_
    refine y_iconst C D_X7_dreams_145 ki_0 ?_
    refine z_ild C D_X7_dreams_146 (hm_st hU) (by omega) (by decide) rfl ?_
    refine y_icmp_ge C D_X7_dreams_147 (n_le (by omega) (by omega)) (fun c_147 => ?_) (fun c_147 => absurd (Nat.le_refl _) c_147)
    refine y_iload C D_X7_dreams_206 rfl ?_
    exact y_iret C E D_X7_dreams_208 (by rw [hr, if_pos (hf.resolve_right (by omega))]) (rfl)
  | succ n ih =>
    intro g hg hf
    have hbg : me (A 5) p g < 2000 := hB _
    refine y_iload C D_X7_dreams_139 rfl ?_
    refine y_aload_n C D_X7_dreams_141 rfl ?_
    refine y_get C D_X7_dreams_142 fl_X7_19 (hm_o hU) rfl ?_
    refine y_iconst C D_X7_dreams_145 ki_0 ?_
    refine z_ild C D_X7_dreams_146 (hm_st hU) (by omega) (by decide) rfl ?_
    refine y_icmp_ge C D_X7_dreams_147 (n_le (by omega) (by omega)) (fun c_147 => absurd c_147 (by omega)) (fun c_147 => ?_)
    refine y_aload_n C D_X7_dreams_150 rfl ?_
    refine y_get C D_X7_dreams_151 fl_X7_19 (hm_o hU) rfl ?_
    refine y_bipush C D_X7_dreams_154 kb_16 ?_
    refine y_iload_n C D_X7_dreams_156 rfl ?_
    refine z_iadd C D_X7_dreams_157 ?_
    refine z_ild C D_X7_dreams_158 (hm_st hU) (by omega) (by decide) rfl ?_
    refine y_iconst C D_X7_dreams_159 ki_1 ?_
    refine y_icmp_ne C D_X7_dreams_160 (n_eq (by omega) (by omega)) (fun c_160 => ?_) (fun c_160 => ?_)
    · refine y_iload C D_X7_dreams_206 rfl ?_
      exact y_iret C E D_X7_dreams_208 (by rw [hr, if_neg c_160, hf.resolve_left c_160]; rfl) (rfl)
    · refine y_iload C D_X7_dreams_163 rfl ?_
      refine y_aload_n C D_X7_dreams_165 rfl ?_
      refine y_get C D_X7_dreams_166 fl_X7_19 (hm_o hU) rfl ?_
      refine y_iconst C D_X7_dreams_169 ki_5 ?_
      refine z_ild C D_X7_dreams_170 (hm_st hU) (by omega) (by decide) rfl ?_
      refine y_iload C D_X7_dreams_171 rfl ?_
      refine z_callS C D_X7_dreams_173 lk_X7_142 (c_X7_has (by omega) (by omega)) rfl rfl (Nat.le_of_ble_eq_true rfl) (Nat.le_of_ble_eq_true rfl) ⟨Nat.zero_le _, Nat.zero_le _⟩ ?_
      refine z_ifeqB C D_X7_dreams_176 (fun c_176 => ?_) (fun c_176 => ?_)
      · refine y_iconst C D_X7_dreams_196 ki_0 ?_
        refine z_ior C D_X7_dreams_197 ?_
        refine y_istore C D_X7_dreams_198 (by decide) (qok_s rfl rfl) ?_
        refine z_iinc (n := 1) C D_X7_dreams_200 rfl (by decide) (qok_s rfl rfl) ?_
        refine y_goto C D_X7_dreams_203 ?_
        have e : fset (A 5) p s (g + 1) = fset (A 5) p s g ||| 0 := by rw [fset, if_neg (fun z => c_176 z.1)]
        have z := ih (g + 1) (by omega) (Or.inl c_160)
        rw [e] at z
        exact z
      · refine y_aload_n C D_X7_dreams_179 rfl ?_
        refine y_iload_n C D_X7_dreams_180 rfl ?_
        refine y_iload C D_X7_dreams_181 rfl ?_
        refine z_callV C D_X7_dreams_183 lk_X7_146 (c_X7_memoryOf hU (by omega) (by omega)) (hm_o hU) rfl rfl (Nat.le_of_ble_eq_true rfl) (Nat.le_of_ble_eq_true rfl) ⟨Nat.zero_le _, Nat.zero_le _⟩ ?_
        refine y_if_le C D_X7_dreams_186 (n_le0 (by omega)) (fun c_186 => ?_) (fun c_186 => ?_)
        · refine y_iconst C D_X7_dreams_196 ki_0 ?_
          refine z_ior C D_X7_dreams_197 ?_
          refine y_istore C D_X7_dreams_198 (by decide) (qok_s rfl rfl) ?_
          refine z_iinc (n := 1) C D_X7_dreams_200 rfl (by decide) (qok_s rfl rfl) ?_
          refine y_goto C D_X7_dreams_203 ?_
          have e : fset (A 5) p s (g + 1) = fset (A 5) p s g ||| 0 := by rw [fset, if_neg (fun z => by omega)]
          have z := ih (g + 1) (by omega) (Or.inl c_160)
          rw [e] at z
          exact z
        · refine y_iconst C D_X7_dreams_189 ki_1 ?_
          refine y_iload C D_X7_dreams_190 rfl ?_
          refine z_ishl1 C D_X7_dreams_192 (by omega) ?_
          refine y_goto C D_X7_dreams_193 ?_
          refine z_ior C D_X7_dreams_197 ?_
          refine y_istore C D_X7_dreams_198 (by decide) (qok_s rfl rfl) ?_
          refine z_iinc (n := 1) C D_X7_dreams_200 rfl (by decide) (qok_s rfl rfl) ?_
          refine y_goto C D_X7_dreams_203 ?_
          have e : fset (A 5) p s (g + 1) = fset (A 5) p s g ||| 2 ^ g := by rw [fset, if_pos ⟨c_176, by omega⟩]
          have z := ih (g + 1) (by omega) (Or.inl c_160)
          rw [e] at z
          exact z
theorem c_X7_dreams {p : Nat} (hU : U.length = 122) (hp : p < 5) (h1 : 1 ≤ A 5 0) (h0 : A 5 0 ≤ 6) (hB : ∀ k, A 5 k < 2000) (h5 : A 5 5 < 64) : Ct l G yX7_dreams 2 [qr G 122, .int (nI p)] (hm G U i A B) (some (.int (nI (dr (A 5) p)))) (hm G U i A B) := by
  obtain ⟨r, hr⟩ : ∃ r, r = some (Value.int (nI (dr (A 5) p))) := ⟨_, rfl⟩
  rw [← hr]
  unfold dr at hr
  refine ctm_intro (maxL := 6) kw_X7_dreams (by decide) (by decide) [some (qr G 122), some (.int (nI p)), none, none, none, none] rfl (Nat.le_of_ble_eq_true rfl) ?_
  intro X _ hcl hsl _ _ C E
  have hb0 := hB 0
  have hbk := hB (6 + p)
  have hb4 := hB 4
  have hm0 : A 5 4 % A 5 0 < A 5 0 := Nat.mod_lt _ (by omega)
  refine y_aload_n C D_X7_dreams_0 rfl ?_
  refine y_get C D_X7_dreams_1 fl_X7_19 (hm_o hU) rfl ?_
  refine y_bipush C D_X7_dreams_4 kb_6 ?_
  refine y_iload_n C D_X7_dreams_6 rfl ?_
  refine z_iadd C D_X7_dreams_7 ?_
  refine z_ild C D_X7_dreams_8 (hm_st hU) (by omega) (by decide) rfl ?_
  refine y_istore_n C D_X7_dreams_9 (by decide) (qok_s rfl rfl) ?_
  refine y_aload_n C D_X7_dreams_10 rfl ?_
  refine y_iload_n C D_X7_dreams_11 rfl ?_
  refine y_aload_n C D_X7_dreams_12 rfl ?_
  refine y_get C D_X7_dreams_13 fl_X7_19 (hm_o hU) rfl ?_
  refine y_iconst C D_X7_dreams_16 ki_5 ?_
  refine z_ild C D_X7_dreams_17 (hm_st hU) (by omega) (by decide) rfl ?_
  refine z_callV C D_X7_dreams_18 lk_X7_149 (c_X7_mostOf hU (by omega) (by omega) hB (by omega)) (hm_o hU) rfl rfl (Nat.le_of_ble_eq_true rfl) (Nat.le_of_ble_eq_true rfl) ⟨Nat.zero_le _, Nat.zero_le _⟩ ?_
  refine y_istore_n C D_X7_dreams_21 (by decide) (qok_s rfl rfl) ?_
  refine y_iconst C D_X7_dreams_22 ki_0 ?_
  refine y_istore C D_X7_dreams_23 (by decide) (qok_s rfl rfl) ?_
  refine y_iload_n C D_X7_dreams_25 rfl ?_
  refine y_iconst C D_X7_dreams_26 ki_4 ?_
  refine y_icmp_lt C D_X7_dreams_27 (n_lt (by omega) (by omega)) (fun c_27 => ?_) (fun c_27 => ?_)
  · refine y_iload_n C D_X7_dreams_61 rfl ?_
    rcases hm1 : mo (A 5) p (A 5 5) (A 5 0) with _ | f
    · refine z_ifltM C D_X7_dreams_62 ?_
      refine y_iconst C D_X7_dreams_136 ki_0 ?_
      refine y_istore C D_X7_dreams_137 (by decide) (qok_s rfl rfl) ?_
      have HH : dset (A 5) p = 0 := by rw [dset, if_neg (by omega), hm1]
      rw [HH] at hr
      exact lp_X7_dreams hU hp h1 h0 hB h5 C E hr (A 5 0) 0 (by omega) (Or.inr rfl)
    · have hf := mo_lt hm1
      have hmf : (f + 1) % A 5 0 < A 5 0 := Nat.mod_lt _ (by omega)
      refine y_if_lt C D_X7_dreams_62 (n_lt0 (by omega)) (fun q => q.elim) (fun _ => ?_)
      refine y_iload_n C D_X7_dreams_65 rfl ?_
      refine y_iconst C D_X7_dreams_66 ki_3 ?_
      refine y_icmp_ne C D_X7_dreams_67 (n_eq (by omega) (by omega)) (fun c_67 => ?_) (fun c_67 => ?_)
      · refine y_iconst C D_X7_dreams_85 ki_1 ?_
        refine y_iload_n C D_X7_dreams_86 rfl ?_
        refine z_ishl1 C D_X7_dreams_87 (by omega) ?_
        refine y_istore C D_X7_dreams_88 (by decide) (qok_s rfl rfl) ?_
        refine y_iload_n C D_X7_dreams_90 rfl ?_
        refine y_iconst C D_X7_dreams_91 ki_2 ?_
        refine y_icmp_ne C D_X7_dreams_92 (n_eq (by omega) (by omega)) (fun c_92 => ?_) (fun c_92 => ?_)
        · refine y_iconst C D_X7_dreams_115 ki_m1 ?_
          refine y_istore C D_X7_dreams_116 (by decide) (qok_s rfl rfl) ?_
          refine y_iload C D_X7_dreams_118 rfl ?_
          refine y_iload C D_X7_dreams_120 rfl ?_
          refine z_ifgeM C D_X7_dreams_122 ?_
          refine y_iconst C D_X7_dreams_125 ki_0 ?_
          refine y_goto C D_X7_dreams_126 ?_
          refine z_ior C D_X7_dreams_133 ?_
          refine y_istore C D_X7_dreams_134 (by decide) (qok_s rfl rfl) ?_
          refine y_iconst C D_X7_dreams_136 ki_0 ?_
          refine y_istore C D_X7_dreams_137 (by decide) (qok_s rfl rfl) ?_
          have HH : dset (A 5) p = 2 ^ f ||| 0 := by rw [dset, if_neg (by omega), hm1]; simp only [if_neg c_67, if_neg c_92]
          rw [HH] at hr
          exact lp_X7_dreams hU hp h1 h0 hB h5 C E hr (A 5 0) 0 (by omega) (Or.inr rfl)
        · refine y_aload_n C D_X7_dreams_95 rfl ?_
          refine y_iload_n C D_X7_dreams_96 rfl ?_
          refine y_aload_n C D_X7_dreams_97 rfl ?_
          refine y_get C D_X7_dreams_98 fl_X7_19 (hm_o hU) rfl ?_
          refine y_iconst C D_X7_dreams_101 ki_5 ?_
          refine z_ild C D_X7_dreams_102 (hm_st hU) (by omega) (by decide) rfl ?_
          refine y_iconst C D_X7_dreams_103 ki_1 ?_
          refine y_iload_n C D_X7_dreams_104 rfl ?_
          refine z_ishl1 C D_X7_dreams_105 (by omega) ?_
          refine y_iconst C D_X7_dreams_106 ki_m1 ?_
          refine y_ixor C D_X7_dreams_107 ?_
          refine y_iand C D_X7_dreams_108 ?_
          have hcl2 := clr_lt _ h5 f (by omega)
          refine y_top (clr_eq _ h5 _ (by omega)) ?_
          refine z_callV C D_X7_dreams_109 lk_X7_149 (c_X7_mostOf hU (by omega) (by omega) hB (by omega)) (hm_o hU) rfl rfl (Nat.le_of_ble_eq_true rfl) (Nat.le_of_ble_eq_true rfl) ⟨Nat.zero_le _, Nat.zero_le _⟩ ?_
          refine y_goto C D_X7_dreams_112 ?_
          rcases hm2 : mo (A 5) p (clr (A 5 5) f) (A 5 0) with _ | q
          · refine y_istore C D_X7_dreams_116 (by decide) (qok_s rfl rfl) ?_
            refine y_iload C D_X7_dreams_118 rfl ?_
            refine y_iload C D_X7_dreams_120 rfl ?_
            refine z_ifgeM C D_X7_dreams_122 ?_
            refine y_iconst C D_X7_dreams_125 ki_0 ?_
            refine y_goto C D_X7_dreams_126 ?_
            refine z_ior C D_X7_dreams_133 ?_
            refine y_istore C D_X7_dreams_134 (by decide) (qok_s rfl rfl) ?_
            refine y_iconst C D_X7_dreams_136 ki_0 ?_
            refine y_istore C D_X7_dreams_137 (by decide) (qok_s rfl rfl) ?_
            have HH : dset (A 5) p = 2 ^ f ||| 0 := by rw [dset, if_neg (by omega), hm1]; simp only [if_neg c_67, if_pos c_92, hm2, two]
            rw [HH] at hr
            exact lp_X7_dreams hU hp h1 h0 hB h5 C E hr (A 5 0) 0 (by omega) (Or.inr rfl)
          · have hq := mo_lt hm2
            refine y_istore C D_X7_dreams_116 (by decide) (qok_s rfl rfl) ?_
            refine y_iload C D_X7_dreams_118 rfl ?_
            refine y_iload C D_X7_dreams_120 rfl ?_
            refine y_if_ge C D_X7_dreams_122 (n_ge0 (by omega)) (fun _ => ?_) (fun q => absurd trivial q)
            refine y_iconst C D_X7_dreams_129 ki_1 ?_
            refine y_iload C D_X7_dreams_130 rfl ?_
            refine z_ishl1 C D_X7_dreams_132 (by omega) ?_
            refine z_ior C D_X7_dreams_133 ?_
            refine y_istore C D_X7_dreams_134 (by decide) (qok_s rfl rfl) ?_
            refine y_iconst C D_X7_dreams_136 ki_0 ?_
            refine y_istore C D_X7_dreams_137 (by decide) (qok_s rfl rfl) ?_
            have HH : dset (A 5) p = 2 ^ f ||| 2 ^ q := by rw [dset, if_neg (by omega), hm1]; simp only [if_neg c_67, if_pos c_92, hm2, two]
            rw [HH] at hr
            exact lp_X7_dreams hU hp h1 h0 hB h5 C E hr (A 5 0) 0 (by omega) (Or.inr rfl)
      · refine y_iconst C D_X7_dreams_70 ki_1 ?_
        refine y_iload_n C D_X7_dreams_71 rfl ?_
        refine y_iconst C D_X7_dreams_72 ki_1 ?_
        refine z_iadd C D_X7_dreams_73 ?_
        refine y_aload_n C D_X7_dreams_74 rfl ?_
        refine y_get C D_X7_dreams_75 fl_X7_19 (hm_o hU) rfl ?_
        refine y_iconst C D_X7_dreams_78 ki_0 ?_
        refine z_ild C D_X7_dreams_79 (hm_st hU) (by omega) (by decide) rfl ?_
        refine z_irem C D_X7_dreams_80 (by omega) (by omega) (by omega) ?_
        refine z_ishl1 C D_X7_dreams_81 (by omega) ?_
        refine y_goto C D_X7_dreams_82 ?_
        refine y_istore C D_X7_dreams_88 (by decide) (qok_s rfl rfl) ?_
        refine y_iload_n C D_X7_dreams_90 rfl ?_
        refine y_iconst C D_X7_dreams_91 ki_2 ?_
        refine y_icmp_ne C D_X7_dreams_92 (n_eq (by omega) (by omega)) (fun c_92 => ?_) (fun c_92 => ?_)
        · refine y_iconst C D_X7_dreams_115 ki_m1 ?_
          refine y_istore C D_X7_dreams_116 (by decide) (qok_s rfl rfl) ?_
          refine y_iload C D_X7_dreams_118 rfl ?_
          refine y_iload C D_X7_dreams_120 rfl ?_
          refine z_ifgeM C D_X7_dreams_122 ?_
          refine y_iconst C D_X7_dreams_125 ki_0 ?_
          refine y_goto C D_X7_dreams_126 ?_
          refine z_ior C D_X7_dreams_133 ?_
          refine y_istore C D_X7_dreams_134 (by decide) (qok_s rfl rfl) ?_
          refine y_iconst C D_X7_dreams_136 ki_0 ?_
          refine y_istore C D_X7_dreams_137 (by decide) (qok_s rfl rfl) ?_
          have HH : dset (A 5) p = 2 ^ ((f + 1) % A 5 0) ||| 0 := by rw [dset, if_neg (by omega), hm1]; simp only [if_pos c_67, if_neg c_92]
          rw [HH] at hr
          exact lp_X7_dreams hU hp h1 h0 hB h5 C E hr (A 5 0) 0 (by omega) (Or.inr rfl)
        · refine y_aload_n C D_X7_dreams_95 rfl ?_
          refine y_iload_n C D_X7_dreams_96 rfl ?_
          refine y_aload_n C D_X7_dreams_97 rfl ?_
          refine y_get C D_X7_dreams_98 fl_X7_19 (hm_o hU) rfl ?_
          refine y_iconst C D_X7_dreams_101 ki_5 ?_
          refine z_ild C D_X7_dreams_102 (hm_st hU) (by omega) (by decide) rfl ?_
          refine y_iconst C D_X7_dreams_103 ki_1 ?_
          refine y_iload_n C D_X7_dreams_104 rfl ?_
          refine z_ishl1 C D_X7_dreams_105 (by omega) ?_
          refine y_iconst C D_X7_dreams_106 ki_m1 ?_
          refine y_ixor C D_X7_dreams_107 ?_
          refine y_iand C D_X7_dreams_108 ?_
          have hcl2 := clr_lt _ h5 f (by omega)
          refine y_top (clr_eq _ h5 _ (by omega)) ?_
          refine z_callV C D_X7_dreams_109 lk_X7_149 (c_X7_mostOf hU (by omega) (by omega) hB (by omega)) (hm_o hU) rfl rfl (Nat.le_of_ble_eq_true rfl) (Nat.le_of_ble_eq_true rfl) ⟨Nat.zero_le _, Nat.zero_le _⟩ ?_
          refine y_goto C D_X7_dreams_112 ?_
          rcases hm2 : mo (A 5) p (clr (A 5 5) f) (A 5 0) with _ | q
          · refine y_istore C D_X7_dreams_116 (by decide) (qok_s rfl rfl) ?_
            refine y_iload C D_X7_dreams_118 rfl ?_
            refine y_iload C D_X7_dreams_120 rfl ?_
            refine z_ifgeM C D_X7_dreams_122 ?_
            refine y_iconst C D_X7_dreams_125 ki_0 ?_
            refine y_goto C D_X7_dreams_126 ?_
            refine z_ior C D_X7_dreams_133 ?_
            refine y_istore C D_X7_dreams_134 (by decide) (qok_s rfl rfl) ?_
            refine y_iconst C D_X7_dreams_136 ki_0 ?_
            refine y_istore C D_X7_dreams_137 (by decide) (qok_s rfl rfl) ?_
            exact absurd c_67 (by omega)
          · have hq := mo_lt hm2
            refine y_istore C D_X7_dreams_116 (by decide) (qok_s rfl rfl) ?_
            refine y_iload C D_X7_dreams_118 rfl ?_
            refine y_iload C D_X7_dreams_120 rfl ?_
            refine y_if_ge C D_X7_dreams_122 (n_ge0 (by omega)) (fun _ => ?_) (fun q => absurd trivial q)
            refine y_iconst C D_X7_dreams_129 ki_1 ?_
            refine y_iload C D_X7_dreams_130 rfl ?_
            refine z_ishl1 C D_X7_dreams_132 (by omega) ?_
            refine z_ior C D_X7_dreams_133 ?_
            refine y_istore C D_X7_dreams_134 (by decide) (qok_s rfl rfl) ?_
            refine y_iconst C D_X7_dreams_136 ki_0 ?_
            refine y_istore C D_X7_dreams_137 (by decide) (qok_s rfl rfl) ?_
            exact absurd c_67 (by omega)
  · refine y_iconst C D_X7_dreams_30 ki_1 ?_
    refine y_aload_n C D_X7_dreams_31 rfl ?_
    refine y_get C D_X7_dreams_32 fl_X7_19 (hm_o hU) rfl ?_
    refine y_iconst C D_X7_dreams_35 ki_4 ?_
    refine z_ild C D_X7_dreams_36 (hm_st hU) (by omega) (by decide) rfl ?_
    refine y_aload_n C D_X7_dreams_37 rfl ?_
    refine y_get C D_X7_dreams_38 fl_X7_19 (hm_o hU) rfl ?_
    refine y_iconst C D_X7_dreams_41 ki_0 ?_
    refine z_ild C D_X7_dreams_42 (hm_st hU) (by omega) (by decide) rfl ?_
    refine z_irem C D_X7_dreams_43 (by omega) (by omega) (by omega) ?_
    refine z_ishl1 C D_X7_dreams_44 (by omega) ?_
    refine y_iload_n C D_X7_dreams_45 rfl ?_
    refine y_iconst C D_X7_dreams_46 ki_5 ?_
    refine y_icmp_ne C D_X7_dreams_47 (n_eq (by omega) (by omega)) (fun c_47 => ?_) (fun c_47 => ?_)
    · refine y_iconst C D_X7_dreams_54 ki_0 ?_
      refine z_ior C D_X7_dreams_55 ?_
      refine y_istore C D_X7_dreams_56 (by decide) (qok_s rfl rfl) ?_
      refine y_goto C D_X7_dreams_58 ?_
      refine y_iconst C D_X7_dreams_136 ki_0 ?_
      refine y_istore C D_X7_dreams_137 (by decide) (qok_s rfl rfl) ?_
      have HH : dset (A 5) p = 2 ^ (A 5 4 % A 5 0) ||| 0 := by rw [dset, if_pos (by omega), if_neg c_47]
      rw [HH] at hr
      exact lp_X7_dreams hU hp h1 h0 hB h5 C E hr (A 5 0) 0 (by omega) (Or.inr rfl)
    · refine y_iconst C D_X7_dreams_50 ki_1 ?_
      refine y_goto C D_X7_dreams_51 ?_
      refine z_ior C D_X7_dreams_55 ?_
      refine y_istore C D_X7_dreams_56 (by decide) (qok_s rfl rfl) ?_
      refine y_goto C D_X7_dreams_58 ?_
      refine y_iconst C D_X7_dreams_136 ki_0 ?_
      refine y_istore C D_X7_dreams_137 (by decide) (qok_s rfl rfl) ?_
      have HH : dset (A 5) p = 2 ^ (A 5 4 % A 5 0) ||| 1 := by rw [dset, if_pos (by omega), if_pos c_47]
      rw [HH] at hr
      exact lp_X7_dreams hU hp h1 h0 hB h5 C E hr (A 5 0) 0 (by omega) (Or.inr rfl)
end
end
section
/-! a year, as a function of the yard -/
def andn (b d : Nat) : Nat := b &&& (63 ^^^ d)
theorem andn_eq : ∀ b, b < 64 → ∀ d, d < 64 → nI b &&& (nI d ^^^ (-1)) = nI (andn b d) := by decide +kernel
theorem andn_lt : ∀ b, b < 64 → ∀ d, d < 64 → andn b d < 64 := by decide +kernel
/-- a yard that was read -/
def Va (y : Nat → Nat) : Prop := (1 ≤ y 0 ∧ y 0 ≤ 6) ∧ (1 ≤ y 1 ∧ y 1 ≤ 9) ∧ (2 ≤ y 2 ∧ y 2 ≤ 9) ∧ (1 ≤ y 3 ∧ y 3 ≤ 5) ∧ y 5 < 2 ^ y 0 ∧
  (∀ p, p < 5 → (p < y 3 → 1 ≤ y (6 + p) ∧ y (6 + p) ≤ 5) ∧ (y 3 ≤ p → y (6 + p) = 0)) ∧ (∀ p, p < 5 → y (11 + p) ≤ 1 ∧ (y 3 ≤ p → y (11 + p) = 0)) ∧ (∀ p, p < 5 → y (16 + p) ≤ 1 ∧ (y 3 ≤ p → y (16 + p) = 0)) ∧
  (∀ p g, p < 5 → g < 6 → me y p g ≤ 27 ∧ (y 3 ≤ p ∨ y 0 ≤ g → me y p g = 0)) ∧ ∀ k, 51 ≤ k → y k = 0
theorem Va.k64 {y : Nat → Nat} (h : Va y) : y 5 < 64 := Nat.lt_of_lt_of_le h.2.2.2.2.1 (Nat.pow_le_pow_right (by decide) h.1.2 : 2 ^ y 0 ≤ 2 ^ 6)
theorem Va.lt {y : Nat → Nat} (h : Va y) (h4 : y 4 < 2000) (k : Nat) : y k < 2000 := by
  obtain ⟨a0, a1, a2, a3, a5, a6, a7, a8, a9, a10⟩ := id h
  have a5 := h.k64
  by_cases c1 : k < 6
  · match k, c1 with
    | 0, _ => omega
    | 1, _ => omega
    | 2, _ => omega
    | 3, _ => omega
    | 4, _ => omega
    | 5, _ => omega
  · by_cases c2 : k < 11
    · obtain ⟨p, rfl⟩ : ∃ p, k = 6 + p := ⟨k - 6, by omega⟩
      have := a6 p (by omega)
      by_cases hp : p < y 3
      · have := this.1 hp; omega
      · have := this.2 (by omega); omega
    · by_cases c3 : k < 16
      · obtain ⟨p, rfl⟩ : ∃ p, k = 11 + p := ⟨k - 11, by omega⟩
        have := a7 p (by omega); omega
      · by_cases c4 : k < 21
        · obtain ⟨p, rfl⟩ : ∃ p, k = 16 + p := ⟨k - 16, by omega⟩
          have := a8 p (by omega); omega
        · by_cases c5 : k < 51
          · have := (a9 ((k - 21) / 6) ((k - 21) % 6) (by omega) (by omega)).1
            have e : 21 + 6 * ((k - 21) / 6) + (k - 21) % 6 = k := by omega
            unfold me at this
            rw [e] at this
            omega
          · have := a10 k (by omega); omega
/-- memory outside the yard is 0 -/
theorem Va.out {y : Nat → Nat} (h : Va y) {k : Nat} (hk : 21 ≤ k) (ho : y 3 ≤ (k - 21) / 6 ∨ y 0 ≤ (k - 21) % 6) : y k = 0 := by
  obtain ⟨a0, a1, a2, a3, a5, a6, a7, a8, a9, a10⟩ := h
  by_cases c5 : k < 51
  · have := (a9 ((k - 21) / 6) ((k - 21) % 6) (by omega) (by omega)).2 ho
    have e : 21 + 6 * ((k - 21) / 6) + (k - 21) % 6 = k := by omega
    unfold me at this
    rw [e] at this
    exact this
  · exact a10 k (by omega)
/-- all dreams of the first n sleepers -/
def adn (y : Nat → Nat) : Nat → Nat
  | 0 => 0
  | p + 1 => adn y p ||| dr y p
abbrev ad (y : Nat → Nat) : Nat := adn y (y 3)
theorem adn_lt {y : Nat → Nat} (h1 : 1 ≤ y 0) (h6 : y 0 ≤ 6) : ∀ n, adn y n < 64
  | 0 => (by decide : (0 : Nat) < 64)
  | n + 1 => or64 (adn_lt h1 h6 n) (dr_lt h1 h6)
/-- digging, as far as grave g, sleeper p -/
def dgL (y : Nat → Nat) (lost g p : Nat) : Nat → Nat := fun k => if 21 ≤ k ∧ hs lost ((k - 21) % 6) ∧ ((k - 21) % 6 < g ∨ ((k - 21) % 6 = g ∧ (k - 21) / 6 < p)) then 0 else y k
def dg (y : Nat → Nat) (lost : Nat) : Nat → Nat := fun k => if 21 ≤ k ∧ hs lost ((k - 21) % 6) then 0 else y k
theorem dgL_lo {y : Nat → Nat} {lost g p k : Nat} (hk : k < 21) : dgL y lost g p k = y k := if_neg (fun h => by omega)
theorem dgL_0 {y : Nat → Nat} {lost : Nat} : dgL y lost 0 0 = y := by
  funext k
  exact if_neg (fun h => by omega)
theorem dgL_step {y : Nat → Nat} {lost g p : Nat} (hg : g < 6) (hh : hs lost g) : va_up (dgL y lost g p) (21 + 6 * p + g) 0 = dgL y lost g (p + 1) := by
  funext k
  unfold va_up dgL
  by_cases hk : k = 21 + 6 * p + g
  · subst hk
    have e1 : (21 + 6 * p + g - 21) % 6 = g := by omega
    have e2 : (21 + 6 * p + g - 21) / 6 = p := by omega
    rw [if_pos rfl, e1, e2, if_pos ⟨by omega, hh, Or.inr ⟨rfl, by omega⟩⟩]
  · rw [if_neg hk]
    by_cases c : 21 ≤ k ∧ hs lost ((k - 21) % 6) ∧ ((k - 21) % 6 < g ∨ ((k - 21) % 6 = g ∧ (k - 21) / 6 < p))
    · rw [if_pos c, if_pos ⟨c.1, c.2.1, by omega⟩]
    · rw [if_neg c, if_neg]
      intro d
      exact c ⟨d.1, d.2.1, by omega⟩
theorem dgL_row {y : Nat → Nat} {lost g : Nat} (h : Va y) {p : Nat} (hp : y 3 ≤ p ∨ ¬ hs lost g) : dgL y lost g p = dgL y lost (g + 1) 0 := by
  funext k
  unfold dgL
  by_cases c : 21 ≤ k ∧ hs lost ((k - 21) % 6) ∧ ((k - 21) % 6 < g ∨ ((k - 21) % 6 = g ∧ (k - 21) / 6 < p))
  · rw [if_pos c, if_pos ⟨c.1, c.2.1, by omega⟩]
  · rw [if_neg c]
    by_cases d : 21 ≤ k ∧ hs lost ((k - 21) % 6) ∧ ((k - 21) % 6 < g + 1 ∨ ((k - 21) % 6 = g + 1 ∧ (k - 21) / 6 < 0))
    · rw [if_pos d]
      have e : (k - 21) % 6 = g := by
        rcases Nat.lt_or_ge ((k - 21) % 6) g with z | z
        · exact absurd ⟨d.1, d.2.1, Or.inl z⟩ c
        · omega
      rcases hp with hp | hp
      · refine h.out d.1 (Or.inl ?_)
        rcases Nat.lt_or_ge ((k - 21) / 6) p with z | z
        · exact absurd ⟨d.1, d.2.1, Or.inr ⟨e, z⟩⟩ c
        · omega
      · exact absurd (e ▸ d.2.1) hp
    · rw [if_neg d]
theorem dgL_end {y : Nat → Nat} {lost : Nat} (h : Va y) : dgL y lost (y 0) 0 = dg y lost := by
  funext k
  unfold dgL dg
  by_cases c : 21 ≤ k ∧ hs lost ((k - 21) % 6)
  · rw [if_pos c]
    by_cases d : (k - 21) % 6 < y 0
    · rw [if_pos ⟨c.1, c.2, Or.inl d⟩]
    · rw [if_neg (fun z => by omega)]
      exact h.out c.1 (Or.inr (by omega))
  · rw [if_neg c, if_neg (fun z => c ⟨z.1, z.2.1⟩)]
/-- fading, as far as sleeper p, grave g -/
def fdL (y : Nat → Nat) (p g : Nat) : Nat → Nat := fun k =>
  if 21 ≤ k then (if ((k - 21) / 6 < p ∨ ((k - 21) / 6 = p ∧ (k - 21) % 6 < g)) ∧ y (11 + (k - 21) / 6) = 0 then less y (y k) else y k)
  else if (11 ≤ k ∧ k < 11 + p) ∨ (16 ≤ k ∧ k < 16 + p) then 0 else y k
def fd (y : Nat → Nat) : Nat → Nat := fun k => if 21 ≤ k then (if y (11 + (k - 21) / 6) = 0 then less y (y k) else y k) else if 11 ≤ k then 0 else y k
theorem less_0 (y : Nat → Nat) : less y 0 = 0 := if_pos rfl
theorem fdL_lo {y : Nat → Nat} {p g k : Nat} (hk : k < 11) : fdL y p g k = y k := by
  unfold fdL
  rw [if_neg (by omega), if_neg (by omega)]
theorem fdL_0 {y : Nat → Nat} : fdL y 0 0 = y := by
  funext k
  unfold fdL
  by_cases h : 21 ≤ k
  · rw [if_pos h, if_neg (fun z => by omega)]
  · rw [if_neg h, if_neg (fun z => by omega)]
theorem fdL_sup {y : Nat → Nat} {p g : Nat} (hp : p < 5) : fdL y p g (11 + p) = y (11 + p) := by
  unfold fdL
  rw [if_neg (by omega), if_neg (by omega)]
theorem fdL_mem {y : Nat → Nat} {p g : Nat} (hg : g < 6) : fdL y p g (21 + 6 * p + g) = me y p g := by
  unfold fdL
  rw [if_pos (by omega), if_neg (fun z => by omega)]
theorem fdL_step {y : Nat → Nat} {p g : Nat} (hg : g < 6) (hz : y (11 + p) = 0) : va_up (fdL y p g) (21 + 6 * p + g) (less y (me y p g)) = fdL y p (g + 1) := by
  funext k
  unfold va_up
  by_cases hk : k = 21 + 6 * p + g
  · subst hk
    have e1 : (21 + 6 * p + g - 21) % 6 = g := by omega
    have e2 : (21 + 6 * p + g - 21) / 6 = p := by omega
    unfold fdL
    rw [if_pos rfl, if_pos (by omega), e1, e2, if_pos ⟨Or.inr ⟨rfl, by omega⟩, hz⟩]
  · rw [if_neg hk]
    unfold fdL
    by_cases h : 21 ≤ k
    · rw [if_pos h, if_pos h]
      by_cases c : ((k - 21) / 6 < p ∨ ((k - 21) / 6 = p ∧ (k - 21) % 6 < g)) ∧ y (11 + (k - 21) / 6) = 0
      · rw [if_pos c, if_pos ⟨by omega, c.2⟩]
      · rw [if_neg c, if_neg (fun z => c ⟨by omega, z.2⟩)]
    · rw [if_neg h, if_neg h]
theorem fdL_row {y : Nat → Nat} {p g : Nat} (h : Va y) (hp : p < 5) (hg : y 0 ≤ g ∨ y (11 + p) ≠ 0) : va_up (va_up (fdL y p g) (11 + p) 0) (16 + p) 0 = fdL y (p + 1) 0 := by
  funext k
  unfold va_up fdL
  by_cases h1 : k = 16 + p
  · rw [if_pos h1, if_neg (by omega), if_pos (by omega)]
  · rw [if_neg h1]
    by_cases h2 : k = 11 + p
    · rw [if_pos h2, if_neg (by omega), if_pos (by omega)]
    · rw [if_neg h2]
      by_cases h3 : 21 ≤ k
      · rw [if_pos h3, if_pos h3]
        by_cases c : ((k - 21) / 6 < p ∨ ((k - 21) / 6 = p ∧ (k - 21) % 6 < g)) ∧ y (11 + (k - 21) / 6) = 0
        · rw [if_pos c, if_pos ⟨by omega, c.2⟩]
        · rw [if_neg c]
          by_cases d : ((k - 21) / 6 < p + 1 ∨ ((k - 21) / 6 = p + 1 ∧ (k - 21) % 6 < 0)) ∧ y (11 + (k - 21) / 6) = 0
          · rw [if_pos d]
            have e : (k - 21) / 6 = p := by
              rcases Nat.lt_or_ge ((k - 21) / 6) p with z | z
              · exact absurd ⟨Or.inl z, d.2⟩ c
              · omega
            rcases hg with hg | hg
            · have hz : y k = 0 := h.out h3 (Or.inr (by
                rcases Nat.lt_or_ge ((k - 21) % 6) g with z | z
                · exact absurd ⟨Or.inr ⟨e, z⟩, d.2⟩ c
                · omega))
              rw [hz, less_0]
            · exact absurd (e ▸ d.2) hg
          · rw [if_neg d]
      · rw [if_neg h3, if_neg h3]
        by_cases c : (11 ≤ k ∧ k < 11 + p) ∨ (16 ≤ k ∧ k < 16 + p)
        · rw [if_pos c, if_pos (by omega)]
        · rw [if_neg c, if_neg (by omega)]
theorem fdL_end {y : Nat → Nat} (h : Va y) : fdL y (y 3) 0 = fd y := by
  have h3 := h.2.2.2.1
  funext k
  unfold fdL fd
  by_cases c : 21 ≤ k
  · rw [if_pos c, if_pos c]
    by_cases d : y (11 + (k - 21) / 6) = 0
    · rw [if_pos d]
      by_cases z : (k - 21) / 6 < y 3
      · rw [if_pos ⟨Or.inl z, d⟩]
      · rw [if_neg (fun q => by omega), h.out c (Or.inl (by omega)), less_0]
    · rw [if_neg d, if_neg (fun q => d q.2)]
  · rw [if_neg c, if_neg c]
    by_cases d : 11 ≤ k
    · rw [if_pos d]
      by_cases z : (11 ≤ k ∧ k < 11 + y 3) ∨ (16 ≤ k ∧ k < 16 + y 3)
      · rw [if_pos z]
      · rw [if_neg z]
        by_cases w : k < 16
        · have := (h.2.2.2.2.2.2.1 (k - 11) (by omega)).2 (by omega)
          rw [show 11 + (k - 11) = k by omega] at this
          exact this
        · have := (h.2.2.2.2.2.2.2.1 (k - 16) (by omega)).2 (by omega)
          rw [show 16 + (k - 16) = k by omega] at this
          exact this
    · rw [if_neg d, if_neg (by omega)]
/-- what is dug in a year, and the year -/
def lostY (y : Nat → Nat) : Nat := andn (y 5) (ad y)
def y1 (y : Nat → Nat) : Nat → Nat := va_up (dg y (lostY y)) 5 (y 5 &&& ad y)
def yr (y : Nat → Nat) : Nat → Nat := va_up (fd (y1 y)) 4 (y 4 + 1)
theorem dg_lo {y : Nat → Nat} {lost k : Nat} (hk : k < 21) : dg y lost k = y k := if_neg (fun h => by omega)
theorem dg_le {y : Nat → Nat} {lost k : Nat} : dg y lost k ≤ y k := by
  unfold dg
  split
  · exact Nat.zero_le _
  · exact Nat.le_refl _
theorem y1_5 (y : Nat → Nat) : y1 y 5 = y 5 &&& ad y := up_eq _ _ _
theorem y1_ne {y : Nat → Nat} {k : Nat} (h : k ≠ 5) : y1 y k = dg y (lostY y) k := if_neg h
theorem y1_lo {y : Nat → Nat} {k : Nat} (h : k ≠ 5) (h2 : k < 21) : y1 y k = y k := (y1_ne h).trans (dg_lo h2)
theorem Va.y1 {y : Nat → Nat} (h : Va y) : Va (y1 y) := by
  obtain ⟨a0, a1, a2, a3, a5, a6, a7, a8, a9, a10⟩ := h
  refine ⟨by rw [y1_lo (by decide) (by decide)]; exact a0, by rw [y1_lo (by decide) (by decide)]; exact a1, by rw [y1_lo (by decide) (by decide)]; exact a2, by rw [y1_lo (by decide) (by decide)]; exact a3, ?_, ?_, ?_, ?_, ?_, ?_⟩
  · rw [y1_5, y1_lo (by decide) (by decide)]
    exact Nat.lt_of_le_of_lt Nat.and_le_left a5
  · intro p hp
    rw [y1_lo (k := 6 + p) (by omega) (by omega), y1_lo (k := 3) (by decide) (by decide)]
    exact a6 p hp
  · intro p hp
    rw [y1_lo (k := 11 + p) (by omega) (by omega), y1_lo (k := 3) (by decide) (by decide)]
    exact a7 p hp
  · intro p hp
    rw [y1_lo (k := 16 + p) (by omega) (by omega), y1_lo (k := 3) (by decide) (by decide)]
    exact a8 p hp
  · intro p g hp hg
    unfold me
    rw [y1_ne (by omega), y1_lo (by decide) (by decide), y1_lo (by decide) (by decide)]
    have h1 := a9 p g hp hg
    have h2 : dg y (lostY y) (21 + 6 * p + g) ≤ y (21 + 6 * p + g) := dg_le
    unfold me at h1
    exact ⟨by omega, fun z => by have := h1.2 z; omega⟩
  · intro k hk
    rw [y1_ne (by omega)]
    have h2 : dg y (lostY y) k ≤ y k := dg_le
    have := a10 k hk
    omega
theorem less_le (y : Nat → Nat) (m : Nat) : less y m ≤ m := by
  unfold less
  split
  · omega
  · exact Nat.le_trans (Nat.sub_le _ _) (Nat.sub_le _ _)
theorem fd_lo {y : Nat → Nat} {k : Nat} (h : k < 11) : fd y k = y k := by
  unfold fd
  rw [if_neg (by omega), if_neg (by omega)]
theorem fd_mid {y : Nat → Nat} {k : Nat} (h : 11 ≤ k) (h2 : k < 21) : fd y k = 0 := by
  unfold fd
  rw [if_neg (by omega), if_pos h]
theorem fd_le {y : Nat → Nat} {k : Nat} : fd y k ≤ y k := by
  unfold fd
  split
  · split
    · exact less_le _ _
    · exact Nat.le_refl _
  · split
    · exact Nat.zero_le _
    · exact Nat.le_refl _
theorem Va.fade {y : Nat → Nat} (h : Va y) (n : Nat) : Va (va_up (fd y) 4 n) := by
  obtain ⟨a0, a1, a2, a3, a5, a6, a7, a8, a9, a10⟩ := h
  have lo : ∀ k, k ≠ 4 → k < 11 → va_up (fd y) 4 n k = y k := fun k h1 h2 => (up_ne _ _ h1).trans (fd_lo h2)
  have mid : ∀ k, 11 ≤ k → k < 21 → va_up (fd y) 4 n k = 0 := fun k h1 h2 => (up_ne _ _ (by omega)).trans (fd_mid h1 h2)
  refine ⟨by rw [lo 0 (by decide) (by decide)]; exact a0, by rw [lo 1 (by decide) (by decide)]; exact a1, by rw [lo 2 (by decide) (by decide)]; exact a2, by rw [lo 3 (by decide) (by decide)]; exact a3, ?_, ?_, ?_, ?_, ?_, ?_⟩
  · rw [lo 5 (by decide) (by decide), lo 0 (by decide) (by decide)]
    exact a5
  · intro p hp
    rw [lo (6 + p) (by omega) (by omega), lo 3 (by decide) (by decide)]
    exact a6 p hp
  · intro p hp
    rw [mid (11 + p) (by omega) (by omega)]
    exact ⟨by decide, fun _ => rfl⟩
  · intro p hp
    rw [mid (16 + p) (by omega) (by omega)]
    exact ⟨by decide, fun _ => rfl⟩
  · intro p g hp hg
    unfold me
    rw [up_ne _ _ (by omega), lo 3 (by decide) (by decide), lo 0 (by decide) (by decide)]
    have h1 := a9 p g hp hg
    have h2 : fd y (21 + 6 * p + g) ≤ y (21 + 6 * p + g) := fd_le
    unfold me at h1
    exact ⟨by omega, fun z => by have := h1.2 z; omega⟩
  · intro k hk
    rw [up_ne _ _ (by omega)]
    have h2 : fd y k ≤ y k := fd_le
    have := a10 k hk
    omega
theorem Va.yr {y : Nat → Nat} (h : Va y) : Va (yr y) := h.y1.fade _
theorem yr_4 (y : Nat → Nat) : yr y 4 = y 4 + 1 := up_eq _ _ _
theorem up_id {α : Type} (f : Nat → α) (k : Nat) : va_up f k (f k) = f := by
  funext j
  unfold va_up
  split
  · rename_i h
    rw [h]
  · rfl
theorem cpy_0 {α : Type} (f g : Nat → α) (sp dp : Nat) : va_cpy f g sp dp 0 = g := by
  funext k
  exact if_neg (fun h => by omega)
theorem cpy_step {α : Type} (f g : Nat → α) (sp dp n : Nat) : va_up (va_cpy f g sp dp n) (dp + n) (f (sp + n)) = va_cpy f g sp dp (n + 1) := by
  funext k
  unfold va_up va_cpy
  by_cases h : k = dp + n
  · subst h
    rw [if_pos rfl, if_pos ⟨by omega, by omega⟩]
    congr 1
    omega
  · rw [if_neg h]
    by_cases c : dp ≤ k ∧ k < dp + n
    · rw [if_pos c, if_pos ⟨c.1, by omega⟩]
    · rw [if_neg c, if_neg (fun z => c ⟨z.1, by omega⟩)]
theorem cpy_out {α : Type} {f g : Nat → α} {sp dp n k : Nat} (h : k < dp ∨ dp + n ≤ k) : va_cpy f g sp dp n k = g k := if_neg (fun z => by omega)
theorem cpy_in {α : Type} {f g : Nat → α} {sp dp n k : Nat} (h : dp ≤ k) (h2 : k < dp + n) : va_cpy f g sp dp n k = f (sp + (k - dp)) := if_pos ⟨h, h2⟩
/-! acts, suppers, sums -/
def ntI (i : Nat → Nat) : Nat → Nat := va_up i 17 (if i 17 < 24 then i 17 + 1 else 24)
def ntA (i : Nat → Nat) (A : Nat → Nat → Nat) : Nat → Nat := if i 17 < 24 then va_cpy (A 5) (A 16) 0 (51 * i 17) 51 else va_cpy (A 5) (va_cpy (A 16) (A 16) 51 0 1173) 0 1173 51
def spn (y : Nat → Nat) : Nat → Nat
  | 0 => 0
  | p + 1 => spn y p ||| y (11 + p) * 2 ^ p
theorem spn_lt {y : Nat → Nat} (h : ∀ p, p < 5 → y (11 + p) ≤ 1) : ∀ n, n ≤ 5 → spn y n < 32
  | 0, _ => (by decide : (0 : Nat) < 32)
  | n + 1, hn => by
    refine Nat.or_lt_two_pow (n := 5) (spn_lt h n (by omega)) ?_
    have h1 := h n (by omega)
    have h2 : 2 ^ n ≤ 16 := Nat.pow_le_pow_right (by decide) (by omega : n ≤ 4)
    calc y (11 + n) * 2 ^ n ≤ 1 * 16 := Nat.mul_le_mul h1 h2
      _ < 2 ^ 5 := by decide
theorem Va.sup {y : Nat → Nat} (h : Va y) : ∀ p, p < 5 → y (11 + p) ≤ 1 := fun p hp => (h.2.2.2.2.2.2.1 p hp).1
theorem Va.fev {y : Nat → Nat} (h : Va y) : ∀ p, p < 5 → y (16 + p) ≤ 1 := fun p hp => (h.2.2.2.2.2.2.2.1 p hp).1
theorem Va.mem {y : Nat → Nat} (h : Va y) {p g : Nat} (hp : p < 5) (hg : g < 6) : me y p g ≤ 27 := (h.2.2.2.2.2.2.2.2.1 p g hp hg).1
/-- memory of one, the first n graves -/
def mbn (y : Nat → Nat) (p : Nat) : Nat → Nat
  | 0 => 0
  | g + 1 => mbn y p g + me y p g
theorem mbn_lt {y : Nat → Nat} {p : Nat} (h : Va y) (hp : p < 5) : ∀ n, n ≤ 6 → mbn y p n ≤ 27 * n
  | 0, _ => Nat.le_refl _
  | n + 1, hn => by
    have h1 := mbn_lt h hp n (by omega)
    have h2 := h.mem hp (by omega : n < 6)
    unfold mbn
    omega
/-- who dreams of g -/
def dwn (y : Nat → Nat) (g : Nat) : Nat → Nat
  | 0 => 0
  | p + 1 => dwn y g p ||| (if hs (dr y p) g then 2 ^ p else 0)
/-- the first with most memory, of the first n + 1 graves -/
def mx (y : Nat → Nat) (p : Nat) : Nat → Nat
  | 0 => 0
  | g + 1 => if me y p (mx y p g) < me y p (g + 1) then g + 1 else mx y p g
theorem mx_le {y : Nat → Nat} {p : Nat} : ∀ n, mx y p n ≤ n
  | 0 => Nat.le_refl _
  | n + 1 => by
    unfold mx
    have := mx_le (y := y) (p := p) n
    split <;> omega
/-- memory after n years -/
def lsn (y : Nat → Nat) (m : Nat) : Nat → Nat
  | 0 => m
  | n + 1 => less y (lsn y m n)
theorem lsn_le (y : Nat → Nat) (m : Nat) : ∀ n, lsn y m n ≤ m
  | 0 => Nat.le_refl _
  | n + 1 => Nat.le_trans (less_le y _) (lsn_le y m n)
theorem isx_out {x : Int32} {n : Nat} (hn : n < 2 ^ 31) (h : ¬ isx x n) : x.toInt < 0 ∨ ((n : Int) - 1) < x.toInt := by
  unfold isx at h
  rw [Int32.le_iff_toInt_le, Int32.lt_iff_toInt_lt, nI_int hn] at h
  have e : (0 : Int32).toInt = 0 := rfl
  rw [e] at h
  omega
theorem up_sup {y : Nat → Nat} {s : Nat} (h : ∀ p, p < 5 → y (11 + p) ≤ 1) : ∀ p, p < 5 → va_up y (11 + s) 1 (11 + p) ≤ 1 := by
  intro p hp
  unfold va_up
  split
  · decide
  · exact h p hp
theorem up_lt {y : Nat → Nat} {s v n : Nat} (h : ∀ k, y k < n) (hv : v < n) : ∀ k, va_up y s v k < n := by
  intro k
  unfold va_up
  split
  · exact hv
  · exact h k
end
section
section
variable {l : Launch} {G : qG} {U : List va_E} {i : Nat → Nat} {A : Nat → Nat → Nat} {B : Nat → Nat → Int32} {h : List va_E}
theorem lp_X7_allDreams {X : qX} {r : Option Value} (hU : U.length = 122) (h1 : 1 ≤ A 5 0) (h0 : A 5 0 ≤ 6) (h3 : A 5 3 ≤ 5) (hB : ∀ k, A 5 k < 2000) (h5 : A 5 5 < 64) (C : qC X G cX7_allDreams 3 RX7 3) (E : qE X G (some .int) 0 0 r (hm G U i A B)) (hr : r = some (.int (nI (ad (A 5))))) : ∀ (n p : Nat), p + n = A 5 3 → Y X G 3 0 0 4 [some (qr G 122), some (.int (nI (adn (A 5) p))), some (.int (nI p))] [] (hm G U i A B) := by
  intro n
  induction n with
  | zero =>
    intro p hp
    obtain rfl : p = A 5 3 := by omega
    refine y_iload_n C D_X7_allDreams_4 rfl ?_
    refine y_aload_n C D_X7_allDreams_5 rfl ?_
    refine y_get C D_X7_allDreams_6 fl_X7_19 (hm_o hU) rfl ?_
    refine y_iconst C D_X7_allDreams_9 ki_3 ?_
    refine z_ild C D_X7_allDreams_10 (hm_st hU) (by omega) (by decide) rfl ?_
    refine y_icmp_ge C D_X7_allDreams_11 (n_le (by omega) (by omega)) (fun c_11 => ?_) (fun c_11 => absurd (Nat.le_refl _) c_11)
    refine y_iload_n C D_X7_allDreams_28 rfl ?_
    exact y_iret C E D_X7_allDreams_29 (hr.symm) (rfl)
  | succ n ih =>
    intro p hp
    refine y_iload_n C D_X7_allDreams_4 rfl ?_
    refine y_aload_n C D_X7_allDreams_5 rfl ?_
    refine y_get C D_X7_allDreams_6 fl_X7_19 (hm_o hU) rfl ?_
    refine y_iconst C D_X7_allDreams_9 ki_3 ?_
    refine z_ild C D_X7_allDreams_10 (hm_st hU) (by omega) (by decide) rfl ?_
    refine y_icmp_ge C D_X7_allDreams_11 (n_le (by omega) (by omega)) (fun c_11 => absurd c_11 (by omega)) (fun c_11 => ?_)
    refine y_iload_n C D_X7_allDreams_14 rfl ?_
    refine y_aload_n C D_X7_allDreams_15 rfl ?_
    refine y_iload_n C D_X7_allDreams_16 rfl ?_
    refine z_callV C D_X7_allDreams_17 lk_X7_152 (c_X7_dreams hU (by omega) h1 h0 hB h5) (hm_o hU) rfl rfl (Nat.le_of_ble_eq_true rfl) (Nat.le_of_ble_eq_true rfl) ⟨Nat.zero_le _, Nat.zero_le _⟩ ?_
    refine z_ior C D_X7_allDreams_20 ?_
    refine y_istore_n C D_X7_allDreams_21 (by decide) (qok_s rfl rfl) ?_
    refine z_iinc (n := 1) C D_X7_allDreams_22 rfl (by decide) (qok_s rfl rfl) ?_
    refine y_goto C D_X7_allDreams_25 ?_
    exact ih (p + 1) (by omega)
theorem c_X7_allDreams (hU : U.length = 122) (h1 : 1 ≤ A 5 0) (h0 : A 5 0 ≤ 6) (h3 : A 5 3 ≤ 5) (hB : ∀ k, A 5 k < 2000) (h5 : A 5 5 < 64) : Ct l G yX7_allDreams 3 [qr G 122] (hm G U i A B) (some (.int (nI (ad (A 5))))) (hm G U i A B) := by
  refine ctm_intro (maxL := 3) kw_X7_allDreams (by decide) (by decide) [some (qr G 122), none, none] rfl (Nat.le_of_ble_eq_true rfl) ?_
  intro X _ hcl hsl _ _ C E
  refine y_iconst C D_X7_allDreams_0 ki_0 ?_
  refine y_istore_n C D_X7_allDreams_1 (by decide) (qok_s rfl rfl) ?_
  refine y_iconst C D_X7_allDreams_2 ki_0 ?_
  refine y_istore_n C D_X7_allDreams_3 (by decide) (qok_s rfl rfl) ?_
  exact lp_X7_allDreams hU h1 h0 h3 hB h5 C E rfl (A 5 3) 0 (by omega)
theorem lp_X7_oneYear_19 {X : qX} {y : Nat → Nat} {d lost : Nat} (hU : U.length = 122) (hV : Va y) (h4 : y 4 < 1999) (hd : d < 64) (hl : andn (y 5) d = lost) (C : qC X G cX7_oneYear 4 RX7 4) {g : Nat} (hg : g < y 0) (K : Y X G 4 0 0 67 [some (qr G 122), some (.int (nI (d))), some (.int (nI (g))), none] [] (hm G U i (va_up A 5 (dgL y lost (g + 1) 0)) B)) : ∀ (n p : Nat) (A' : Nat → Nat → Nat), p + n = y 3 → A' = va_up A 5 (dgL y lost g p) → Y X G 4 0 0 19 [some (qr G 122), some (.int (nI (d))), some (.int (nI (g))), some (.int (nI (p)))] [] (hm G U i A' B) := by
  intro n
  induction n with
  | zero =>
    intro p A' hp hA
    have hA5 : A' 5 = dgL y lost g p := by rw [hA]; exact up_eq _ _ _
    have e0 : A' 5 0 = y 0 := by rw [hA5]; exact dgL_lo (by decide)
    have e3 : A' 5 3 = y 3 := by rw [hA5]; exact dgL_lo (by decide)
    have e5 : A' 5 5 = y 5 := by rw [hA5]; exact dgL_lo (by decide)
    have v0 := hV.1
    have v3 := hV.2.2.2.1
    have v5 := hV.k64
    refine y_iload_n C D_X7_oneYear_19 rfl ?_
    refine y_aload_n C D_X7_oneYear_20 rfl ?_
    refine y_get C D_X7_oneYear_21 fl_X7_19 (hm_o hU) rfl ?_
    refine y_iconst C D_X7_oneYear_24 ki_3 ?_
    refine z_ild C D_X7_oneYear_25 (hm_st hU) (by omega) (by decide) rfl ?_
    refine y_icmp_ge C D_X7_oneYear_26 (n_le (by omega) (by omega)) (fun c_26 => ?_) (fun c_26 => absurd c_26 (by omega))
    refine y_fg 3 ?_
    rw [hA, dgL_row hV (Or.inl (by omega))]
    exact K
  | succ n ih =>
    intro p A' hp hA
    have hA5 : A' 5 = dgL y lost g p := by rw [hA]; exact up_eq _ _ _
    have e0 : A' 5 0 = y 0 := by rw [hA5]; exact dgL_lo (by decide)
    have e3 : A' 5 3 = y 3 := by rw [hA5]; exact dgL_lo (by decide)
    have e5 : A' 5 5 = y 5 := by rw [hA5]; exact dgL_lo (by decide)
    have v0 := hV.1
    have v3 := hV.2.2.2.1
    have v5 := hV.k64
    have hlt : lost < 64 := by rw [← hl]; exact andn_lt _ v5 _ hd
    refine y_iload_n C D_X7_oneYear_19 rfl ?_
    refine y_aload_n C D_X7_oneYear_20 rfl ?_
    refine y_get C D_X7_oneYear_21 fl_X7_19 (hm_o hU) rfl ?_
    refine y_iconst C D_X7_oneYear_24 ki_3 ?_
    refine z_ild C D_X7_oneYear_25 (hm_st hU) (by omega) (by decide) rfl ?_
    refine y_icmp_ge C D_X7_oneYear_26 (n_le (by omega) (by omega)) (fun c_26 => absurd c_26 (by omega)) (fun c_26 => ?_)
    refine y_aload_n C D_X7_oneYear_29 rfl ?_
    refine y_get C D_X7_oneYear_30 fl_X7_19 (hm_o hU) rfl ?_
    refine y_iconst C D_X7_oneYear_33 ki_5 ?_
    refine z_ild C D_X7_oneYear_34 (hm_st hU) (by omega) (by decide) rfl ?_
    refine y_iload_n C D_X7_oneYear_35 rfl ?_
    refine y_iconst C D_X7_oneYear_36 ki_m1 ?_
    refine y_ixor C D_X7_oneYear_37 ?_
    refine y_iand C D_X7_oneYear_38 ?_
    rw [e5]
    refine y_top ((andn_eq _ v5 _ hd).trans (congrArg nI hl)) ?_
    refine y_iload_n C D_X7_oneYear_39 rfl ?_
    refine z_callS C D_X7_oneYear_40 lk_X7_142 (c_X7_has (by omega) (by omega)) rfl rfl (Nat.le_of_ble_eq_true rfl) (Nat.le_of_ble_eq_true rfl) ⟨Nat.zero_le _, Nat.zero_le _⟩ ?_
    refine z_ifeqB C D_X7_oneYear_43 (fun c_43 => ?_) (fun c_43 => ?_)
    · refine y_fg 3 ?_
      rw [hA, dgL_row hV (Or.inr c_43)]
      exact K
    · refine y_aload_n C D_X7_oneYear_46 rfl ?_
      refine y_get C D_X7_oneYear_47 fl_X7_19 (hm_o hU) rfl ?_
      refine y_bipush C D_X7_oneYear_50 kb_21 ?_
      refine y_bipush C D_X7_oneYear_52 kb_6 ?_
      refine y_iload_n C D_X7_oneYear_54 rfl ?_
      refine z_imul C D_X7_oneYear_55 ?_
      refine z_iadd C D_X7_oneYear_56 ?_
      refine y_iload_n C D_X7_oneYear_57 rfl ?_
      refine z_iadd C D_X7_oneYear_58 ?_
      refine y_iconst C D_X7_oneYear_59 ki_0 ?_
      refine z_ist C D_X7_oneYear_60 (hm_st hU) (by omega) (by decide) (hm_wst hU _ _) ?_
      refine z_iinc (n := 1) C D_X7_oneYear_61 rfl (by decide) (qok_s rfl rfl) ?_
      refine y_goto C D_X7_oneYear_64 ?_
      exact ih (p + 1) _ (by omega) (by rw [hA5, hA, bx_uu, dgL_step (by omega) c_43])
theorem lp_X7_oneYear_7 {X : qX} {y : Nat → Nat} {d lost : Nat} (hU : U.length = 122) (hV : Va y) (h4 : y 4 < 1999) (hd : d < 64) (hl : andn (y 5) d = lost) (C : qC X G cX7_oneYear 4 RX7 4) (K : Y X G 4 0 0 73 [some (qr G 122), some (.int (nI (d))), none, none] [] (hm G U i (va_up A 5 (dg y lost)) B)) : ∀ (n g : Nat) (A' : Nat → Nat → Nat), g + n = y 0 → A' = va_up A 5 (dgL y lost g 0) → Y X G 4 0 0 7 [some (qr G 122), some (.int (nI (d))), some (.int (nI (g))), none] [] (hm G U i A' B) := by
  intro n
  induction n with
  | zero =>
    intro g A' hg hA
    have hA5 : A' 5 = dgL y lost g 0 := by rw [hA]; exact up_eq _ _ _
    have e0 : A' 5 0 = y 0 := by rw [hA5]; exact dgL_lo (by decide)
    have e3 : A' 5 3 = y 3 := by rw [hA5]; exact dgL_lo (by decide)
    have e5 : A' 5 5 = y 5 := by rw [hA5]; exact dgL_lo (by decide)
    have v0 := hV.1
    have v3 := hV.2.2.2.1
    have v5 := hV.k64
    refine y_iload_n C D_X7_oneYear_7 rfl ?_
    refine y_aload_n C D_X7_oneYear_8 rfl ?_
    refine y_get C D_X7_oneYear_9 fl_X7_19 (hm_o hU) rfl ?_
    refine y_iconst C D_X7_oneYear_12 ki_0 ?_
    refine z_ild C D_X7_oneYear_13 (hm_st hU) (by omega) (by decide) rfl ?_
    refine y_icmp_ge C D_X7_oneYear_14 (n_le (by omega) (by omega)) (fun c_14 => ?_) (fun c_14 => absurd c_14 (by omega))
    refine y_fg 2 ?_
    obtain rfl : g = y 0 := by omega
    rw [hA, dgL_end hV]
    exact K
  | succ n ih =>
    intro g A' hg hA
    have hA5 : A' 5 = dgL y lost g 0 := by rw [hA]; exact up_eq _ _ _
    have e0 : A' 5 0 = y 0 := by rw [hA5]; exact dgL_lo (by decide)
    have e3 : A' 5 3 = y 3 := by rw [hA5]; exact dgL_lo (by decide)
    have e5 : A' 5 5 = y 5 := by rw [hA5]; exact dgL_lo (by decide)
    have v0 := hV.1
    have v3 := hV.2.2.2.1
    have v5 := hV.k64
    have K2 : Y X G 4 0 0 67 [some (qr G 122), some (.int (nI (d))), some (.int (nI (g))), none] [] (hm G U i (va_up A 5 (dgL y lost (g + 1) 0)) B) := by
      refine z_iinc (n := 1) C D_X7_oneYear_67 rfl (by decide) (qok_s rfl rfl) ?_
      refine y_goto C D_X7_oneYear_70 ?_
      exact ih (g + 1) _ (by omega) rfl
    refine y_iload_n C D_X7_oneYear_7 rfl ?_
    refine y_aload_n C D_X7_oneYear_8 rfl ?_
    refine y_get C D_X7_oneYear_9 fl_X7_19 (hm_o hU) rfl ?_
    refine y_iconst C D_X7_oneYear_12 ki_0 ?_
    refine z_ild C D_X7_oneYear_13 (hm_st hU) (by omega) (by decide) rfl ?_
    refine y_icmp_ge C D_X7_oneYear_14 (n_le (by omega) (by omega)) (fun c_14 => absurd c_14 (by omega)) (fun c_14 => ?_)
    refine y_iconst C D_X7_oneYear_17 ki_0 ?_
    refine y_istore_n C D_X7_oneYear_18 (by decide) (qok_s rfl rfl) ?_
    exact lp_X7_oneYear_19 hU hV h4 hd hl C (by omega) K2 (y 3) 0 A' (by omega) hA
theorem lp_X7_oneYear_97 {X : qX} {z : Nat → Nat} {d : Nat} (hU : U.length = 122) (hV : Va z) (h4 : z 4 < 1999) (C : qC X G cX7_oneYear 4 RX7 4) {p : Nat} (hp : p < z 3) (K : ∀ g, (z 0 ≤ g ∨ z (11 + p) ≠ 0) → Y X G 4 0 0 149 [some (qr G 122), some (.int (nI (d))), some (.int (nI (p))), none] [] (hm G U i (va_up A 5 (fdL z p g)) B)) : ∀ (n g : Nat) (A' : Nat → Nat → Nat), g + n = z 0 → A' = va_up A 5 (fdL z p g) → Y X G 4 0 0 97 [some (qr G 122), some (.int (nI (d))), some (.int (nI (p))), some (.int (nI (g)))] [] (hm G U i A' B) := by
  intro n
  induction n with
  | zero =>
    intro g A' hg hA
    have hA5 : A' 5 = fdL z p g := by rw [hA]; exact up_eq _ _ _
    have e0 : A' 5 0 = z 0 := by rw [hA5]; exact fdL_lo (by decide)
    have e2 : A' 5 2 = z 2 := by rw [hA5]; exact fdL_lo (by decide)
    have e3 : A' 5 3 = z 3 := by rw [hA5]; exact fdL_lo (by decide)
    have v0 := hV.1
    have v2 := hV.2.2.1
    have v3 := hV.2.2.2.1

    refine y_iload_n C D_X7_oneYear_97 rfl ?_
    refine y_aload_n C D_X7_oneYear_98 rfl ?_
    refine y_get C D_X7_oneYear_99 fl_X7_19 (hm_o hU) rfl ?_
    refine y_iconst C D_X7_oneYear_102 ki_0 ?_
    refine z_ild C D_X7_oneYear_103 (hm_st hU) (by omega) (by decide) rfl ?_
    refine y_icmp_ge C D_X7_oneYear_104 (n_le (by omega) (by omega)) (fun c_104 => ?_) (fun c_104 => absurd c_104 (by omega))
    refine y_fg 3 ?_
    rw [hA]
    exact K g (Or.inl (by omega))
  | succ n ih =>
    intro g A' hg hA
    have hA5 : A' 5 = fdL z p g := by rw [hA]; exact up_eq _ _ _
    have e0 : A' 5 0 = z 0 := by rw [hA5]; exact fdL_lo (by decide)
    have e2 : A' 5 2 = z 2 := by rw [hA5]; exact fdL_lo (by decide)
    have e3 : A' 5 3 = z 3 := by rw [hA5]; exact fdL_lo (by decide)
    have v0 := hV.1
    have v2 := hV.2.2.1
    have v3 := hV.2.2.2.1
    have e11 : A' 5 (11 + p) = z (11 + p) := by rw [hA5]; exact fdL_sup (by omega)
    have em : me (A' 5) p g = me z p g := by rw [hA5]; exact fdL_mem (by omega)
    have hb11 := hV.lt (by omega) (11 + p)
    have hbm : me z p g < 2000 := hV.lt (by omega) _
    have hls : less (A' 5) (me (A' 5) p g) = less z (me z p g) := by rw [em]; unfold less; rw [e2]
    refine y_iload_n C D_X7_oneYear_97 rfl ?_
    refine y_aload_n C D_X7_oneYear_98 rfl ?_
    refine y_get C D_X7_oneYear_99 fl_X7_19 (hm_o hU) rfl ?_
    refine y_iconst C D_X7_oneYear_102 ki_0 ?_
    refine z_ild C D_X7_oneYear_103 (hm_st hU) (by omega) (by decide) rfl ?_
    refine y_icmp_ge C D_X7_oneYear_104 (n_le (by omega) (by omega)) (fun c_104 => absurd c_104 (by omega)) (fun c_104 => ?_)
    refine y_aload_n C D_X7_oneYear_107 rfl ?_
    refine y_get C D_X7_oneYear_108 fl_X7_19 (hm_o hU) rfl ?_
    refine y_bipush C D_X7_oneYear_111 kb_11 ?_
    refine y_iload_n C D_X7_oneYear_113 rfl ?_
    refine z_iadd C D_X7_oneYear_114 ?_
    refine z_ild C D_X7_oneYear_115 (hm_st hU) (by omega) (by decide) rfl ?_
    refine y_if_ne C D_X7_oneYear_116 (n_eq0 (by omega)) (fun c_116 => ?_) (fun c_116 => ?_)
    · refine y_fg 3 ?_
      rw [hA]
      exact K g (Or.inr (by omega))
    · refine y_aload_n C D_X7_oneYear_119 rfl ?_
      refine y_get C D_X7_oneYear_120 fl_X7_19 (hm_o hU) rfl ?_
      refine y_bipush C D_X7_oneYear_123 kb_21 ?_
      refine y_bipush C D_X7_oneYear_125 kb_6 ?_
      refine y_iload_n C D_X7_oneYear_127 rfl ?_
      refine z_imul C D_X7_oneYear_128 ?_
      refine z_iadd C D_X7_oneYear_129 ?_
      refine y_iload_n C D_X7_oneYear_130 rfl ?_
      refine z_iadd C D_X7_oneYear_131 ?_
      refine y_aload_n C D_X7_oneYear_132 rfl ?_
      refine y_aload_n C D_X7_oneYear_133 rfl ?_
      refine y_iload_n C D_X7_oneYear_134 rfl ?_
      refine y_iload_n C D_X7_oneYear_135 rfl ?_
      refine z_callV C D_X7_oneYear_136 lk_X7_146 (c_X7_memoryOf hU (by omega) (by omega)) (hm_o hU) rfl rfl (Nat.le_of_ble_eq_true rfl) (Nat.le_of_ble_eq_true rfl) ⟨Nat.zero_le _, Nat.zero_le _⟩ ?_
      refine z_callV C D_X7_oneYear_139 lk_X7_159 (c_X7_lessOf hU (by omega) (by omega) (by omega)) (hm_o hU) rfl rfl (Nat.le_of_ble_eq_true rfl) (Nat.le_of_ble_eq_true rfl) ⟨Nat.zero_le _, Nat.zero_le _⟩ ?_
      refine z_ist C D_X7_oneYear_142 (hm_st hU) (by omega) (by decide) (hm_wst hU _ _) ?_
      refine z_iinc (n := 1) C D_X7_oneYear_143 rfl (by decide) (qok_s rfl rfl) ?_
      refine y_goto C D_X7_oneYear_146 ?_
      exact ih (g + 1) _ (by omega) (by rw [hls, hA5, hA, bx_uu, fdL_step (by omega) (by omega)])
theorem lp_X7_oneYear_85 {X : qX} {z : Nat → Nat} {d : Nat} (hU : U.length = 122) (hV : Va z) (h4 : z 4 < 1999) (C : qC X G cX7_oneYear 4 RX7 4) (E : qE X G none 0 0 none (hm G U i (va_up A 5 (va_up (fd z) 4 (z 4 + 1))) B)) : ∀ (n p : Nat) (A' : Nat → Nat → Nat), p + n = z 3 → A' = va_up A 5 (fdL z p 0) → Y X G 4 0 0 85 [some (qr G 122), some (.int (nI (d))), some (.int (nI (p))), none] [] (hm G U i A' B) := by
  intro n
  induction n with
  | zero =>
    intro p A' hp hA
    have hA5 : A' 5 = fdL z p 0 := by rw [hA]; exact up_eq _ _ _
    have e0 : A' 5 0 = z 0 := by rw [hA5]; exact fdL_lo (by decide)
    have e2 : A' 5 2 = z 2 := by rw [hA5]; exact fdL_lo (by decide)
    have e3 : A' 5 3 = z 3 := by rw [hA5]; exact fdL_lo (by decide)
    have v0 := hV.1
    have v2 := hV.2.2.1
    have v3 := hV.2.2.2.1
    obtain rfl : p = z 3 := by omega
    have e4 : A' 5 4 = z 4 := by rw [hA5]; exact fdL_lo (by decide)
    refine y_iload_n C D_X7_oneYear_85 rfl ?_
    refine y_aload_n C D_X7_oneYear_86 rfl ?_
    refine y_get C D_X7_oneYear_87 fl_X7_19 (hm_o hU) rfl ?_
    refine y_iconst C D_X7_oneYear_90 ki_3 ?_
    refine z_ild C D_X7_oneYear_91 (hm_st hU) (by omega) (by decide) rfl ?_
    refine y_icmp_ge C D_X7_oneYear_92 (n_le (by omega) (by omega)) (fun c_92 => ?_) (fun c_92 => absurd c_92 (by omega))
    refine y_aload_n C D_X7_oneYear_175 rfl ?_
    refine y_get C D_X7_oneYear_176 fl_X7_19 (hm_o hU) rfl ?_
    refine y_iconst C D_X7_oneYear_179 ki_4 ?_
    refine y_dup2 C D_X7_oneYear_180 rfl rfl ?_
    refine z_ild C D_X7_oneYear_181 (hm_st hU) (by omega) (by decide) rfl ?_
    refine y_iconst C D_X7_oneYear_182 ki_1 ?_
    refine z_iadd C D_X7_oneYear_183 ?_
    refine z_ist C D_X7_oneYear_184 (hm_st hU) (by omega) (by decide) (hm_wst hU _ _) ?_
    exact y_vret C E D_X7_oneYear_185 (by rw [e4, hA5, hA, bx_uu, fdL_end hV])
  | succ n ih =>
    intro p A' hp hA
    have hA5 : A' 5 = fdL z p 0 := by rw [hA]; exact up_eq _ _ _
    have e0 : A' 5 0 = z 0 := by rw [hA5]; exact fdL_lo (by decide)
    have e2 : A' 5 2 = z 2 := by rw [hA5]; exact fdL_lo (by decide)
    have e3 : A' 5 3 = z 3 := by rw [hA5]; exact fdL_lo (by decide)
    have v0 := hV.1
    have v2 := hV.2.2.1
    have v3 := hV.2.2.2.1
    have K2 : ∀ g, (z 0 ≤ g ∨ z (11 + p) ≠ 0) → Y X G 4 0 0 149 [some (qr G 122), some (.int (nI (d))), some (.int (nI (p))), none] [] (hm G U i (va_up A 5 (fdL z p g)) B) := by
      intro g hg
      refine y_aload_n C D_X7_oneYear_149 rfl ?_
      refine y_get C D_X7_oneYear_150 fl_X7_19 (hm_o hU) rfl ?_
      refine y_bipush C D_X7_oneYear_153 kb_11 ?_
      refine y_iload_n C D_X7_oneYear_155 rfl ?_
      refine z_iadd C D_X7_oneYear_156 ?_
      refine y_iconst C D_X7_oneYear_157 ki_0 ?_
      refine z_ist C D_X7_oneYear_158 (hm_st hU) (by omega) (by decide) (hm_wst hU _ _) ?_
      refine y_aload_n C D_X7_oneYear_159 rfl ?_
      refine y_get C D_X7_oneYear_160 fl_X7_19 (hm_o hU) rfl ?_
      refine y_bipush C D_X7_oneYear_163 kb_16 ?_
      refine y_iload_n C D_X7_oneYear_165 rfl ?_
      refine z_iadd C D_X7_oneYear_166 ?_
      refine y_iconst C D_X7_oneYear_167 ki_0 ?_
      refine z_ist C D_X7_oneYear_168 (hm_st hU) (by omega) (by decide) (hm_wst hU _ _) ?_
      refine z_iinc (n := 1) C D_X7_oneYear_169 rfl (by decide) (qok_s rfl rfl) ?_
      refine y_goto C D_X7_oneYear_172 ?_
      exact ih (p + 1) _ (by omega) (by rw [bx_uu, up_eq, bx_uu, up_eq, fdL_row hV (by omega) hg])
    refine y_iload_n C D_X7_oneYear_85 rfl ?_
    refine y_aload_n C D_X7_oneYear_86 rfl ?_
    refine y_get C D_X7_oneYear_87 fl_X7_19 (hm_o hU) rfl ?_
    refine y_iconst C D_X7_oneYear_90 ki_3 ?_
    refine z_ild C D_X7_oneYear_91 (hm_st hU) (by omega) (by decide) rfl ?_
    refine y_icmp_ge C D_X7_oneYear_92 (n_le (by omega) (by omega)) (fun c_92 => absurd c_92 (by omega)) (fun c_92 => ?_)
    refine y_iconst C D_X7_oneYear_95 ki_0 ?_
    refine y_istore_n C D_X7_oneYear_96 (by decide) (qok_s rfl rfl) ?_
    exact lp_X7_oneYear_97 hU hV h4 C (by omega) K2 (z 0) 0 A' (by omega) hA
theorem c_X7_oneYear (hU : U.length = 122) (hV : Va (A 5)) (h4 : A 5 4 < 1999) : Ct l G yX7_oneYear 4 [qr G 122] (hm G U i A B) none (hm G U i (va_up A 5 (yr (A 5))) B) := by
  refine ctm_intro (maxL := 4) kw_X7_oneYear (by decide) (by decide) [some (qr G 122), none, none, none] rfl (Nat.le_of_ble_eq_true rfl) ?_
  intro X _ hcl hsl _ _ C E
  have v0 := hV.1
  have v3 := hV.2.2.2.1
  have v5 := hV.k64
  have hd := adn_lt v0.1 v0.2 (A 5 3)
  have hz4 : y1 (A 5) 4 = A 5 4 := y1_lo (by decide) (by decide)
  have E : qE X G none 0 0 none (hm G U i (va_up A 5 (va_up (fd (y1 (A 5))) 4 (y1 (A 5) 4 + 1))) B) := by rw [hz4]; exact E
  have K : Y X G 4 0 0 73 [some (qr G 122), some (.int (nI (ad (A 5)))), none, none] [] (hm G U i (va_up A 5 (dg (A 5) (lostY (A 5)))) B) := by
    have f5 : va_up A 5 (dg (A 5) (lostY (A 5))) 5 = dg (A 5) (lostY (A 5)) := up_eq _ _ _
    have g5 : dg (A 5) (lostY (A 5)) 5 = A 5 5 := dg_lo (by decide)
    refine y_aload_n C D_X7_oneYear_73 rfl ?_
    refine y_get C D_X7_oneYear_74 fl_X7_19 (hm_o hU) rfl ?_
    refine y_iconst C D_X7_oneYear_77 ki_5 ?_
    refine y_dup2 C D_X7_oneYear_78 rfl rfl ?_
    refine z_ild C D_X7_oneYear_79 (hm_st hU) (by omega) (by decide) rfl ?_
    refine y_iload_n C D_X7_oneYear_80 rfl ?_
    refine z_iand C D_X7_oneYear_81 ?_
    refine z_ist C D_X7_oneYear_82 (hm_st hU) (by omega) (by decide) (hm_wst hU _ _) ?_
    refine y_iconst C D_X7_oneYear_83 ki_0 ?_
    refine y_istore_n C D_X7_oneYear_84 (by decide) (qok_s rfl rfl) ?_
    exact lp_X7_oneYear_85 hU hV.y1 (by omega) C E (y1 (A 5) 3) 0 _ (by omega) (by rw [f5, g5, bx_uu, fdL_0]; rfl)
  refine y_aload_n C D_X7_oneYear_0 rfl ?_
  refine z_callV C D_X7_oneYear_1 lk_X7_155 (c_X7_allDreams hU (by omega) (by omega) (by omega) (fun k => hV.lt (by omega) k) hV.k64) (hm_o hU) rfl rfl (Nat.le_of_ble_eq_true rfl) (Nat.le_of_ble_eq_true rfl) ⟨Nat.zero_le _, Nat.zero_le _⟩ ?_
  refine y_istore_n C D_X7_oneYear_4 (by decide) (qok_s rfl rfl) ?_
  refine y_iconst C D_X7_oneYear_5 ki_0 ?_
  refine y_istore_n C D_X7_oneYear_6 (by decide) (qok_s rfl rfl) ?_
  exact lp_X7_oneYear_7 hU hV h4 hd rfl C K (A 5 0) 0 A (by omega) (by rw [dgL_0]; exact (up_id A 5).symm)
end
end
section
section
variable {l : Launch} {G : qG} {U : List va_E} {i : Nat → Nat} {A : Nat → Nat → Nat} {B : Nat → Nat → Int32} {h : List va_E}
theorem lp_X7_putAside_2 {X : qX} (hU : U.length = 122)  (C : qC X G cX7_putAside 2 RX7 0) (K : Y X G 2 0 0 26 [some (qr G 122), none] [] (hm G U i (va_up A 18 (va_cpy (A 5) (A 18) (0) (0) (51))) B)) : ∀ (n k : Nat) (A' : Nat → Nat → Nat), k + n = 51 → A' = va_up A 18 (va_cpy (A 5) (A 18) (0) (0) (k)) → Y X G 2 0 0 2 [some (qr G 122), some (.int (nI (k)))] [] (hm G U i A' B) := by
  intro n
  induction n with
  | zero =>
    intro k A' hk hA
    obtain rfl : k = 51 := by omega
    refine y_iload_n C D_X7_putAside_2 rfl ?_
    refine y_bipush C D_X7_putAside_3 kb_51 ?_
    refine y_icmp_ge C D_X7_putAside_5 (n_le (by omega) (by omega)) (fun c_5 => ?_) (fun c_5 => absurd (Nat.le_refl _) c_5)
    refine y_fg 1 ?_
    rw [hA]
    exact K
  | succ n ih =>
    intro k A' hk hA
    have hd : A' 18 = va_cpy (A 5) (A 18) (0) (0) (k) := by rw [hA]; exact up_eq _ _ _
    have es : A' 5 = A 5 := by rw [hA]; exact up_ne _ _ (by decide)
    have eq : va_up A' 18 (va_up (A' 18) ((0) + k) (A' 5 ((0) + k))) = va_up A 18 (va_cpy (A 5) (A 18) (0) (0) (k + 1)) := by rw [es, hd, hA, bx_uu, cpy_step]
    
    refine y_iload_n C D_X7_putAside_2 rfl ?_
    refine y_bipush C D_X7_putAside_3 kb_51 ?_
    refine y_icmp_ge C D_X7_putAside_5 (n_le (by omega) (by omega)) (fun c_5 => absurd c_5 (by omega)) (fun c_5 => ?_)
    refine y_aload_n C D_X7_putAside_8 rfl ?_
    refine y_get C D_X7_putAside_9 fl_X7_34 (hm_o hU) rfl ?_
    refine y_iload_n C D_X7_putAside_12 rfl ?_
    refine y_aload_n C D_X7_putAside_13 rfl ?_
    refine y_get C D_X7_putAside_14 fl_X7_19 (hm_o hU) rfl ?_
    refine y_iload_n C D_X7_putAside_17 rfl ?_
    refine z_ild C D_X7_putAside_18 (hm_st hU) (by omega) (by decide) rfl ?_
    refine z_ist C D_X7_putAside_19 (hm_aside hU) (by omega) (by decide) (hm_waside hU _ _) ?_
    refine z_iinc (n := 1) C D_X7_putAside_20 rfl (by decide) (qok_s rfl rfl) ?_
    refine y_goto C D_X7_putAside_23 ?_
    refine ih (k + 1) _ (by omega) (Eq.trans ?_ eq)
    first | rfl | (simp only [Nat.zero_add]; done) | (rw [Nat.zero_add, Nat.add_comm k 51])
theorem c_X7_putAside (hU : U.length = 122) : Ct l G yX7_putAside 0 [qr G 122] (hm G U i A B) (none) (hm G U i (va_up A 18 (va_cpy (A 5) (A 18) 0 0 51)) B) := by
  refine ctm_intro (maxL := 2) kw_X7_putAside (by decide) (by decide) [some (qr G 122), none] rfl (Nat.le_of_ble_eq_true rfl) ?_
  intro X _ hcl hsl _ _ C E
  refine y_iconst C D_X7_putAside_0 ki_0 ?_
  refine y_istore_n C D_X7_putAside_1 (by decide) (qok_s rfl rfl) ?_
  refine lp_X7_putAside_2 hU C ?_ 51 0 A (by omega) (by rw [cpy_0]; exact (up_id A 18).symm)
  exact y_vret C E D_X7_putAside_26 rfl
theorem lp_X7_takeBack_2 {X : qX} (hU : U.length = 122)  (C : qC X G cX7_takeBack 2 RX7 0) (K : Y X G 2 0 0 26 [some (qr G 122), none] [] (hm G U i (va_up A 5 (va_cpy (A 18) (A 5) (0) (0) (51))) B)) : ∀ (n k : Nat) (A' : Nat → Nat → Nat), k + n = 51 → A' = va_up A 5 (va_cpy (A 18) (A 5) (0) (0) (k)) → Y X G 2 0 0 2 [some (qr G 122), some (.int (nI (k)))] [] (hm G U i A' B) := by
  intro n
  induction n with
  | zero =>
    intro k A' hk hA
    obtain rfl : k = 51 := by omega
    refine y_iload_n C D_X7_takeBack_2 rfl ?_
    refine y_bipush C D_X7_takeBack_3 kb_51 ?_
    refine y_icmp_ge C D_X7_takeBack_5 (n_le (by omega) (by omega)) (fun c_5 => ?_) (fun c_5 => absurd (Nat.le_refl _) c_5)
    refine y_fg 1 ?_
    rw [hA]
    exact K
  | succ n ih =>
    intro k A' hk hA
    have hd : A' 5 = va_cpy (A 18) (A 5) (0) (0) (k) := by rw [hA]; exact up_eq _ _ _
    have es : A' 18 = A 18 := by rw [hA]; exact up_ne _ _ (by decide)
    have eq : va_up A' 5 (va_up (A' 5) ((0) + k) (A' 18 ((0) + k))) = va_up A 5 (va_cpy (A 18) (A 5) (0) (0) (k + 1)) := by rw [es, hd, hA, bx_uu, cpy_step]
    
    refine y_iload_n C D_X7_takeBack_2 rfl ?_
    refine y_bipush C D_X7_takeBack_3 kb_51 ?_
    refine y_icmp_ge C D_X7_takeBack_5 (n_le (by omega) (by omega)) (fun c_5 => absurd c_5 (by omega)) (fun c_5 => ?_)
    refine y_aload_n C D_X7_takeBack_8 rfl ?_
    refine y_get C D_X7_takeBack_9 fl_X7_19 (hm_o hU) rfl ?_
    refine y_iload_n C D_X7_takeBack_12 rfl ?_
    refine y_aload_n C D_X7_takeBack_13 rfl ?_
    refine y_get C D_X7_takeBack_14 fl_X7_34 (hm_o hU) rfl ?_
    refine y_iload_n C D_X7_takeBack_17 rfl ?_
    refine z_ild C D_X7_takeBack_18 (hm_aside hU) (by omega) (by decide) rfl ?_
    refine z_ist C D_X7_takeBack_19 (hm_st hU) (by omega) (by decide) (hm_wst hU _ _) ?_
    refine z_iinc (n := 1) C D_X7_takeBack_20 rfl (by decide) (qok_s rfl rfl) ?_
    refine y_goto C D_X7_takeBack_23 ?_
    refine ih (k + 1) _ (by omega) (Eq.trans ?_ eq)
    first | rfl | (simp only [Nat.zero_add]; done) | (rw [Nat.zero_add, Nat.add_comm k 51])
theorem c_X7_takeBack (hU : U.length = 122) : Ct l G yX7_takeBack 0 [qr G 122] (hm G U i A B) (none) (hm G U i (va_up A 5 (va_cpy (A 18) (A 5) 0 0 51)) B) := by
  refine ctm_intro (maxL := 2) kw_X7_takeBack (by decide) (by decide) [some (qr G 122), none] rfl (Nat.le_of_ble_eq_true rfl) ?_
  intro X _ hcl hsl _ _ C E
  refine y_iconst C D_X7_takeBack_0 ki_0 ?_
  refine y_istore_n C D_X7_takeBack_1 (by decide) (qok_s rfl rfl) ?_
  refine lp_X7_takeBack_2 hU C ?_ 51 0 A (by omega) (by rw [cpy_0]; exact (up_id A 5).symm)
  exact y_vret C E D_X7_takeBack_26 rfl
theorem lp_X7_note_11 {X : qX} (hU : U.length = 122)  (C : qC X G cX7_note 2 RX7 0) (K : Y X G 2 0 0 39 [some (qr G 122), none] [] (hm G U i (va_up A 16 (va_cpy (A 16) (A 16) (51) (0) (1173))) B)) : ∀ (n k : Nat) (A' : Nat → Nat → Nat), k + n = 1173 → A' = va_up A 16 (va_cpy (A 16) (A 16) (51) (0) (k)) → Y X G 2 0 0 11 [some (qr G 122), some (.int (nI (k)))] [] (hm G U i A' B) := by
  intro n
  induction n with
  | zero =>
    intro k A' hk hA
    obtain rfl : k = 1173 := by omega
    refine y_iload_n C D_X7_note_11 rfl ?_
    refine y_sipush C D_X7_note_12 kn_1173 ?_
    refine y_icmp_ge C D_X7_note_15 (n_le (by omega) (by omega)) (fun c_15 => ?_) (fun c_15 => absurd (Nat.le_refl _) c_15)
    refine y_fg 1 ?_
    rw [hA]
    exact K
  | succ n ih =>
    intro k A' hk hA
    have hd : A' 16 = va_cpy (A 16) (A 16) (51) (0) (k) := by rw [hA]; exact up_eq _ _ _
    have es : A' 16 ((51) + k) = A 16 ((51) + k) := by rw [hd]; exact cpy_out (Or.inr (by omega))
    have eq : va_up A' 16 (va_up (A' 16) ((0) + k) (A' 16 ((51) + k))) = va_up A 16 (va_cpy (A 16) (A 16) (51) (0) (k + 1)) := by rw [es, hd, hA, bx_uu, cpy_step]
    
    refine y_iload_n C D_X7_note_11 rfl ?_
    refine y_sipush C D_X7_note_12 kn_1173 ?_
    refine y_icmp_ge C D_X7_note_15 (n_le (by omega) (by omega)) (fun c_15 => absurd c_15 (by omega)) (fun c_15 => ?_)
    refine y_aload_n C D_X7_note_18 rfl ?_
    refine y_get C D_X7_note_19 fl_X7_31 (hm_o hU) rfl ?_
    refine y_iload_n C D_X7_note_22 rfl ?_
    refine y_aload_n C D_X7_note_23 rfl ?_
    refine y_get C D_X7_note_24 fl_X7_31 (hm_o hU) rfl ?_
    refine y_iload_n C D_X7_note_27 rfl ?_
    refine y_bipush C D_X7_note_28 kb_51 ?_
    refine z_iadd C D_X7_note_30 ?_
    refine z_ild C D_X7_note_31 (hm_acts hU) (by omega) (by decide) rfl ?_
    refine z_ist C D_X7_note_32 (hm_acts hU) (by omega) (by decide) (hm_wacts hU _ _) ?_
    refine z_iinc (n := 1) C D_X7_note_33 rfl (by decide) (qok_s rfl rfl) ?_
    refine y_goto C D_X7_note_36 ?_
    refine ih (k + 1) _ (by omega) (Eq.trans ?_ eq)
    first | rfl | (simp only [Nat.zero_add]; done) | (rw [Nat.zero_add, Nat.add_comm k 51])
theorem lp_X7_note_51 {X : qX} (hU : U.length = 122) (hi : i 17 < 24) (C : qC X G cX7_note 2 RX7 0) (K : Y X G 2 0 0 83 [some (qr G 122), none] [] (hm G U i (va_up A 16 (va_cpy (A 5) (A 16) (0) (51 * i 17) (51))) B)) : ∀ (n k : Nat) (A' : Nat → Nat → Nat), k + n = 51 → A' = va_up A 16 (va_cpy (A 5) (A 16) (0) (51 * i 17) (k)) → Y X G 2 0 0 51 [some (qr G 122), some (.int (nI (k)))] [] (hm G U i A' B) := by
  intro n
  induction n with
  | zero =>
    intro k A' hk hA
    obtain rfl : k = 51 := by omega
    refine y_iload_n C D_X7_note_51 rfl ?_
    refine y_bipush C D_X7_note_52 kb_51 ?_
    refine y_icmp_ge C D_X7_note_54 (n_le (by omega) (by omega)) (fun c_54 => ?_) (fun c_54 => absurd (Nat.le_refl _) c_54)
    refine y_fg 1 ?_
    rw [hA]
    exact K
  | succ n ih =>
    intro k A' hk hA
    have hd : A' 16 = va_cpy (A 5) (A 16) (0) (51 * i 17) (k) := by rw [hA]; exact up_eq _ _ _
    have es : A' 5 = A 5 := by rw [hA]; exact up_ne _ _ (by decide)
    have eq : va_up A' 16 (va_up (A' 16) ((51 * i 17) + k) (A' 5 ((0) + k))) = va_up A 16 (va_cpy (A 5) (A 16) (0) (51 * i 17) (k + 1)) := by rw [es, hd, hA, bx_uu, cpy_step]
    
    refine y_iload_n C D_X7_note_51 rfl ?_
    refine y_bipush C D_X7_note_52 kb_51 ?_
    refine y_icmp_ge C D_X7_note_54 (n_le (by omega) (by omega)) (fun c_54 => absurd c_54 (by omega)) (fun c_54 => ?_)
    refine y_aload_n C D_X7_note_57 rfl ?_
    refine y_get C D_X7_note_58 fl_X7_31 (hm_o hU) rfl ?_
    refine y_bipush C D_X7_note_61 kb_51 ?_
    refine y_aload_n C D_X7_note_63 rfl ?_
    refine y_get C D_X7_note_64 fl_X7_139 (hm_o hU) rfl ?_
    refine z_imul C D_X7_note_67 ?_
    refine y_iload_n C D_X7_note_68 rfl ?_
    refine z_iadd C D_X7_note_69 ?_
    refine y_aload_n C D_X7_note_70 rfl ?_
    refine y_get C D_X7_note_71 fl_X7_19 (hm_o hU) rfl ?_
    refine y_iload_n C D_X7_note_74 rfl ?_
    refine z_ild C D_X7_note_75 (hm_st hU) (by omega) (by decide) rfl ?_
    refine z_ist C D_X7_note_76 (hm_acts hU) (by omega) (by decide) (hm_wacts hU _ _) ?_
    refine z_iinc (n := 1) C D_X7_note_77 rfl (by decide) (qok_s rfl rfl) ?_
    refine y_goto C D_X7_note_80 ?_
    refine ih (k + 1) _ (by omega) (Eq.trans ?_ eq)
    first | rfl | (simp only [Nat.zero_add]; done) | (rw [Nat.zero_add, Nat.add_comm k 51])
theorem c_X7_note (hU : U.length = 122) (hi : i 17 < 24) : Ct l G yX7_note 0 [qr G 122] (hm G U i A B) (none) (hm G U (va_up i 17 (i 17 + 1)) (va_up A 16 (va_cpy (A 5) (A 16) 0 (51 * i 17) 51)) B) := by
  refine ctm_intro (maxL := 2) kw_X7_note (by decide) (by decide) [some (qr G 122), none] rfl (Nat.le_of_ble_eq_true rfl) ?_
  intro X _ hcl hsl _ _ C E
  refine y_aload_n C D_X7_note_0 rfl ?_
  refine y_get C D_X7_note_1 fl_X7_139 (hm_o hU) rfl ?_
  refine y_bipush C D_X7_note_4 kb_24 ?_
  refine y_icmp_ne C D_X7_note_6 (n_eq (by omega) (by omega)) (fun c_6 => ?_) (fun c_6 => absurd c_6 (by omega))
  refine y_iconst C D_X7_note_49 ki_0 ?_
  refine y_istore_n C D_X7_note_50 (by decide) (qok_s rfl rfl) ?_
  refine lp_X7_note_51 hU hi C ?_ 51 0 _ (by omega) (by rw [cpy_0]; exact (up_id _ 16).symm)
  refine y_aload_n C D_X7_note_83 rfl ?_
  refine y_dup C D_X7_note_84 rfl ?_
  refine y_get C D_X7_note_85 fl_X7_139 (hm_o hU) rfl ?_
  refine y_iconst C D_X7_note_88 ki_1 ?_
  refine z_iadd C D_X7_note_89 ?_
  refine y_put C D_X7_note_90 fl_X7_139 (hm_o hU) (Nat.le_of_ble_eq_true rfl) rfl rfl (hm_pactMany hU _) ?_
  exact y_vret C E D_X7_note_93 (rfl)
theorem c_X7_noteF (hU : U.length = 122) (hi : i 17 = 24) : Ct l G yX7_note 0 [qr G 122] (hm G U i A B) (none) (hm G U (va_up i 17 24) (va_up A 16 (va_cpy (A 5) (va_cpy (A 16) (A 16) 51 0 1173) 0 1173 51)) B) := by
  refine ctm_intro (maxL := 2) kw_X7_note (by decide) (by decide) [some (qr G 122), none] rfl (Nat.le_of_ble_eq_true rfl) ?_
  intro X _ hcl hsl _ _ C E
  refine y_aload_n C D_X7_note_0 rfl ?_
  refine y_get C D_X7_note_1 fl_X7_139 (hm_o hU) rfl ?_
  refine y_bipush C D_X7_note_4 kb_24 ?_
  refine y_icmp_ne C D_X7_note_6 (n_eq (by omega) (by omega)) (fun c_6 => absurd hi c_6) (fun c_6 => ?_)
  refine y_iconst C D_X7_note_9 ki_0 ?_
  refine y_istore_n C D_X7_note_10 (by decide) (qok_s rfl rfl) ?_
  refine lp_X7_note_11 hU C ?_ 1173 0 A (by omega) (by rw [cpy_0]; exact (up_id A 16).symm)
  refine y_aload_n C D_X7_note_39 rfl ?_
  refine y_dup C D_X7_note_40 rfl ?_
  refine y_get C D_X7_note_41 fl_X7_139 (hm_o hU) rfl ?_
  refine y_iconst C D_X7_note_44 ki_1 ?_
  refine z_isub C D_X7_note_45 (by omega) ?_
  refine y_put C D_X7_note_46 fl_X7_139 (hm_o hU) (Nat.le_of_ble_eq_true rfl) rfl rfl (hm_pactMany hU _) ?_
  refine y_iconst C D_X7_note_49 ki_0 ?_
  refine y_istore_n C D_X7_note_50 (by decide) (qok_s rfl rfl) ?_
  have e1 : va_up i 17 (i 17 - 1) 17 = 23 := by rw [up_eq, hi]
  refine lp_X7_note_51 hU (by rw [e1]; decide) C ?_ 51 0 _ (by omega) (by rw [cpy_0]; exact (up_id _ 16).symm)
  refine y_aload_n C D_X7_note_83 rfl ?_
  refine y_dup C D_X7_note_84 rfl ?_
  refine y_get C D_X7_note_85 fl_X7_139 (hm_o hU) rfl ?_
  refine y_iconst C D_X7_note_88 ki_1 ?_
  refine z_iadd C D_X7_note_89 ?_
  refine y_put C D_X7_note_90 fl_X7_139 (hm_o hU) (Nat.le_of_ble_eq_true rfl) rfl rfl (hm_pactMany hU _) ?_
  exact y_vret C E D_X7_note_93 (by rw [e1, bx_uu, bx_uu, up_eq, up_ne _ _ (by decide : (5 : Nat) ≠ 16)])
theorem lp_X7_undo_22 {X : qX} (hU : U.length = 122) (hi : i 17 < 24) (C : qC X G cX7_undo 2 RX7 0) (K : Y X G 2 0 0 54 [some (qr G 122), none] [] (hm G U i (va_up A 5 (va_cpy (A 16) (A 5) (51 * i 17) (0) (51))) B)) : ∀ (n k : Nat) (A' : Nat → Nat → Nat), k + n = 51 → A' = va_up A 5 (va_cpy (A 16) (A 5) (51 * i 17) (0) (k)) → Y X G 2 0 0 22 [some (qr G 122), some (.int (nI (k)))] [] (hm G U i A' B) := by
  intro n
  induction n with
  | zero =>
    intro k A' hk hA
    obtain rfl : k = 51 := by omega
    refine y_iload_n C D_X7_undo_22 rfl ?_
    refine y_bipush C D_X7_undo_23 kb_51 ?_
    refine y_icmp_ge C D_X7_undo_25 (n_le (by omega) (by omega)) (fun c_25 => ?_) (fun c_25 => absurd (Nat.le_refl _) c_25)
    refine y_fg 1 ?_
    rw [hA]
    exact K
  | succ n ih =>
    intro k A' hk hA
    have hd : A' 5 = va_cpy (A 16) (A 5) (51 * i 17) (0) (k) := by rw [hA]; exact up_eq _ _ _
    have es : A' 16 = A 16 := by rw [hA]; exact up_ne _ _ (by decide)
    have eq : va_up A' 5 (va_up (A' 5) ((0) + k) (A' 16 ((51 * i 17) + k))) = va_up A 5 (va_cpy (A 16) (A 5) (51 * i 17) (0) (k + 1)) := by rw [es, hd, hA, bx_uu, cpy_step]
    
    refine y_iload_n C D_X7_undo_22 rfl ?_
    refine y_bipush C D_X7_undo_23 kb_51 ?_
    refine y_icmp_ge C D_X7_undo_25 (n_le (by omega) (by omega)) (fun c_25 => absurd c_25 (by omega)) (fun c_25 => ?_)
    refine y_aload_n C D_X7_undo_28 rfl ?_
    refine y_get C D_X7_undo_29 fl_X7_19 (hm_o hU) rfl ?_
    refine y_iload_n C D_X7_undo_32 rfl ?_
    refine y_aload_n C D_X7_undo_33 rfl ?_
    refine y_get C D_X7_undo_34 fl_X7_31 (hm_o hU) rfl ?_
    refine y_bipush C D_X7_undo_37 kb_51 ?_
    refine y_aload_n C D_X7_undo_39 rfl ?_
    refine y_get C D_X7_undo_40 fl_X7_139 (hm_o hU) rfl ?_
    refine z_imul C D_X7_undo_43 ?_
    refine y_iload_n C D_X7_undo_44 rfl ?_
    refine z_iadd C D_X7_undo_45 ?_
    refine z_ild C D_X7_undo_46 (hm_acts hU) (by omega) (by decide) rfl ?_
    refine z_ist C D_X7_undo_47 (hm_st hU) (by omega) (by decide) (hm_wst hU _ _) ?_
    refine z_iinc (n := 1) C D_X7_undo_48 rfl (by decide) (qok_s rfl rfl) ?_
    refine y_goto C D_X7_undo_51 ?_
    refine ih (k + 1) _ (by omega) (Eq.trans ?_ eq)
    first | rfl | (simp only [Nat.zero_add]; done) | (rw [Nat.zero_add, Nat.add_comm k 51])
theorem c_X7_undo0 (hU : U.length = 122) (hi : i 17 = 0) : Ct l G yX7_undo 0 [qr G 122] (hm G U i A B) (some (.int (-1000002))) (hm G U i A B) := by
  refine ctm_intro (maxL := 2) kw_X7_undo (by decide) (by decide) [some (qr G 122), none] rfl (Nat.le_of_ble_eq_true rfl) ?_
  intro X _ hcl hsl _ _ C E
  refine y_aload_n C D_X7_undo_0 rfl ?_
  refine y_get C D_X7_undo_1 fl_X7_139 (hm_o hU) rfl ?_
  refine y_if_ne C D_X7_undo_4 (n_eq0 (by omega)) (fun c_4 => absurd hi c_4) (fun c_4 => ?_)
  refine y_ldc C D_X7_undo_7 lk_X7_162 ?_
  exact y_iret C E D_X7_undo_9 (rfl) (rfl)
theorem c_X7_undo (hU : U.length = 122) (hi : 0 < i 17) (hi2 : i 17 ≤ 24) : Ct l G yX7_undo 0 [qr G 122] (hm G U i A B) (some (.int (nI (i 17 - 1)))) (hm G U (va_up i 17 (i 17 - 1)) (va_up A 5 (va_cpy (A 16) (A 5) (51 * (i 17 - 1)) 0 51)) B) := by
  refine ctm_intro (maxL := 2) kw_X7_undo (by decide) (by decide) [some (qr G 122), none] rfl (Nat.le_of_ble_eq_true rfl) ?_
  intro X _ hcl hsl _ _ C E
  refine y_aload_n C D_X7_undo_0 rfl ?_
  refine y_get C D_X7_undo_1 fl_X7_139 (hm_o hU) rfl ?_
  refine y_if_ne C D_X7_undo_4 (n_eq0 (by omega)) (fun c_4 => ?_) (fun c_4 => absurd c_4 (by omega))
  refine y_aload_n C D_X7_undo_10 rfl ?_
  refine y_dup C D_X7_undo_11 rfl ?_
  refine y_get C D_X7_undo_12 fl_X7_139 (hm_o hU) rfl ?_
  refine y_iconst C D_X7_undo_15 ki_1 ?_
  refine z_isub C D_X7_undo_16 (by omega) ?_
  refine y_put C D_X7_undo_17 fl_X7_139 (hm_o hU) (Nat.le_of_ble_eq_true rfl) rfl rfl (hm_pactMany hU _) ?_
  refine y_iconst C D_X7_undo_20 ki_0 ?_
  refine y_istore_n C D_X7_undo_21 (by decide) (qok_s rfl rfl) ?_
  have e1 : va_up i 17 (i 17 - 1) 17 = i 17 - 1 := up_eq _ _ _
  refine lp_X7_undo_22 hU (by omega) C ?_ 51 0 _ (by omega) (by rw [cpy_0]; exact (up_id _ 5).symm)
  refine y_aload_n C D_X7_undo_54 rfl ?_
  refine y_get C D_X7_undo_55 fl_X7_139 (hm_o hU) rfl ?_
  exact y_iret C E D_X7_undo_58 (by rw [e1]) (by rw [e1])
theorem lp_X7_image_25 {X : qX} (hU : U.length = 122) {q : Nat} (hq : q < 2) (C : qC X G cX7_image 3 RX7 1) (K : Y X G 3 0 0 54 [some (qr G 122), some (.int (nI (q))), none] [] (hm G U i (va_up A 22 (va_cpy (A 5) (A 22) (0) (51 * q) (51))) B)) : ∀ (n k : Nat) (A' : Nat → Nat → Nat), k + n = 51 → A' = va_up A 22 (va_cpy (A 5) (A 22) (0) (51 * q) (k)) → Y X G 3 0 0 25 [some (qr G 122), some (.int (nI (q))), some (.int (nI (k)))] [] (hm G U i A' B) := by
  intro n
  induction n with
  | zero =>
    intro k A' hk hA
    obtain rfl : k = 51 := by omega
    refine y_iload_n C D_X7_image_25 rfl ?_
    refine y_bipush C D_X7_image_26 kb_51 ?_
    refine y_icmp_ge C D_X7_image_28 (n_le (by omega) (by omega)) (fun c_28 => ?_) (fun c_28 => absurd (Nat.le_refl _) c_28)
    refine y_fg 2 ?_
    rw [hA]
    exact K
  | succ n ih =>
    intro k A' hk hA
    have hd : A' 22 = va_cpy (A 5) (A 22) (0) (51 * q) (k) := by rw [hA]; exact up_eq _ _ _
    have es : A' 5 = A 5 := by rw [hA]; exact up_ne _ _ (by decide)
    have eq : va_up A' 22 (va_up (A' 22) ((51 * q) + k) (A' 5 ((0) + k))) = va_up A 22 (va_cpy (A 5) (A 22) (0) (51 * q) (k + 1)) := by rw [es, hd, hA, bx_uu, cpy_step]
    
    refine y_iload_n C D_X7_image_25 rfl ?_
    refine y_bipush C D_X7_image_26 kb_51 ?_
    refine y_icmp_ge C D_X7_image_28 (n_le (by omega) (by omega)) (fun c_28 => absurd c_28 (by omega)) (fun c_28 => ?_)
    refine y_aload_n C D_X7_image_31 rfl ?_
    refine y_get C D_X7_image_32 fl_X7_44 (hm_o hU) rfl ?_
    refine y_bipush C D_X7_image_35 kb_51 ?_
    refine y_iload_n C D_X7_image_37 rfl ?_
    refine z_imul C D_X7_image_38 ?_
    refine y_iload_n C D_X7_image_39 rfl ?_
    refine z_iadd C D_X7_image_40 ?_
    refine y_aload_n C D_X7_image_41 rfl ?_
    refine y_get C D_X7_image_42 fl_X7_19 (hm_o hU) rfl ?_
    refine y_iload_n C D_X7_image_45 rfl ?_
    refine z_ild C D_X7_image_46 (hm_st hU) (by omega) (by decide) rfl ?_
    refine z_ist C D_X7_image_47 (hm_held hU) (by omega) (by decide) (hm_wheld hU _ _) ?_
    refine z_iinc (n := 1) C D_X7_image_48 rfl (by decide) (qok_s rfl rfl) ?_
    refine y_goto C D_X7_image_51 ?_
    refine ih (k + 1) _ (by omega) (Eq.trans ?_ eq)
    first | rfl | (simp only [Nat.zero_add]; done) | (rw [Nat.zero_add, Nat.add_comm k 51])
theorem lp_X7_restore_27 {X : qX} (hU : U.length = 122) {q : Nat} (hq : q < 2) (C : qC X G cX7_restore 3 RX7 1) (K : Y X G 3 0 0 56 [some (qr G 122), some (.int (nI (q))), none] [] (hm G U i (va_up A 5 (va_cpy (A 22) (A 5) (51 * q) (0) (51))) B)) : ∀ (n k : Nat) (A' : Nat → Nat → Nat), k + n = 51 → A' = va_up A 5 (va_cpy (A 22) (A 5) (51 * q) (0) (k)) → Y X G 3 0 0 27 [some (qr G 122), some (.int (nI (q))), some (.int (nI (k)))] [] (hm G U i A' B) := by
  intro n
  induction n with
  | zero =>
    intro k A' hk hA
    obtain rfl : k = 51 := by omega
    refine y_iload_n C D_X7_restore_27 rfl ?_
    refine y_bipush C D_X7_restore_28 kb_51 ?_
    refine y_icmp_ge C D_X7_restore_30 (n_le (by omega) (by omega)) (fun c_30 => ?_) (fun c_30 => absurd (Nat.le_refl _) c_30)
    refine y_fg 2 ?_
    rw [hA]
    exact K
  | succ n ih =>
    intro k A' hk hA
    have hd : A' 5 = va_cpy (A 22) (A 5) (51 * q) (0) (k) := by rw [hA]; exact up_eq _ _ _
    have es : A' 22 = A 22 := by rw [hA]; exact up_ne _ _ (by decide)
    have eq : va_up A' 5 (va_up (A' 5) ((0) + k) (A' 22 ((51 * q) + k))) = va_up A 5 (va_cpy (A 22) (A 5) (51 * q) (0) (k + 1)) := by rw [es, hd, hA, bx_uu, cpy_step]
    
    refine y_iload_n C D_X7_restore_27 rfl ?_
    refine y_bipush C D_X7_restore_28 kb_51 ?_
    refine y_icmp_ge C D_X7_restore_30 (n_le (by omega) (by omega)) (fun c_30 => absurd c_30 (by omega)) (fun c_30 => ?_)
    refine y_aload_n C D_X7_restore_33 rfl ?_
    refine y_get C D_X7_restore_34 fl_X7_19 (hm_o hU) rfl ?_
    refine y_iload_n C D_X7_restore_37 rfl ?_
    refine y_aload_n C D_X7_restore_38 rfl ?_
    refine y_get C D_X7_restore_39 fl_X7_44 (hm_o hU) rfl ?_
    refine y_bipush C D_X7_restore_42 kb_51 ?_
    refine y_iload_n C D_X7_restore_44 rfl ?_
    refine z_imul C D_X7_restore_45 ?_
    refine y_iload_n C D_X7_restore_46 rfl ?_
    refine z_iadd C D_X7_restore_47 ?_
    refine z_ild C D_X7_restore_48 (hm_held hU) (by omega) (by decide) rfl ?_
    refine z_ist C D_X7_restore_49 (hm_st hU) (by omega) (by decide) (hm_wst hU _ _) ?_
    refine z_iinc (n := 1) C D_X7_restore_50 rfl (by decide) (qok_s rfl rfl) ?_
    refine y_goto C D_X7_restore_53 ?_
    refine ih (k + 1) _ (by omega) (Eq.trans ?_ eq)
    first | rfl | (simp only [Nat.zero_add]; done) | (rw [Nat.zero_add, Nat.add_comm k 51])
theorem c_X7_imageB (hU : U.length = 122) {x : Int32} (hx : ¬ isx x 2) : Ct l G yX7_image 1 [qr G 122, .int x] (hm G U i A B) (some (.int (-1000001))) (hm G U i A B) := by
  refine ctm_intro (maxL := 3) kw_X7_image (by decide) (by decide) [some (qr G 122), some (.int x), none] rfl (Nat.le_of_ble_eq_true rfl) ?_
  intro X _ hcl hsl _ _ C E
  refine y_iload_n C D_X7_image_0 rfl ?_
  refine y_i2l C D_X7_image_1 ?_
  refine y_lconst C D_X7_image_2 rfl ?_
  refine y_lconst C D_X7_image_3 rfl ?_
  refine z_callS C D_X7_image_4 lk_X7_57 (c_X7_in) rfl rfl (Nat.le_of_ble_eq_true rfl) (Nat.le_of_ble_eq_true rfl) ⟨Nat.zero_le _, Nat.zero_le _⟩ ?_
  refine y_top (bI_c (in_isx (z := 1) (n := 2) (by decide) rfl)) ?_
  refine z_ifneB C D_X7_image_7 (fun c_7 => absurd c_7 hx) (fun c_7 => ?_)
  refine y_ldc C D_X7_image_10 lk_X7_67 ?_
  exact y_iret C E D_X7_image_12 (rfl) (rfl)
theorem c_X7_restoreB (hU : U.length = 122) {x : Int32} (hx : ¬ isx x 2) : Ct l G yX7_restore 1 [qr G 122, .int x] (hm G U i A B) (some (.int (-1000001))) (hm G U i A B) := by
  refine ctm_intro (maxL := 3) kw_X7_restore (by decide) (by decide) [some (qr G 122), some (.int x), none] rfl (Nat.le_of_ble_eq_true rfl) ?_
  intro X _ hcl hsl _ _ C E
  refine y_iload_n C D_X7_restore_0 rfl ?_
  refine y_i2l C D_X7_restore_1 ?_
  refine y_lconst C D_X7_restore_2 rfl ?_
  refine y_lconst C D_X7_restore_3 rfl ?_
  refine z_callS C D_X7_restore_4 lk_X7_57 (c_X7_in) rfl rfl (Nat.le_of_ble_eq_true rfl) (Nat.le_of_ble_eq_true rfl) ⟨Nat.zero_le _, Nat.zero_le _⟩ ?_
  refine y_top (bI_c (in_isx (z := 1) (n := 2) (by decide) rfl)) ?_
  refine z_ifneB C D_X7_restore_7 (fun c_7 => absurd c_7 hx) (fun c_7 => ?_)
  refine y_ldc C D_X7_restore_10 lk_X7_67 ?_
  exact y_iret C E D_X7_restore_12 (rfl) (rfl)
theorem c_X7_imageS (hU : U.length = 122) {q : Nat} (hq : q < 2) (h4 : i 4 = 0) : Ct l G yX7_image 1 [qr G 122, .int (nI q)] (hm G U i A B) (some (.int (-1000002))) (hm G U i A B) := by
  refine ctm_intro (maxL := 3) kw_X7_image (by decide) (by decide) [some (qr G 122), some (.int (nI q)), none] rfl (Nat.le_of_ble_eq_true rfl) ?_
  intro X _ hcl hsl _ _ C E
  refine y_iload_n C D_X7_image_0 rfl ?_
  refine y_i2l C D_X7_image_1 ?_
  refine y_lconst C D_X7_image_2 rfl ?_
  refine y_lconst C D_X7_image_3 rfl ?_
  refine z_callS C D_X7_image_4 lk_X7_57 (c_X7_in) rfl rfl (Nat.le_of_ble_eq_true rfl) (Nat.le_of_ble_eq_true rfl) ⟨Nat.zero_le _, Nat.zero_le _⟩ ?_
  refine y_top (bI_c (in_isx (z := 1) (n := 2) (by decide) rfl)) ?_
  refine z_ifneB C D_X7_image_7 (fun c_7 => ?_) (fun c_7 => absurd (isx_n (by decide) hq) c_7)
  refine y_aload_n C D_X7_image_13 rfl ?_
  refine y_get C D_X7_image_14 fl_X7_135 (hm_o hU) rfl ?_
  refine y_if_ne C D_X7_image_17 (n_eq0 (by omega)) (fun c_17 => absurd h4 c_17) (fun c_17 => ?_)
  refine y_ldc C D_X7_image_20 lk_X7_162 ?_
  exact y_iret C E D_X7_image_22 (rfl) (rfl)
theorem c_X7_image (hU : U.length = 122) {q : Nat} (hq : q < 2) (h4 : i 4 = 1) : Ct l G yX7_image 1 [qr G 122, .int (nI q)] (hm G U i A B) (some (.int (nI 1))) (hm G U i (va_up (va_up A 22 (va_cpy (A 5) (A 22) 0 (51 * q) 51)) 21 (va_up (A 21) q 1)) B) := by
  refine ctm_intro (maxL := 3) kw_X7_image (by decide) (by decide) [some (qr G 122), some (.int (nI q)), none] rfl (Nat.le_of_ble_eq_true rfl) ?_
  intro X _ hcl hsl _ _ C E
  refine y_iload_n C D_X7_image_0 rfl ?_
  refine y_i2l C D_X7_image_1 ?_
  refine y_lconst C D_X7_image_2 rfl ?_
  refine y_lconst C D_X7_image_3 rfl ?_
  refine z_callS C D_X7_image_4 lk_X7_57 (c_X7_in) rfl rfl (Nat.le_of_ble_eq_true rfl) (Nat.le_of_ble_eq_true rfl) ⟨Nat.zero_le _, Nat.zero_le _⟩ ?_
  refine y_top (bI_c (in_isx (z := 1) (n := 2) (by decide) rfl)) ?_
  refine z_ifneB C D_X7_image_7 (fun c_7 => ?_) (fun c_7 => absurd (isx_n (by decide) hq) c_7)
  refine y_aload_n C D_X7_image_13 rfl ?_
  refine y_get C D_X7_image_14 fl_X7_135 (hm_o hU) rfl ?_
  refine y_if_ne C D_X7_image_17 (n_eq0 (by omega)) (fun c_17 => ?_) (fun c_17 => absurd c_17 (by omega))
  refine y_iconst C D_X7_image_23 ki_0 ?_
  refine y_istore_n C D_X7_image_24 (by decide) (qok_s rfl rfl) ?_
  refine lp_X7_image_25 hU hq C ?_ 51 0 _ (by omega) (by rw [cpy_0]; exact (up_id _ 22).symm)
  refine y_aload_n C D_X7_image_54 rfl ?_
  refine y_get C D_X7_image_55 fl_X7_40 (hm_o hU) rfl ?_
  refine y_iload_n C D_X7_image_58 rfl ?_
  refine y_iconst C D_X7_image_59 ki_1 ?_
  refine z_zst C D_X7_image_60 (hm_isHeld hU) (by omega) (by decide) rfl (hm_wisHeld hU _ _) ?_
  refine y_iconst C D_X7_image_61 ki_1 ?_
  exact y_iret C E D_X7_image_62 (rfl) (by rw [up_ne _ _ (by decide : (21 : Nat) ≠ 22)])
theorem c_X7_restoreS (hU : U.length = 122) {q : Nat} (hq : q < 2) (h4 : A 21 q = 0) : Ct l G yX7_restore 1 [qr G 122, .int (nI q)] (hm G U i A B) (some (.int (-1000002))) (hm G U i A B) := by
  refine ctm_intro (maxL := 3) kw_X7_restore (by decide) (by decide) [some (qr G 122), some (.int (nI q)), none] rfl (Nat.le_of_ble_eq_true rfl) ?_
  intro X _ hcl hsl _ _ C E
  refine y_iload_n C D_X7_restore_0 rfl ?_
  refine y_i2l C D_X7_restore_1 ?_
  refine y_lconst C D_X7_restore_2 rfl ?_
  refine y_lconst C D_X7_restore_3 rfl ?_
  refine z_callS C D_X7_restore_4 lk_X7_57 (c_X7_in) rfl rfl (Nat.le_of_ble_eq_true rfl) (Nat.le_of_ble_eq_true rfl) ⟨Nat.zero_le _, Nat.zero_le _⟩ ?_
  refine y_top (bI_c (in_isx (z := 1) (n := 2) (by decide) rfl)) ?_
  refine z_ifneB C D_X7_restore_7 (fun c_7 => ?_) (fun c_7 => absurd (isx_n (by decide) hq) c_7)
  refine y_aload_n C D_X7_restore_13 rfl ?_
  refine y_get C D_X7_restore_14 fl_X7_40 (hm_o hU) rfl ?_
  refine y_iload_n C D_X7_restore_17 rfl ?_
  refine z_zld C D_X7_restore_18 (hm_isHeld hU) (by omega) (by decide) rfl ?_
  refine y_if_ne C D_X7_restore_19 (n_eq0 (by omega)) (fun c_19 => absurd h4 c_19) (fun c_19 => ?_)
  refine y_ldc C D_X7_restore_22 lk_X7_162 ?_
  exact y_iret C E D_X7_restore_24 (rfl) (rfl)
theorem c_X7_restore (hU : U.length = 122) {q : Nat} (hq : q < 2) (h4 : A 21 q = 1) : Ct l G yX7_restore 1 [qr G 122, .int (nI q)] (hm G U i A B) (some (.int (nI 1))) (hm G U (va_up i 17 0) (va_up A 5 (va_cpy (A 22) (A 5) (51 * q) 0 51)) B) := by
  refine ctm_intro (maxL := 3) kw_X7_restore (by decide) (by decide) [some (qr G 122), some (.int (nI q)), none] rfl (Nat.le_of_ble_eq_true rfl) ?_
  intro X _ hcl hsl _ _ C E
  refine y_iload_n C D_X7_restore_0 rfl ?_
  refine y_i2l C D_X7_restore_1 ?_
  refine y_lconst C D_X7_restore_2 rfl ?_
  refine y_lconst C D_X7_restore_3 rfl ?_
  refine z_callS C D_X7_restore_4 lk_X7_57 (c_X7_in) rfl rfl (Nat.le_of_ble_eq_true rfl) (Nat.le_of_ble_eq_true rfl) ⟨Nat.zero_le _, Nat.zero_le _⟩ ?_
  refine y_top (bI_c (in_isx (z := 1) (n := 2) (by decide) rfl)) ?_
  refine z_ifneB C D_X7_restore_7 (fun c_7 => ?_) (fun c_7 => absurd (isx_n (by decide) hq) c_7)
  refine y_aload_n C D_X7_restore_13 rfl ?_
  refine y_get C D_X7_restore_14 fl_X7_40 (hm_o hU) rfl ?_
  refine y_iload_n C D_X7_restore_17 rfl ?_
  refine z_zld C D_X7_restore_18 (hm_isHeld hU) (by omega) (by decide) rfl ?_
  refine y_if_ne C D_X7_restore_19 (n_eq0 (by omega)) (fun c_19 => ?_) (fun c_19 => absurd c_19 (by omega))
  refine y_iconst C D_X7_restore_25 ki_0 ?_
  refine y_istore_n C D_X7_restore_26 (by decide) (qok_s rfl rfl) ?_
  refine lp_X7_restore_27 hU hq C ?_ 51 0 _ (by omega) (by rw [cpy_0]; exact (up_id _ 5).symm)
  refine y_aload_n C D_X7_restore_56 rfl ?_
  refine y_iconst C D_X7_restore_57 ki_0 ?_
  refine y_put C D_X7_restore_58 fl_X7_139 (hm_o hU) (Nat.le_of_ble_eq_true rfl) rfl rfl (hm_pactMany hU _) ?_
  refine y_iconst C D_X7_restore_61 ki_1 ?_
  exact y_iret C E D_X7_restore_62 (rfl) (rfl)
end
end
section
section
variable {l : Launch} {G : qG} {U : List va_E} {i : Nat → Nat} {A : Nat → Nat → Nat} {B : Nat → Nat → Int32} {h : List va_E}
theorem c_X7_nt (hU : U.length = 122) (hi : i 17 ≤ 24) : Ct l G yX7_note 0 [qr G 122] (hm G U i A B) none (hm G U (ntI i) (va_up A 16 (ntA i A)) B) := by
  unfold ntI ntA
  by_cases h : i 17 < 24
  · rw [if_pos h, if_pos h]
    exact c_X7_note hU h
  · rw [if_neg h, if_neg h]
    exact c_X7_noteF hU (by omega)
theorem lp_X7_suppered {X : qX} {r : Option Value} (hU : U.length = 122) (h3 : A 5 3 ≤ 5) (C : qC X G cX7_suppered 3 RX7 0) (E : qE X G (some .int) 0 0 r (hm G U i A B)) (hr : r = some (.int (nI (spn (A 5) (A 5 3))))) : ∀ (n q : Nat), q + n = A 5 3 → Y X G 3 0 0 4 [some (qr G 122), some (.int (nI (spn (A 5) q))), some (.int (nI (q)))] [] (hm G U i A B) := by
  intro n
  induction n with
  | zero =>
    intro q hq
    obtain rfl : q = A 5 3 := by omega
    refine y_iload_n C D_X7_suppered_4 rfl ?_
    refine y_aload_n C D_X7_suppered_5 rfl ?_
    refine y_get C D_X7_suppered_6 fl_X7_19 (hm_o hU) rfl ?_
    refine y_iconst C D_X7_suppered_9 ki_3 ?_
    refine z_ild C D_X7_suppered_10 (hm_st hU) (by omega) (by decide) rfl ?_
    refine y_icmp_ge C D_X7_suppered_11 (n_le (by omega) (by omega)) (fun c_11 => ?_) (fun c_11 => absurd (Nat.le_refl _) c_11)
    refine y_iload_n C D_X7_suppered_34 rfl ?_
    exact y_iret C E D_X7_suppered_35 (hr.symm) (rfl)
  | succ n ih =>
    intro q hq
    refine y_iload_n C D_X7_suppered_4 rfl ?_
    refine y_aload_n C D_X7_suppered_5 rfl ?_
    refine y_get C D_X7_suppered_6 fl_X7_19 (hm_o hU) rfl ?_
    refine y_iconst C D_X7_suppered_9 ki_3 ?_
    refine z_ild C D_X7_suppered_10 (hm_st hU) (by omega) (by decide) rfl ?_
    refine y_icmp_ge C D_X7_suppered_11 (n_le (by omega) (by omega)) (fun c_11 => absurd c_11 (by omega)) (fun c_11 => ?_)
    refine y_iload_n C D_X7_suppered_14 rfl ?_
    refine y_aload_n C D_X7_suppered_15 rfl ?_
    refine y_get C D_X7_suppered_16 fl_X7_19 (hm_o hU) rfl ?_
    refine y_bipush C D_X7_suppered_19 kb_11 ?_
    refine y_iload_n C D_X7_suppered_21 rfl ?_
    refine z_iadd C D_X7_suppered_22 ?_
    refine z_ild C D_X7_suppered_23 (hm_st hU) (by omega) (by decide) rfl ?_
    refine y_iload_n C D_X7_suppered_24 rfl ?_
    refine z_ishl C D_X7_suppered_25 (by omega) ?_
    refine z_ior C D_X7_suppered_26 ?_
    refine y_istore_n C D_X7_suppered_27 (by decide) (qok_s rfl rfl) ?_
    refine z_iinc (n := 1) C D_X7_suppered_28 rfl (by decide) (qok_s rfl rfl) ?_
    refine y_goto C D_X7_suppered_31 ?_
    exact ih (q + 1) (by omega)
theorem c_X7_suppered (hU : U.length = 122) (h3 : A 5 3 ≤ 5) : Ct l G yX7_suppered 0 [qr G 122] (hm G U i A B) (some (.int (nI (spn (A 5) (A 5 3))))) (hm G U i A B) := by
  refine ctm_intro (maxL := 3) kw_X7_suppered (by decide) (by decide) [some (qr G 122), none, none] rfl (Nat.le_of_ble_eq_true rfl) ?_
  intro X _ hcl hsl _ _ C E
  refine y_iconst C D_X7_suppered_0 ki_0 ?_
  refine y_istore_n C D_X7_suppered_1 (by decide) (qok_s rfl rfl) ?_
  refine y_iconst C D_X7_suppered_2 ki_0 ?_
  refine y_istore_n C D_X7_suppered_3 (by decide) (qok_s rfl rfl) ?_
  exact lp_X7_suppered hU h3 C E rfl (A 5 3) 0 (by omega)
theorem lp_X7_memoryBy {X : qX} {r : Option Value} {q : Nat} (hU : U.length = 122) (hq : q < 5) (h0 : A 5 0 ≤ 6) (C : qC X G cX7_memoryBy 4 RX7 1) (E : qE X G (some .int) 0 0 r (hm G U i A B)) (hr : r = some (.int (nI (mbn (A 5) q (A 5 0))))) : ∀ (n g : Nat), g + n = A 5 0 → Y X G 4 0 0 4 [some (qr G 122), some (.int (nI (q))), some (.int (nI (mbn (A 5) q g))), some (.int (nI (g)))] [] (hm G U i A B) := by
  intro n
  induction n with
  | zero =>
    intro g hg
    obtain rfl : g = A 5 0 := by omega
    refine y_iload_n C D_X7_memoryBy_4 rfl ?_
    refine y_aload_n C D_X7_memoryBy_5 rfl ?_
    refine y_get C D_X7_memoryBy_6 fl_X7_19 (hm_o hU) rfl ?_
    refine y_iconst C D_X7_memoryBy_9 ki_0 ?_
    refine z_ild C D_X7_memoryBy_10 (hm_st hU) (by omega) (by decide) rfl ?_
    refine y_icmp_ge C D_X7_memoryBy_11 (n_le (by omega) (by omega)) (fun c_11 => ?_) (fun c_11 => absurd (Nat.le_refl _) c_11)
    refine y_iload_n C D_X7_memoryBy_29 rfl ?_
    exact y_iret C E D_X7_memoryBy_30 (hr.symm) (rfl)
  | succ n ih =>
    intro g hg
    refine y_iload_n C D_X7_memoryBy_4 rfl ?_
    refine y_aload_n C D_X7_memoryBy_5 rfl ?_
    refine y_get C D_X7_memoryBy_6 fl_X7_19 (hm_o hU) rfl ?_
    refine y_iconst C D_X7_memoryBy_9 ki_0 ?_
    refine z_ild C D_X7_memoryBy_10 (hm_st hU) (by omega) (by decide) rfl ?_
    refine y_icmp_ge C D_X7_memoryBy_11 (n_le (by omega) (by omega)) (fun c_11 => absurd c_11 (by omega)) (fun c_11 => ?_)
    refine y_iload_n C D_X7_memoryBy_14 rfl ?_
    refine y_aload_n C D_X7_memoryBy_15 rfl ?_
    refine y_iload_n C D_X7_memoryBy_16 rfl ?_
    refine y_iload_n C D_X7_memoryBy_17 rfl ?_
    refine z_callV C D_X7_memoryBy_18 lk_X7_146 (c_X7_memoryOf hU (by omega) (by omega)) (hm_o hU) rfl rfl (Nat.le_of_ble_eq_true rfl) (Nat.le_of_ble_eq_true rfl) ⟨Nat.zero_le _, Nat.zero_le _⟩ ?_
    refine z_iadd C D_X7_memoryBy_21 ?_
    refine y_istore_n C D_X7_memoryBy_22 (by decide) (qok_s rfl rfl) ?_
    refine z_iinc (n := 1) C D_X7_memoryBy_23 rfl (by decide) (qok_s rfl rfl) ?_
    refine y_goto C D_X7_memoryBy_26 ?_
    exact ih (g + 1) (by omega)
theorem c_X7_memoryBy (hU : U.length = 122) {q : Nat} (hq : q < 5) (h0 : A 5 0 ≤ 6) : Ct l G yX7_memoryBy 1 [qr G 122, .int (nI q)] (hm G U i A B) (some (.int (nI (mbn (A 5) q (A 5 0))))) (hm G U i A B) := by
  refine ctm_intro (maxL := 4) kw_X7_memoryBy (by decide) (by decide) [some (qr G 122), some (.int (nI q)), none, none] rfl (Nat.le_of_ble_eq_true rfl) ?_
  intro X _ hcl hsl _ _ C E
  refine y_iconst C D_X7_memoryBy_0 ki_0 ?_
  refine y_istore_n C D_X7_memoryBy_1 (by decide) (qok_s rfl rfl) ?_
  refine y_iconst C D_X7_memoryBy_2 ki_0 ?_
  refine y_istore_n C D_X7_memoryBy_3 (by decide) (qok_s rfl rfl) ?_
  exact lp_X7_memoryBy hU hq h0 C E rfl (A 5 0) 0 (by omega)
theorem c_X7_supperB (hU : U.length = 122) (h3 : A 5 3 ≤ 5) {x : Int32} (hx : ¬ isx x (A 5 3)) : Ct l G yX7_supper 3 [qr G 122, .int x] (hm G U i A B) (some (.int (-1000001))) (hm G U i A B) := by
  refine ctm_intro (maxL := 2) kw_X7_supper (by decide) (by decide) [some (qr G 122), some (.int x)] rfl (Nat.le_of_ble_eq_true rfl) ?_
  intro X _ hcl hsl _ _ C E
  refine y_aload_n C D_X7_supper_0 rfl ?_
  refine y_iload_n C D_X7_supper_1 rfl ?_
  refine z_callV C D_X7_supper_2 lk_X7_171 (c_X7_isSleeper hU (by omega)) (hm_o hU) rfl rfl (Nat.le_of_ble_eq_true rfl) (Nat.le_of_ble_eq_true rfl) ⟨Nat.zero_le _, Nat.zero_le _⟩ ?_
  refine z_ifneB C D_X7_supper_5 (fun c_5 => absurd c_5 hx) (fun c_5 => ?_)
  refine y_ldc C D_X7_supper_8 lk_X7_67 ?_
  exact y_iret C E D_X7_supper_10 (rfl) (rfl)
theorem c_X7_supperS (hU : U.length = 122) (h3 : A 5 3 ≤ 5) {s : Nat} (hs1 : s < A 5 3) (hz : A 5 (11 + s) = 1) : Ct l G yX7_supper 3 [qr G 122, .int (nI s)] (hm G U i A B) (some (.int (-1000002))) (hm G U i A B) := by
  refine ctm_intro (maxL := 2) kw_X7_supper (by decide) (by decide) [some (qr G 122), some (.int (nI s))] rfl (Nat.le_of_ble_eq_true rfl) ?_
  intro X _ hcl hsl _ _ C E
  refine y_aload_n C D_X7_supper_0 rfl ?_
  refine y_iload_n C D_X7_supper_1 rfl ?_
  refine z_callV C D_X7_supper_2 lk_X7_171 (c_X7_isSleeper hU (by omega)) (hm_o hU) rfl rfl (Nat.le_of_ble_eq_true rfl) (Nat.le_of_ble_eq_true rfl) ⟨Nat.zero_le _, Nat.zero_le _⟩ ?_
  refine z_ifneB C D_X7_supper_5 (fun c_5 => ?_) (fun c_5 => absurd (isx_n (by omega) hs1) c_5)
  refine y_aload_n C D_X7_supper_11 rfl ?_
  refine y_get C D_X7_supper_12 fl_X7_19 (hm_o hU) rfl ?_
  refine y_bipush C D_X7_supper_15 kb_11 ?_
  refine y_iload_n C D_X7_supper_17 rfl ?_
  refine z_iadd C D_X7_supper_18 ?_
  refine z_ild C D_X7_supper_19 (hm_st hU) (by omega) (by decide) rfl ?_
  refine y_iconst C D_X7_supper_20 ki_1 ?_
  refine y_icmp_ne C D_X7_supper_21 (n_eq (by omega) (by omega)) (fun c_21 => absurd hz c_21) (fun c_21 => ?_)
  refine y_ldc C D_X7_supper_24 lk_X7_162 ?_
  exact y_iret C E D_X7_supper_26 (rfl) (rfl)
theorem c_X7_supper (hU : U.length = 122) (h3 : A 5 3 ≤ 5) {s : Nat} (hV : Va (A 5)) (hi : i 17 ≤ 24) (hs1 : s < A 5 3) (hz : A 5 (11 + s) = 0) : Ct l G yX7_supper 3 [qr G 122, .int (nI s)] (hm G U i A B) (some (.int (nI (ones (spn (va_up (A 5) (11 + s) 1) (A 5 3)))))) (hm G U (ntI i) (va_up (va_up A 16 (ntA i A)) 5 (va_up (A 5) (11 + s) 1)) B) := by
  refine ctm_intro (maxL := 2) kw_X7_supper (by decide) (by decide) [some (qr G 122), some (.int (nI s))] rfl (Nat.le_of_ble_eq_true rfl) ?_
  intro X _ hcl hsl _ _ C E
  refine y_aload_n C D_X7_supper_0 rfl ?_
  refine y_iload_n C D_X7_supper_1 rfl ?_
  refine z_callV C D_X7_supper_2 lk_X7_171 (c_X7_isSleeper hU (by omega)) (hm_o hU) rfl rfl (Nat.le_of_ble_eq_true rfl) (Nat.le_of_ble_eq_true rfl) ⟨Nat.zero_le _, Nat.zero_le _⟩ ?_
  refine z_ifneB C D_X7_supper_5 (fun c_5 => ?_) (fun c_5 => absurd (isx_n (by omega) hs1) c_5)
  refine y_aload_n C D_X7_supper_11 rfl ?_
  refine y_get C D_X7_supper_12 fl_X7_19 (hm_o hU) rfl ?_
  refine y_bipush C D_X7_supper_15 kb_11 ?_
  refine y_iload_n C D_X7_supper_17 rfl ?_
  refine z_iadd C D_X7_supper_18 ?_
  refine z_ild C D_X7_supper_19 (hm_st hU) (by omega) (by decide) rfl ?_
  refine y_iconst C D_X7_supper_20 ki_1 ?_
  refine y_icmp_ne C D_X7_supper_21 (n_eq (by omega) (by omega)) (fun c_21 => ?_) (fun c_21 => absurd c_21 (by omega))
  refine y_aload_n C D_X7_supper_27 rfl ?_
  refine z_callVv C D_X7_supper_28 lk_X7_165 (c_X7_nt hU hi) (hm_o hU) rfl rfl (Nat.le_of_ble_eq_true rfl) (Nat.le_of_ble_eq_true rfl) ⟨Nat.zero_le _, Nat.zero_le _⟩ ?_
  have e5 : va_up A 16 (ntA i A) 5 = A 5 := up_ne _ _ (by decide)
  refine y_aload_n C D_X7_supper_31 rfl ?_
  refine y_get C D_X7_supper_32 fl_X7_19 (hm_o hU) rfl ?_
  refine y_bipush C D_X7_supper_35 kb_11 ?_
  refine y_iload_n C D_X7_supper_37 rfl ?_
  refine z_iadd C D_X7_supper_38 ?_
  refine y_iconst C D_X7_supper_39 ki_1 ?_
  refine z_ist C D_X7_supper_40 (hm_st hU) (by omega) (by decide) (hm_wst hU _ _) ?_
  refine y_aload_n C D_X7_supper_41 rfl ?_
  rw [e5]
  have q5 : va_up (va_up A 16 (ntA i A)) 5 (va_up (A 5) (11 + s) 1) 5 = va_up (A 5) (11 + s) 1 := up_eq _ _ _
  refine z_callV C D_X7_supper_42 lk_X7_174 (c_X7_suppered hU (by rw [q5]; rw [up_ne _ _ (by omega)]; omega)) (hm_o hU) rfl rfl (Nat.le_of_ble_eq_true rfl) (Nat.le_of_ble_eq_true rfl) ⟨Nat.zero_le _, Nat.zero_le _⟩ ?_
  rw [q5, up_ne _ _ (by omega : (3 : Nat) ≠ 11 + s)]
  have hlt : spn (va_up (A 5) (11 + s) 1) (A 5 3) < 32 := spn_lt (up_sup hV.sup) _ (by omega)
  refine z_callS C D_X7_supper_45 lk_X7_177 (c_X7_ones hlt) rfl rfl (Nat.le_of_ble_eq_true rfl) (Nat.le_of_ble_eq_true rfl) ⟨Nat.zero_le _, Nat.zero_le _⟩ ?_
  exact y_iret C E D_X7_supper_48 (rfl) (rfl)
theorem c_X7_feverB (hU : U.length = 122) (h3 : A 5 3 ≤ 5) {x : Int32} (hx : ¬ isx x (A 5 3)) : Ct l G yX7_fever 3 [qr G 122, .int x] (hm G U i A B) (some (.int (-1000001))) (hm G U i A B) := by
  refine ctm_intro (maxL := 2) kw_X7_fever (by decide) (by decide) [some (qr G 122), some (.int x)] rfl (Nat.le_of_ble_eq_true rfl) ?_
  intro X _ hcl hsl _ _ C E
  refine y_aload_n C D_X7_fever_0 rfl ?_
  refine y_iload_n C D_X7_fever_1 rfl ?_
  refine z_callV C D_X7_fever_2 lk_X7_171 (c_X7_isSleeper hU (by omega)) (hm_o hU) rfl rfl (Nat.le_of_ble_eq_true rfl) (Nat.le_of_ble_eq_true rfl) ⟨Nat.zero_le _, Nat.zero_le _⟩ ?_
  refine z_ifneB C D_X7_fever_5 (fun c_5 => absurd c_5 hx) (fun c_5 => ?_)
  refine y_ldc C D_X7_fever_8 lk_X7_67 ?_
  exact y_iret C E D_X7_fever_10 (rfl) (rfl)
theorem c_X7_feverS (hU : U.length = 122) (h3 : A 5 3 ≤ 5) {s : Nat} (hs1 : s < A 5 3) (hz : A 5 (16 + s) = 1) : Ct l G yX7_fever 3 [qr G 122, .int (nI s)] (hm G U i A B) (some (.int (-1000002))) (hm G U i A B) := by
  refine ctm_intro (maxL := 2) kw_X7_fever (by decide) (by decide) [some (qr G 122), some (.int (nI s))] rfl (Nat.le_of_ble_eq_true rfl) ?_
  intro X _ hcl hsl _ _ C E
  refine y_aload_n C D_X7_fever_0 rfl ?_
  refine y_iload_n C D_X7_fever_1 rfl ?_
  refine z_callV C D_X7_fever_2 lk_X7_171 (c_X7_isSleeper hU (by omega)) (hm_o hU) rfl rfl (Nat.le_of_ble_eq_true rfl) (Nat.le_of_ble_eq_true rfl) ⟨Nat.zero_le _, Nat.zero_le _⟩ ?_
  refine z_ifneB C D_X7_fever_5 (fun c_5 => ?_) (fun c_5 => absurd (isx_n (by omega) hs1) c_5)
  refine y_aload_n C D_X7_fever_11 rfl ?_
  refine y_get C D_X7_fever_12 fl_X7_19 (hm_o hU) rfl ?_
  refine y_bipush C D_X7_fever_15 kb_16 ?_
  refine y_iload_n C D_X7_fever_17 rfl ?_
  refine z_iadd C D_X7_fever_18 ?_
  refine z_ild C D_X7_fever_19 (hm_st hU) (by omega) (by decide) rfl ?_
  refine y_iconst C D_X7_fever_20 ki_1 ?_
  refine y_icmp_ne C D_X7_fever_21 (n_eq (by omega) (by omega)) (fun c_21 => absurd hz c_21) (fun c_21 => ?_)
  refine y_ldc C D_X7_fever_24 lk_X7_162 ?_
  exact y_iret C E D_X7_fever_26 (rfl) (rfl)
theorem c_X7_fever (hU : U.length = 122) {s : Nat} (hV : Va (A 5)) (h4 : A 5 4 < 1999) (hi : i 17 ≤ 24) (hs1 : s < A 5 3) (hz : A 5 (16 + s) = 0) : Ct l G yX7_fever 3 [qr G 122, .int (nI s)] (hm G U i A B) (some (.int (nI (dr (va_up (A 5) (16 + s) 1) s)))) (hm G U (ntI i) (va_up (va_up A 16 (ntA i A)) 5 (va_up (A 5) (16 + s) 1)) B) := by
  refine ctm_intro (maxL := 2) kw_X7_fever (by decide) (by decide) [some (qr G 122), some (.int (nI s))] rfl (Nat.le_of_ble_eq_true rfl) ?_
  intro X _ hcl hsl _ _ C E
  have v0 := hV.1
  have v1 := hV.2.1
  have v2 := hV.2.2.1
  have v3 := hV.2.2.2.1
  have v5 := hV.k64
  have hB : ∀ k, A 5 k < 2000 := fun k => hV.lt (by omega) k
  refine y_aload_n C D_X7_fever_0 rfl ?_
  refine y_iload_n C D_X7_fever_1 rfl ?_
  refine z_callV C D_X7_fever_2 lk_X7_171 (c_X7_isSleeper hU (by omega)) (hm_o hU) rfl rfl (Nat.le_of_ble_eq_true rfl) (Nat.le_of_ble_eq_true rfl) ⟨Nat.zero_le _, Nat.zero_le _⟩ ?_
  refine z_ifneB C D_X7_fever_5 (fun c_5 => ?_) (fun c_5 => absurd (isx_n (by omega) hs1) c_5)
  refine y_aload_n C D_X7_fever_11 rfl ?_
  refine y_get C D_X7_fever_12 fl_X7_19 (hm_o hU) rfl ?_
  refine y_bipush C D_X7_fever_15 kb_16 ?_
  refine y_iload_n C D_X7_fever_17 rfl ?_
  refine z_iadd C D_X7_fever_18 ?_
  refine z_ild C D_X7_fever_19 (hm_st hU) (by omega) (by decide) rfl ?_
  refine y_iconst C D_X7_fever_20 ki_1 ?_
  refine y_icmp_ne C D_X7_fever_21 (n_eq (by omega) (by omega)) (fun c_21 => ?_) (fun c_21 => absurd c_21 (by omega))
  refine y_aload_n C D_X7_fever_27 rfl ?_
  refine z_callVv C D_X7_fever_28 lk_X7_165 (c_X7_nt hU hi) (hm_o hU) rfl rfl (Nat.le_of_ble_eq_true rfl) (Nat.le_of_ble_eq_true rfl) ⟨Nat.zero_le _, Nat.zero_le _⟩ ?_
  have e5 : va_up A 16 (ntA i A) 5 = A 5 := up_ne _ _ (by decide)
  refine y_aload_n C D_X7_fever_31 rfl ?_
  refine y_get C D_X7_fever_32 fl_X7_19 (hm_o hU) rfl ?_
  refine y_bipush C D_X7_fever_35 kb_16 ?_
  refine y_iload_n C D_X7_fever_37 rfl ?_
  refine z_iadd C D_X7_fever_38 ?_
  refine y_iconst C D_X7_fever_39 ki_1 ?_
  refine z_ist C D_X7_fever_40 (hm_st hU) (by omega) (by decide) (hm_wst hU _ _) ?_
  refine y_aload_n C D_X7_fever_41 rfl ?_
  refine y_iload_n C D_X7_fever_42 rfl ?_
  rw [e5]
  have q5 : va_up (va_up A 16 (ntA i A)) 5 (va_up (A 5) (16 + s) 1) 5 = va_up (A 5) (16 + s) 1 := up_eq _ _ _
  have q0 : va_up (A 5) (16 + s) 1 0 = A 5 0 := up_ne _ _ (by omega)
  refine z_callV C D_X7_fever_43 lk_X7_152 (c_X7_dreams hU (by omega) (by rw [q5, q0]; exact v0.1) (by rw [q5, q0]; exact v0.2) (by rw [q5]; exact up_lt hB (by decide)) (by rw [q5, up_ne _ _ (by omega)]; exact v5)) (hm_o hU) rfl rfl (Nat.le_of_ble_eq_true rfl) (Nat.le_of_ble_eq_true rfl) ⟨Nat.zero_le _, Nat.zero_le _⟩ ?_
  rw [q5]
  exact y_iret C E D_X7_fever_46 (rfl) (rfl)
theorem c_X7_tellB (hU : U.length = 122) (h3 : A 5 3 ≤ 5) (h0 : A 5 0 ≤ 6) {sx gx : Int32} (hx : ¬ isx sx (A 5 3) ∨ ¬ isx gx (A 5 0)) : Ct l G yX7_tell 3 [qr G 122, .int sx, .int gx] (hm G U i A B) (some (.int (-1000001))) (hm G U i A B) := by
  refine ctm_intro (maxL := 4) kw_X7_tell (by decide) (by decide) [some (qr G 122), some (.int sx), some (.int gx), none] rfl (Nat.le_of_ble_eq_true rfl) ?_
  intro X _ hcl hsl _ _ C E
  refine y_aload_n C D_X7_tell_0 rfl ?_
  refine y_iload_n C D_X7_tell_1 rfl ?_
  refine z_callV C D_X7_tell_2 lk_X7_171 (c_X7_isSleeper hU (by omega)) (hm_o hU) rfl rfl (Nat.le_of_ble_eq_true rfl) (Nat.le_of_ble_eq_true rfl) ⟨Nat.zero_le _, Nat.zero_le _⟩ ?_
  refine z_ifeqB C D_X7_tell_5 (fun c_5 => ?_) (fun c_5 => ?_)
  · refine y_ldc C D_X7_tell_16 lk_X7_67 ?_
    exact y_iret C E D_X7_tell_18 (rfl) (rfl)
  · refine y_aload_n C D_X7_tell_8 rfl ?_
    refine y_iload_n C D_X7_tell_9 rfl ?_
    refine z_callV C D_X7_tell_10 lk_X7_180 (c_X7_isGrave hU (by omega)) (hm_o hU) rfl rfl (Nat.le_of_ble_eq_true rfl) (Nat.le_of_ble_eq_true rfl) ⟨Nat.zero_le _, Nat.zero_le _⟩ ?_
    refine z_ifneB C D_X7_tell_13 (fun c_13 => hx.elim (fun z => absurd c_5 z) (fun z => absurd c_13 z)) (fun c_13 => ?_)
    refine y_ldc C D_X7_tell_16 lk_X7_67 ?_
    exact y_iret C E D_X7_tell_18 (rfl) (rfl)
theorem c_X7_tellS (hU : U.length = 122) (h3 : A 5 3 ≤ 5) (h0 : A 5 0 ≤ 6) {s g : Nat} (h5 : A 5 5 < 64) (hs1 : s < A 5 3) (hg1 : g < A 5 0) (hz : ¬ hs (A 5 5) g) : Ct l G yX7_tell 3 [qr G 122, .int (nI s), .int (nI g)] (hm G U i A B) (some (.int (-1000002))) (hm G U i A B) := by
  refine ctm_intro (maxL := 4) kw_X7_tell (by decide) (by decide) [some (qr G 122), some (.int (nI s)), some (.int (nI g)), none] rfl (Nat.le_of_ble_eq_true rfl) ?_
  intro X _ hcl hsl _ _ C E
  refine y_aload_n C D_X7_tell_0 rfl ?_
  refine y_iload_n C D_X7_tell_1 rfl ?_
  refine z_callV C D_X7_tell_2 lk_X7_171 (c_X7_isSleeper hU (by omega)) (hm_o hU) rfl rfl (Nat.le_of_ble_eq_true rfl) (Nat.le_of_ble_eq_true rfl) ⟨Nat.zero_le _, Nat.zero_le _⟩ ?_
  refine z_ifeqB C D_X7_tell_5 (fun c_5 => absurd (isx_n (by omega) hs1) c_5) (fun c_5 => ?_)
  refine y_aload_n C D_X7_tell_8 rfl ?_
  refine y_iload_n C D_X7_tell_9 rfl ?_
  refine z_callV C D_X7_tell_10 lk_X7_180 (c_X7_isGrave hU (by omega)) (hm_o hU) rfl rfl (Nat.le_of_ble_eq_true rfl) (Nat.le_of_ble_eq_true rfl) ⟨Nat.zero_le _, Nat.zero_le _⟩ ?_
  refine z_ifneB C D_X7_tell_13 (fun c_13 => ?_) (fun c_13 => absurd (isx_n (by omega) hg1) c_13)
  refine y_aload_n C D_X7_tell_19 rfl ?_
  refine y_get C D_X7_tell_20 fl_X7_19 (hm_o hU) rfl ?_
  refine y_iconst C D_X7_tell_23 ki_5 ?_
  refine z_ild C D_X7_tell_24 (hm_st hU) (by omega) (by decide) rfl ?_
  refine y_iload_n C D_X7_tell_25 rfl ?_
  refine z_callS C D_X7_tell_26 lk_X7_142 (c_X7_has (by omega) (by omega)) rfl rfl (Nat.le_of_ble_eq_true rfl) (Nat.le_of_ble_eq_true rfl) ⟨Nat.zero_le _, Nat.zero_le _⟩ ?_
  refine z_ifneB C D_X7_tell_29 (fun c_29 => absurd c_29 hz) (fun c_29 => ?_)
  refine y_ldc C D_X7_tell_32 lk_X7_162 ?_
  exact y_iret C E D_X7_tell_34 (rfl) (rfl)
theorem c_X7_tell (hU : U.length = 122) (h3 : A 5 3 ≤ 5) (h0 : A 5 0 ≤ 6) {s g : Nat} (h5 : A 5 5 < 64) (hi : i 17 ≤ 24) (hs1 : s < A 5 3) (hg1 : g < A 5 0) (hz : hs (A 5 5) g) : Ct l G yX7_tell 3 [qr G 122, .int (nI s), .int (nI g)] (hm G U i A B) (some (.int (nI (me (A 5) s g)))) (hm G U (ntI i) (va_up (va_up A 16 (ntA i A)) 5 (va_up (A 5) (21 + 6 * s + g) 27)) B) := by
  refine ctm_intro (maxL := 4) kw_X7_tell (by decide) (by decide) [some (qr G 122), some (.int (nI s)), some (.int (nI g)), none] rfl (Nat.le_of_ble_eq_true rfl) ?_
  intro X _ hcl hsl _ _ C E
  refine y_aload_n C D_X7_tell_0 rfl ?_
  refine y_iload_n C D_X7_tell_1 rfl ?_
  refine z_callV C D_X7_tell_2 lk_X7_171 (c_X7_isSleeper hU (by omega)) (hm_o hU) rfl rfl (Nat.le_of_ble_eq_true rfl) (Nat.le_of_ble_eq_true rfl) ⟨Nat.zero_le _, Nat.zero_le _⟩ ?_
  refine z_ifeqB C D_X7_tell_5 (fun c_5 => absurd (isx_n (by omega) hs1) c_5) (fun c_5 => ?_)
  refine y_aload_n C D_X7_tell_8 rfl ?_
  refine y_iload_n C D_X7_tell_9 rfl ?_
  refine z_callV C D_X7_tell_10 lk_X7_180 (c_X7_isGrave hU (by omega)) (hm_o hU) rfl rfl (Nat.le_of_ble_eq_true rfl) (Nat.le_of_ble_eq_true rfl) ⟨Nat.zero_le _, Nat.zero_le _⟩ ?_
  refine z_ifneB C D_X7_tell_13 (fun c_13 => ?_) (fun c_13 => absurd (isx_n (by omega) hg1) c_13)
  refine y_aload_n C D_X7_tell_19 rfl ?_
  refine y_get C D_X7_tell_20 fl_X7_19 (hm_o hU) rfl ?_
  refine y_iconst C D_X7_tell_23 ki_5 ?_
  refine z_ild C D_X7_tell_24 (hm_st hU) (by omega) (by decide) rfl ?_
  refine y_iload_n C D_X7_tell_25 rfl ?_
  refine z_callS C D_X7_tell_26 lk_X7_142 (c_X7_has (by omega) (by omega)) rfl rfl (Nat.le_of_ble_eq_true rfl) (Nat.le_of_ble_eq_true rfl) ⟨Nat.zero_le _, Nat.zero_le _⟩ ?_
  refine z_ifneB C D_X7_tell_29 (fun c_29 => ?_) (fun c_29 => absurd hz c_29)
  refine y_aload_n C D_X7_tell_35 rfl ?_
  refine z_callVv C D_X7_tell_36 lk_X7_165 (c_X7_nt hU hi) (hm_o hU) rfl rfl (Nat.le_of_ble_eq_true rfl) (Nat.le_of_ble_eq_true rfl) ⟨Nat.zero_le _, Nat.zero_le _⟩ ?_
  have e5 : va_up A 16 (ntA i A) 5 = A 5 := up_ne _ _ (by decide)
  refine y_aload_n C D_X7_tell_39 rfl ?_
  refine y_iload_n C D_X7_tell_40 rfl ?_
  refine y_iload_n C D_X7_tell_41 rfl ?_
  refine z_callV C D_X7_tell_42 lk_X7_146 (c_X7_memoryOf hU (by omega) (by omega)) (hm_o hU) rfl rfl (Nat.le_of_ble_eq_true rfl) (Nat.le_of_ble_eq_true rfl) ⟨Nat.zero_le _, Nat.zero_le _⟩ ?_
  rw [e5]
  refine y_istore_n C D_X7_tell_45 (by decide) (qok_s rfl rfl) ?_
  refine y_aload_n C D_X7_tell_46 rfl ?_
  refine y_get C D_X7_tell_47 fl_X7_19 (hm_o hU) rfl ?_
  refine y_bipush C D_X7_tell_50 kb_21 ?_
  refine y_bipush C D_X7_tell_52 kb_6 ?_
  refine y_iload_n C D_X7_tell_54 rfl ?_
  refine z_imul C D_X7_tell_55 ?_
  refine z_iadd C D_X7_tell_56 ?_
  refine y_iload_n C D_X7_tell_57 rfl ?_
  refine z_iadd C D_X7_tell_58 ?_
  refine y_bipush C D_X7_tell_59 kb_27 ?_
  refine z_ist C D_X7_tell_61 (hm_st hU) (by omega) (by decide) (hm_wst hU _ _) ?_
  refine y_iload_n C D_X7_tell_62 rfl ?_
  exact y_iret C E D_X7_tell_63 (rfl) (by rw [e5])
theorem c_X7_buryB (hU : U.length = 122) (h3 : A 5 3 ≤ 5) (h0 : A 5 0 ≤ 6) {sx gx : Int32} (hx : ¬ isx sx (A 5 3) ∨ ¬ isx gx (A 5 0)) : Ct l G yX7_bury 3 [qr G 122, .int gx, .int sx] (hm G U i A B) (some (.int (-1000001))) (hm G U i A B) := by
  refine ctm_intro (maxL := 3) kw_X7_bury (by decide) (by decide) [some (qr G 122), some (.int gx), some (.int sx)] rfl (Nat.le_of_ble_eq_true rfl) ?_
  intro X _ hcl hsl _ _ C E
  refine y_aload_n C D_X7_bury_0 rfl ?_
  refine y_iload_n C D_X7_bury_1 rfl ?_
  refine z_callV C D_X7_bury_2 lk_X7_171 (c_X7_isSleeper hU (by omega)) (hm_o hU) rfl rfl (Nat.le_of_ble_eq_true rfl) (Nat.le_of_ble_eq_true rfl) ⟨Nat.zero_le _, Nat.zero_le _⟩ ?_
  refine z_ifeqB C D_X7_bury_5 (fun c_5 => ?_) (fun c_5 => ?_)
  · refine y_ldc C D_X7_bury_16 lk_X7_67 ?_
    exact y_iret C E D_X7_bury_18 (rfl) (rfl)
  · refine y_aload_n C D_X7_bury_8 rfl ?_
    refine y_iload_n C D_X7_bury_9 rfl ?_
    refine z_callV C D_X7_bury_10 lk_X7_180 (c_X7_isGrave hU (by omega)) (hm_o hU) rfl rfl (Nat.le_of_ble_eq_true rfl) (Nat.le_of_ble_eq_true rfl) ⟨Nat.zero_le _, Nat.zero_le _⟩ ?_
    refine z_ifneB C D_X7_bury_13 (fun c_13 => hx.elim (fun z => absurd c_5 z) (fun z => absurd c_13 z)) (fun c_13 => ?_)
    refine y_ldc C D_X7_bury_16 lk_X7_67 ?_
    exact y_iret C E D_X7_bury_18 (rfl) (rfl)
theorem c_X7_buryS (hU : U.length = 122) (h3 : A 5 3 ≤ 5) (h0 : A 5 0 ≤ 6) {s g : Nat} (h5 : A 5 5 < 64) (hs1 : s < A 5 3) (hg1 : g < A 5 0) (hz : hs (A 5 5) g) : Ct l G yX7_bury 3 [qr G 122, .int (nI g), .int (nI s)] (hm G U i A B) (some (.int (-1000002))) (hm G U i A B) := by
  refine ctm_intro (maxL := 3) kw_X7_bury (by decide) (by decide) [some (qr G 122), some (.int (nI g)), some (.int (nI s))] rfl (Nat.le_of_ble_eq_true rfl) ?_
  intro X _ hcl hsl _ _ C E
  refine y_aload_n C D_X7_bury_0 rfl ?_
  refine y_iload_n C D_X7_bury_1 rfl ?_
  refine z_callV C D_X7_bury_2 lk_X7_171 (c_X7_isSleeper hU (by omega)) (hm_o hU) rfl rfl (Nat.le_of_ble_eq_true rfl) (Nat.le_of_ble_eq_true rfl) ⟨Nat.zero_le _, Nat.zero_le _⟩ ?_
  refine z_ifeqB C D_X7_bury_5 (fun c_5 => absurd (isx_n (by omega) hs1) c_5) (fun c_5 => ?_)
  refine y_aload_n C D_X7_bury_8 rfl ?_
  refine y_iload_n C D_X7_bury_9 rfl ?_
  refine z_callV C D_X7_bury_10 lk_X7_180 (c_X7_isGrave hU (by omega)) (hm_o hU) rfl rfl (Nat.le_of_ble_eq_true rfl) (Nat.le_of_ble_eq_true rfl) ⟨Nat.zero_le _, Nat.zero_le _⟩ ?_
  refine z_ifneB C D_X7_bury_13 (fun c_13 => ?_) (fun c_13 => absurd (isx_n (by omega) hg1) c_13)
  refine y_aload_n C D_X7_bury_19 rfl ?_
  refine y_get C D_X7_bury_20 fl_X7_19 (hm_o hU) rfl ?_
  refine y_iconst C D_X7_bury_23 ki_5 ?_
  refine z_ild C D_X7_bury_24 (hm_st hU) (by omega) (by decide) rfl ?_
  refine y_iload_n C D_X7_bury_25 rfl ?_
  refine z_callS C D_X7_bury_26 lk_X7_142 (c_X7_has (by omega) (by omega)) rfl rfl (Nat.le_of_ble_eq_true rfl) (Nat.le_of_ble_eq_true rfl) ⟨Nat.zero_le _, Nat.zero_le _⟩ ?_
  refine z_ifeqB C D_X7_bury_29 (fun c_29 => absurd hz c_29) (fun c_29 => ?_)
  refine y_ldc C D_X7_bury_32 lk_X7_162 ?_
  exact y_iret C E D_X7_bury_34 (rfl) (rfl)
theorem c_X7_bury (hU : U.length = 122) (h3 : A 5 3 ≤ 5) (h0 : A 5 0 ≤ 6) {s g : Nat} (h5 : A 5 5 < 64) (hi : i 17 ≤ 24) (hs1 : s < A 5 3) (hg1 : g < A 5 0) (hz : ¬ hs (A 5 5) g) : Ct l G yX7_bury 3 [qr G 122, .int (nI g), .int (nI s)] (hm G U i A B) (some (.int (nI (A 5 5 ||| 2 ^ g)))) (hm G U (ntI i) (va_up (va_up A 16 (ntA i A)) 5 (va_up (va_up (A 5) 5 (A 5 5 ||| 2 ^ g)) (21 + 6 * s + g) 27)) B) := by
  refine ctm_intro (maxL := 3) kw_X7_bury (by decide) (by decide) [some (qr G 122), some (.int (nI g)), some (.int (nI s))] rfl (Nat.le_of_ble_eq_true rfl) ?_
  intro X _ hcl hsl _ _ C E
  refine y_aload_n C D_X7_bury_0 rfl ?_
  refine y_iload_n C D_X7_bury_1 rfl ?_
  refine z_callV C D_X7_bury_2 lk_X7_171 (c_X7_isSleeper hU (by omega)) (hm_o hU) rfl rfl (Nat.le_of_ble_eq_true rfl) (Nat.le_of_ble_eq_true rfl) ⟨Nat.zero_le _, Nat.zero_le _⟩ ?_
  refine z_ifeqB C D_X7_bury_5 (fun c_5 => absurd (isx_n (by omega) hs1) c_5) (fun c_5 => ?_)
  refine y_aload_n C D_X7_bury_8 rfl ?_
  refine y_iload_n C D_X7_bury_9 rfl ?_
  refine z_callV C D_X7_bury_10 lk_X7_180 (c_X7_isGrave hU (by omega)) (hm_o hU) rfl rfl (Nat.le_of_ble_eq_true rfl) (Nat.le_of_ble_eq_true rfl) ⟨Nat.zero_le _, Nat.zero_le _⟩ ?_
  refine z_ifneB C D_X7_bury_13 (fun c_13 => ?_) (fun c_13 => absurd (isx_n (by omega) hg1) c_13)
  refine y_aload_n C D_X7_bury_19 rfl ?_
  refine y_get C D_X7_bury_20 fl_X7_19 (hm_o hU) rfl ?_
  refine y_iconst C D_X7_bury_23 ki_5 ?_
  refine z_ild C D_X7_bury_24 (hm_st hU) (by omega) (by decide) rfl ?_
  refine y_iload_n C D_X7_bury_25 rfl ?_
  refine z_callS C D_X7_bury_26 lk_X7_142 (c_X7_has (by omega) (by omega)) rfl rfl (Nat.le_of_ble_eq_true rfl) (Nat.le_of_ble_eq_true rfl) ⟨Nat.zero_le _, Nat.zero_le _⟩ ?_
  refine z_ifeqB C D_X7_bury_29 (fun c_29 => ?_) (fun c_29 => absurd c_29 hz)
  refine y_aload_n C D_X7_bury_35 rfl ?_
  refine z_callVv C D_X7_bury_36 lk_X7_165 (c_X7_nt hU hi) (hm_o hU) rfl rfl (Nat.le_of_ble_eq_true rfl) (Nat.le_of_ble_eq_true rfl) ⟨Nat.zero_le _, Nat.zero_le _⟩ ?_
  have e5 : va_up A 16 (ntA i A) 5 = A 5 := up_ne _ _ (by decide)
  refine y_aload_n C D_X7_bury_39 rfl ?_
  refine y_get C D_X7_bury_40 fl_X7_19 (hm_o hU) rfl ?_
  refine y_iconst C D_X7_bury_43 ki_5 ?_
  refine y_dup2 C D_X7_bury_44 rfl rfl ?_
  refine z_ild C D_X7_bury_45 (hm_st hU) (by omega) (by decide) rfl ?_
  refine y_iconst C D_X7_bury_46 ki_1 ?_
  refine y_iload_n C D_X7_bury_47 rfl ?_
  refine z_ishl1 C D_X7_bury_48 (by omega) ?_
  refine z_ior C D_X7_bury_49 ?_
  refine z_ist C D_X7_bury_50 (hm_st hU) (by omega) (by decide) (hm_wst hU _ _) ?_
  refine y_aload_n C D_X7_bury_51 rfl ?_
  refine y_get C D_X7_bury_52 fl_X7_19 (hm_o hU) rfl ?_
  refine y_bipush C D_X7_bury_55 kb_21 ?_
  refine y_bipush C D_X7_bury_57 kb_6 ?_
  refine y_iload_n C D_X7_bury_59 rfl ?_
  refine z_imul C D_X7_bury_60 ?_
  refine z_iadd C D_X7_bury_61 ?_
  refine y_iload_n C D_X7_bury_62 rfl ?_
  refine z_iadd C D_X7_bury_63 ?_
  refine y_bipush C D_X7_bury_64 kb_27 ?_
  refine z_ist C D_X7_bury_66 (hm_st hU) (by omega) (by decide) (hm_wst hU _ _) ?_
  refine y_aload_n C D_X7_bury_67 rfl ?_
  refine y_get C D_X7_bury_68 fl_X7_19 (hm_o hU) rfl ?_
  refine y_iconst C D_X7_bury_71 ki_5 ?_
  refine z_ild C D_X7_bury_72 (hm_st hU) (by omega) (by decide) rfl ?_
  exact y_iret C E D_X7_bury_73 (by rw [e5, up_eq, up_eq, up_ne _ _ (by omega : (5 : Nat) ≠ 21 + 6 * s + g), up_eq]) (by rw [e5, up_eq, bx_uu])
end
end
