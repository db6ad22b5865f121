section
-- ===== PART A: goes FIRST, ahead of the names: the tables' words, and 'selects' of the private methods out of them =====
/-- a private method of a class that the tables say can be made, by its rows of tables_1 -/
def lw_okq (q : MethodName × Nat) : Prop := (q.1.cls ≠ "java/lang/invoke/MethodHandle" ∧ q.1.cls ≠ "java/lang/invoke/VarHandle") ∧ Cond.instantiable q.1.cls q.2 ∈ tables_1 ∧ Cond.privateMethod q.1 ∈ tables_1 ∧ Cond.instanceMethod q.1 ∈ tables_1
theorem lw_p0 : lw_okq (⟨"DreamGraves", "found", "(I)I"⟩, 8) := ⟨⟨by decide +kernel, by decide +kernel⟩, List.mem_of_getElem? (i := 13) (by decide +kernel), List.mem_of_getElem? (i := 230) (by decide +kernel), List.mem_of_getElem? (i := 231) (by decide +kernel)⟩
theorem lw_p1 : lw_okq (⟨"DreamGraves", "sound", "(I)I"⟩, 8) := ⟨⟨by decide +kernel, by decide +kernel⟩, List.mem_of_getElem? (i := 13) (by decide +kernel), List.mem_of_getElem? (i := 242) (by decide +kernel), List.mem_of_getElem? (i := 243) (by decide +kernel)⟩
theorem lw_p2 : lw_okq (⟨"DreamGraves$Tape", "nextToken", "()V"⟩, 9) := ⟨⟨by decide +kernel, by decide +kernel⟩, List.mem_of_getElem? (i := 23) (by decide +kernel), List.mem_of_getElem? (i := 301) (by decide +kernel), List.mem_of_getElem? (i := 302) (by decide +kernel)⟩
theorem lw_p3 : lw_okq (⟨"DreamGraves$Tape", "takeFigures", "()V"⟩, 9) := ⟨⟨by decide +kernel, by decide +kernel⟩, List.mem_of_getElem? (i := 23) (by decide +kernel), List.mem_of_getElem? (i := 308) (by decide +kernel), List.mem_of_getElem? (i := 309) (by decide +kernel)⟩
theorem lw_p4 : lw_okq (⟨"DreamGraves$Tape", "readLaw", "()Z"⟩, 9) := ⟨⟨by decide +kernel, by decide +kernel⟩, List.mem_of_getElem? (i := 23) (by decide +kernel), List.mem_of_getElem? (i := 312) (by decide +kernel), List.mem_of_getElem? (i := 313) (by decide +kernel)⟩
theorem lw_p5 : lw_okq (⟨"DreamGraves$Tape", "takeSign", "(I)Z"⟩, 9) := ⟨⟨by decide +kernel, by decide +kernel⟩, List.mem_of_getElem? (i := 23) (by decide +kernel), List.mem_of_getElem? (i := 316) (by decide +kernel), List.mem_of_getElem? (i := 317) (by decide +kernel)⟩
theorem lw_p6 : lw_okq (⟨"DreamGraves$Tape", "fail", "(I)Z"⟩, 9) := ⟨⟨by decide +kernel, by decide +kernel⟩, List.mem_of_getElem? (i := 23) (by decide +kernel), List.mem_of_getElem? (i := 320) (by decide +kernel), List.mem_of_getElem? (i := 321) (by decide +kernel)⟩
theorem lw_p7 : lw_okq (⟨"DreamGraves$Tape", "takeNumber", "(II)Z"⟩, 9) := ⟨⟨by decide +kernel, by decide +kernel⟩, List.mem_of_getElem? (i := 23) (by decide +kernel), List.mem_of_getElem? (i := 324) (by decide +kernel), List.mem_of_getElem? (i := 325) (by decide +kernel)⟩
theorem lw_p8 : lw_okq (⟨"DreamGraves$Tape", "readSleepers", "()Z"⟩, 9) := ⟨⟨by decide +kernel, by decide +kernel⟩, List.mem_of_getElem? (i := 23) (by decide +kernel), List.mem_of_getElem? (i := 331) (by decide +kernel), List.mem_of_getElem? (i := 332) (by decide +kernel)⟩
theorem lw_p9 : lw_okq (⟨"DreamGraves$Tape", "readSleeper", "(I)Z"⟩, 9) := ⟨⟨by decide +kernel, by decide +kernel⟩, List.mem_of_getElem? (i := 23) (by decide +kernel), List.mem_of_getElem? (i := 335) (by decide +kernel), List.mem_of_getElem? (i := 336) (by decide +kernel)⟩
theorem lw_p10 : lw_okq (⟨"DreamGraves", "noYard", "()Z"⟩, 8) := ⟨⟨by decide +kernel, by decide +kernel⟩, List.mem_of_getElem? (i := 13) (by decide +kernel), List.mem_of_getElem? (i := 377) (by decide +kernel), List.mem_of_getElem? (i := 378) (by decide +kernel)⟩
theorem lw_p11 : lw_okq (⟨"DreamGraves$Yard", "rememberedBy", "(I)I"⟩, 10) := ⟨⟨by decide +kernel, by decide +kernel⟩, List.mem_of_getElem? (i := 29) (by decide +kernel), List.mem_of_getElem? (i := 404) (by decide +kernel), List.mem_of_getElem? (i := 405) (by decide +kernel)⟩
theorem lw_p12 : lw_okq (⟨"DreamGraves$Yard", "nextBehind", "(I)I"⟩, 10) := ⟨⟨by decide +kernel, by decide +kernel⟩, List.mem_of_getElem? (i := 29) (by decide +kernel), List.mem_of_getElem? (i := 414) (by decide +kernel), List.mem_of_getElem? (i := 415) (by decide +kernel)⟩
theorem lw_p13 : lw_okq (⟨"DreamGraves$Yard", "graveOfYear", "()I"⟩, 10) := ⟨⟨by decide +kernel, by decide +kernel⟩, List.mem_of_getElem? (i := 29) (by decide +kernel), List.mem_of_getElem? (i := 418) (by decide +kernel), List.mem_of_getElem? (i := 419) (by decide +kernel)⟩
theorem lw_p14 : lw_okq (⟨"DreamGraves$Yard", "forgetByAll", "(I)V"⟩, 10) := ⟨⟨by decide +kernel, by decide +kernel⟩, List.mem_of_getElem? (i := 29) (by decide +kernel), List.mem_of_getElem? (i := 422) (by decide +kernel), List.mem_of_getElem? (i := 423) (by decide +kernel)⟩
theorem lw_p15 : lw_okq (⟨"DreamGraves$Yard", "fadeFor", "(I)V"⟩, 10) := ⟨⟨by decide +kernel, by decide +kernel⟩, List.mem_of_getElem? (i := 29) (by decide +kernel), List.mem_of_getElem? (i := 431) (by decide +kernel), List.mem_of_getElem? (i := 432) (by decide +kernel)⟩
def lw_privs_1 : List (MethodName × Nat) := [(⟨"DreamGraves", "found", "(I)I"⟩, 8), (⟨"DreamGraves", "sound", "(I)I"⟩, 8), (⟨"DreamGraves$Tape", "nextToken", "()V"⟩, 9), (⟨"DreamGraves$Tape", "takeFigures", "()V"⟩, 9), (⟨"DreamGraves$Tape", "readLaw", "()Z"⟩, 9), (⟨"DreamGraves$Tape", "takeSign", "(I)Z"⟩, 9), (⟨"DreamGraves$Tape", "fail", "(I)Z"⟩, 9), (⟨"DreamGraves$Tape", "takeNumber", "(II)Z"⟩, 9), (⟨"DreamGraves$Tape", "readSleepers", "()Z"⟩, 9), (⟨"DreamGraves$Tape", "readSleeper", "(I)Z"⟩, 9), (⟨"DreamGraves", "noYard", "()Z"⟩, 8), (⟨"DreamGraves$Yard", "rememberedBy", "(I)I"⟩, 10), (⟨"DreamGraves$Yard", "nextBehind", "(I)I"⟩, 10), (⟨"DreamGraves$Yard", "graveOfYear", "()I"⟩, 10), (⟨"DreamGraves$Yard", "forgetByAll", "(I)V"⟩, 10), (⟨"DreamGraves$Yard", "fadeFor", "(I)V"⟩, 10)]
theorem lw_r1 : ∀ q ∈ lw_privs_1, lw_okq q := List.forall_mem_cons.mpr ⟨lw_p0, List.forall_mem_cons.mpr ⟨lw_p1, List.forall_mem_cons.mpr ⟨lw_p2, List.forall_mem_cons.mpr ⟨lw_p3, List.forall_mem_cons.mpr ⟨lw_p4, List.forall_mem_cons.mpr ⟨lw_p5, List.forall_mem_cons.mpr ⟨lw_p6, List.forall_mem_cons.mpr ⟨lw_p7, List.forall_mem_cons.mpr ⟨lw_p8, List.forall_mem_cons.mpr ⟨lw_p9, List.forall_mem_cons.mpr ⟨lw_p10, List.forall_mem_cons.mpr ⟨lw_p11, List.forall_mem_cons.mpr ⟨lw_p12, List.forall_mem_cons.mpr ⟨lw_p13, List.forall_mem_cons.mpr ⟨lw_p14, List.forall_mem_cons.mpr ⟨lw_p15, fun _ h => absurd h List.not_mem_nil⟩⟩⟩⟩⟩⟩⟩⟩⟩⟩⟩⟩⟩⟩⟩⟩
theorem lw_p16 : lw_okq (⟨"DreamGraves", "isSleeper", "(I)Z"⟩, 8) := ⟨⟨by decide +kernel, by decide +kernel⟩, List.mem_of_getElem? (i := 13) (by decide +kernel), List.mem_of_getElem? (i := 443) (by decide +kernel), List.mem_of_getElem? (i := 444) (by decide +kernel)⟩
theorem lw_p17 : lw_okq (⟨"DreamGraves", "isGrave", "(I)Z"⟩, 8) := ⟨⟨by decide +kernel, by decide +kernel⟩, List.mem_of_getElem? (i := 13) (by decide +kernel), List.mem_of_getElem? (i := 464) (by decide +kernel), List.mem_of_getElem? (i := 465) (by decide +kernel)⟩
theorem lw_p18 : lw_okq (⟨"DreamGraves$Seer", "copyOf", "(LDreamGraves$Yard;)LDreamGraves$Yard;"⟩, 4) := ⟨⟨by decide +kernel, by decide +kernel⟩, List.mem_of_getElem? (i := 140) (by decide +kernel), List.mem_of_getElem? (i := 506) (by decide +kernel), List.mem_of_getElem? (i := 507) (by decide +kernel)⟩
theorem lw_p19 : lw_okq (⟨"DreamGraves$Seer", "tryYear", "(IIII)V"⟩, 4) := ⟨⟨by decide +kernel, by decide +kernel⟩, List.mem_of_getElem? (i := 140) (by decide +kernel), List.mem_of_getElem? (i := 542) (by decide +kernel), List.mem_of_getElem? (i := 543) (by decide +kernel)⟩
theorem lw_p20 : lw_okq (⟨"DreamGraves$Asker", "sizeOf", "(LDreamGraves$Yard;II)I"⟩, 2) := ⟨⟨by decide +kernel, by decide +kernel⟩, List.mem_of_getElem? (i := 163) (by decide +kernel), List.mem_of_getElem? (i := 667) (by decide +kernel), List.mem_of_getElem? (i := 668) (by decide +kernel)⟩
theorem lw_p21 : lw_okq (⟨"DreamGraves$Asker", "give", "(ILDreamGraves$Yard;II)I"⟩, 2) := ⟨⟨by decide +kernel, by decide +kernel⟩, List.mem_of_getElem? (i := 163) (by decide +kernel), List.mem_of_getElem? (i := 676) (by decide +kernel), List.mem_of_getElem? (i := 677) (by decide +kernel)⟩
theorem lw_p22 : lw_okq (⟨"DreamGraves$Asker", "leave", "(I)V"⟩, 2) := ⟨⟨by decide +kernel, by decide +kernel⟩, List.mem_of_getElem? (i := 163) (by decide +kernel), List.mem_of_getElem? (i := 680) (by decide +kernel), List.mem_of_getElem? (i := 681) (by decide +kernel)⟩
theorem lw_p23 : lw_okq (⟨"DreamGraves$Asker", "markOf", "(LDreamGraves$Yard;II)I"⟩, 2) := ⟨⟨by decide +kernel, by decide +kernel⟩, List.mem_of_getElem? (i := 163) (by decide +kernel), List.mem_of_getElem? (i := 685) (by decide +kernel), List.mem_of_getElem? (i := 686) (by decide +kernel)⟩
theorem lw_p24 : lw_okq (⟨"DreamGraves", "rowsThere", "()I"⟩, 8) := ⟨⟨by decide +kernel, by decide +kernel⟩, List.mem_of_getElem? (i := 13) (by decide +kernel), List.mem_of_getElem? (i := 700) (by decide +kernel), List.mem_of_getElem? (i := 701) (by decide +kernel)⟩
theorem lw_p25 : lw_okq (⟨"DreamGravesModel", "find", "(I)I"⟩, 25) := ⟨⟨by decide +kernel, by decide +kernel⟩, List.mem_of_getElem? (i := 708) (by decide +kernel), List.mem_of_getElem? (i := 804) (by decide +kernel), List.mem_of_getElem? (i := 805) (by decide +kernel)⟩
theorem lw_p26 : lw_okq (⟨"DreamGravesModel", "well", "(I)I"⟩, 25) := ⟨⟨by decide +kernel, by decide +kernel⟩, List.mem_of_getElem? (i := 708) (by decide +kernel), List.mem_of_getElem? (i := 809) (by decide +kernel), List.mem_of_getElem? (i := 810) (by decide +kernel)⟩
theorem lw_p27 : lw_okq (⟨"DreamGravesModel", "readYard", "()Z"⟩, 25) := ⟨⟨by decide +kernel, by decide +kernel⟩, List.mem_of_getElem? (i := 708) (by decide +kernel), List.mem_of_getElem? (i := 838) (by decide +kernel), List.mem_of_getElem? (i := 839) (by decide +kernel)⟩
theorem lw_p28 : lw_okq (⟨"DreamGravesModel", "nextToken", "()V"⟩, 25) := ⟨⟨by decide +kernel, by decide +kernel⟩, List.mem_of_getElem? (i := 708) (by decide +kernel), List.mem_of_getElem? (i := 842) (by decide +kernel), List.mem_of_getElem? (i := 843) (by decide +kernel)⟩
theorem lw_p29 : lw_okq (⟨"DreamGravesModel", "takes", "(I)Z"⟩, 25) := ⟨⟨by decide +kernel, by decide +kernel⟩, List.mem_of_getElem? (i := 708) (by decide +kernel), List.mem_of_getElem? (i := 850) (by decide +kernel), List.mem_of_getElem? (i := 851) (by decide +kernel)⟩
theorem lw_p30 : lw_okq (⟨"DreamGravesModel", "isLetter", "(I)Z"⟩, 25) := ⟨⟨by decide +kernel, by decide +kernel⟩, List.mem_of_getElem? (i := 708) (by decide +kernel), List.mem_of_getElem? (i := 854) (by decide +kernel), List.mem_of_getElem? (i := 855) (by decide +kernel)⟩
theorem lw_p31 : lw_okq (⟨"DreamGravesModel", "faults", "(I)Z"⟩, 25) := ⟨⟨by decide +kernel, by decide +kernel⟩, List.mem_of_getElem? (i := 708) (by decide +kernel), List.mem_of_getElem? (i := 858) (by decide +kernel), List.mem_of_getElem? (i := 859) (by decide +kernel)⟩
def lw_privs_2 : List (MethodName × Nat) := [(⟨"DreamGraves", "isSleeper", "(I)Z"⟩, 8), (⟨"DreamGraves", "isGrave", "(I)Z"⟩, 8), (⟨"DreamGraves$Seer", "copyOf", "(LDreamGraves$Yard;)LDreamGraves$Yard;"⟩, 4), (⟨"DreamGraves$Seer", "tryYear", "(IIII)V"⟩, 4), (⟨"DreamGraves$Asker", "sizeOf", "(LDreamGraves$Yard;II)I"⟩, 2), (⟨"DreamGraves$Asker", "give", "(ILDreamGraves$Yard;II)I"⟩, 2), (⟨"DreamGraves$Asker", "leave", "(I)V"⟩, 2), (⟨"DreamGraves$Asker", "markOf", "(LDreamGraves$Yard;II)I"⟩, 2), (⟨"DreamGraves", "rowsThere", "()I"⟩, 8), (⟨"DreamGravesModel", "find", "(I)I"⟩, 25), (⟨"DreamGravesModel", "well", "(I)I"⟩, 25), (⟨"DreamGravesModel", "readYard", "()Z"⟩, 25), (⟨"DreamGravesModel", "nextToken", "()V"⟩, 25), (⟨"DreamGravesModel", "takes", "(I)Z"⟩, 25), (⟨"DreamGravesModel", "isLetter", "(I)Z"⟩, 25), (⟨"DreamGravesModel", "faults", "(I)Z"⟩, 25)]
theorem lw_r2 : ∀ q ∈ lw_privs_2, lw_okq q := List.forall_mem_cons.mpr ⟨lw_p16, List.forall_mem_cons.mpr ⟨lw_p17, List.forall_mem_cons.mpr ⟨lw_p18, List.forall_mem_cons.mpr ⟨lw_p19, List.forall_mem_cons.mpr ⟨lw_p20, List.forall_mem_cons.mpr ⟨lw_p21, List.forall_mem_cons.mpr ⟨lw_p22, List.forall_mem_cons.mpr ⟨lw_p23, List.forall_mem_cons.mpr ⟨lw_p24, List.forall_mem_cons.mpr ⟨lw_p25, List.forall_mem_cons.mpr ⟨lw_p26, List.forall_mem_cons.mpr ⟨lw_p27, List.forall_mem_cons.mpr ⟨lw_p28, List.forall_mem_cons.mpr ⟨lw_p29, List.forall_mem_cons.mpr ⟨lw_p30, List.forall_mem_cons.mpr ⟨lw_p31, fun _ h => absurd h List.not_mem_nil⟩⟩⟩⟩⟩⟩⟩⟩⟩⟩⟩⟩⟩⟩⟩⟩
theorem lw_p32 : lw_okq (⟨"DreamGravesModel", "takesNumber", "(IIII)Z"⟩, 25) := ⟨⟨by decide +kernel, by decide +kernel⟩, List.mem_of_getElem? (i := 708) (by decide +kernel), List.mem_of_getElem? (i := 862) (by decide +kernel), List.mem_of_getElem? (i := 863) (by decide +kernel)⟩
theorem lw_p33 : lw_okq (⟨"DreamGravesModel", "readSleeper", "(I)Z"⟩, 25) := ⟨⟨by decide +kernel, by decide +kernel⟩, List.mem_of_getElem? (i := 708) (by decide +kernel), List.mem_of_getElem? (i := 866) (by decide +kernel), List.mem_of_getElem? (i := 867) (by decide +kernel)⟩
theorem lw_p34 : lw_okq (⟨"DreamGravesModel", "note", "()V"⟩, 25) := ⟨⟨by decide +kernel, by decide +kernel⟩, List.mem_of_getElem? (i := 708) (by decide +kernel), List.mem_of_getElem? (i := 885) (by decide +kernel), List.mem_of_getElem? (i := 886) (by decide +kernel)⟩
theorem lw_p35 : lw_okq (⟨"DreamGravesModel", "oneYear", "()V"⟩, 25) := ⟨⟨by decide +kernel, by decide +kernel⟩, List.mem_of_getElem? (i := 708) (by decide +kernel), List.mem_of_getElem? (i := 889) (by decide +kernel), List.mem_of_getElem? (i := 890) (by decide +kernel)⟩
theorem lw_p36 : lw_okq (⟨"DreamGravesModel", "allDreams", "()I"⟩, 25) := ⟨⟨by decide +kernel, by decide +kernel⟩, List.mem_of_getElem? (i := 708) (by decide +kernel), List.mem_of_getElem? (i := 893) (by decide +kernel), List.mem_of_getElem? (i := 894) (by decide +kernel)⟩
theorem lw_p37 : lw_okq (⟨"DreamGravesModel", "dreams", "(I)I"⟩, 25) := ⟨⟨by decide +kernel, by decide +kernel⟩, List.mem_of_getElem? (i := 708) (by decide +kernel), List.mem_of_getElem? (i := 897) (by decide +kernel), List.mem_of_getElem? (i := 898) (by decide +kernel)⟩
theorem lw_p38 : lw_okq (⟨"DreamGravesModel", "mostOf", "(II)I"⟩, 25) := ⟨⟨by decide +kernel, by decide +kernel⟩, List.mem_of_getElem? (i := 708) (by decide +kernel), List.mem_of_getElem? (i := 901) (by decide +kernel), List.mem_of_getElem? (i := 902) (by decide +kernel)⟩
theorem lw_p39 : lw_okq (⟨"DreamGravesModel", "memoryOf", "(II)I"⟩, 25) := ⟨⟨by decide +kernel, by decide +kernel⟩, List.mem_of_getElem? (i := 708) (by decide +kernel), List.mem_of_getElem? (i := 908) (by decide +kernel), List.mem_of_getElem? (i := 909) (by decide +kernel)⟩
theorem lw_p40 : lw_okq (⟨"DreamGravesModel", "lessOf", "(I)I"⟩, 25) := ⟨⟨by decide +kernel, by decide +kernel⟩, List.mem_of_getElem? (i := 708) (by decide +kernel), List.mem_of_getElem? (i := 912) (by decide +kernel), List.mem_of_getElem? (i := 913) (by decide +kernel)⟩
theorem lw_p41 : lw_okq (⟨"DreamGravesModel", "isSleeper", "(I)Z"⟩, 25) := ⟨⟨by decide +kernel, by decide +kernel⟩, List.mem_of_getElem? (i := 708) (by decide +kernel), List.mem_of_getElem? (i := 920) (by decide +kernel), List.mem_of_getElem? (i := 921) (by decide +kernel)⟩
theorem lw_p42 : lw_okq (⟨"DreamGravesModel", "suppered", "()I"⟩, 25) := ⟨⟨by decide +kernel, by decide +kernel⟩, List.mem_of_getElem? (i := 708) (by decide +kernel), List.mem_of_getElem? (i := 924) (by decide +kernel), List.mem_of_getElem? (i := 925) (by decide +kernel)⟩
theorem lw_p43 : lw_okq (⟨"DreamGravesModel", "isGrave", "(I)Z"⟩, 25) := ⟨⟨by decide +kernel, by decide +kernel⟩, List.mem_of_getElem? (i := 708) (by decide +kernel), List.mem_of_getElem? (i := 939) (by decide +kernel), List.mem_of_getElem? (i := 940) (by decide +kernel)⟩
theorem lw_p44 : lw_okq (⟨"DreamGravesModel", "memoryBy", "(I)I"⟩, 25) := ⟨⟨by decide +kernel, by decide +kernel⟩, List.mem_of_getElem? (i := 708) (by decide +kernel), List.mem_of_getElem? (i := 951) (by decide +kernel), List.mem_of_getElem? (i := 952) (by decide +kernel)⟩
theorem lw_p45 : lw_okq (⟨"DreamGravesModel", "putAside", "()V"⟩, 25) := ⟨⟨by decide +kernel, by decide +kernel⟩, List.mem_of_getElem? (i := 708) (by decide +kernel), List.mem_of_getElem? (i := 968) (by decide +kernel), List.mem_of_getElem? (i := 969) (by decide +kernel)⟩
theorem lw_p46 : lw_okq (⟨"DreamGravesModel", "takeBack", "()V"⟩, 25) := ⟨⟨by decide +kernel, by decide +kernel⟩, List.mem_of_getElem? (i := 708) (by decide +kernel), List.mem_of_getElem? (i := 972) (by decide +kernel), List.mem_of_getElem? (i := 973) (by decide +kernel)⟩
theorem lw_p47 : lw_okq (⟨"DreamGravesModel", "dugIn", "(IZ)I"⟩, 25) := ⟨⟨by decide +kernel, by decide +kernel⟩, List.mem_of_getElem? (i := 708) (by decide +kernel), List.mem_of_getElem? (i := 980) (by decide +kernel), List.mem_of_getElem? (i := 981) (by decide +kernel)⟩
def lw_privs_3 : List (MethodName × Nat) := [(⟨"DreamGravesModel", "takesNumber", "(IIII)Z"⟩, 25), (⟨"DreamGravesModel", "readSleeper", "(I)Z"⟩, 25), (⟨"DreamGravesModel", "note", "()V"⟩, 25), (⟨"DreamGravesModel", "oneYear", "()V"⟩, 25), (⟨"DreamGravesModel", "allDreams", "()I"⟩, 25), (⟨"DreamGravesModel", "dreams", "(I)I"⟩, 25), (⟨"DreamGravesModel", "mostOf", "(II)I"⟩, 25), (⟨"DreamGravesModel", "memoryOf", "(II)I"⟩, 25), (⟨"DreamGravesModel", "lessOf", "(I)I"⟩, 25), (⟨"DreamGravesModel", "isSleeper", "(I)Z"⟩, 25), (⟨"DreamGravesModel", "suppered", "()I"⟩, 25), (⟨"DreamGravesModel", "isGrave", "(I)Z"⟩, 25), (⟨"DreamGravesModel", "memoryBy", "(I)I"⟩, 25), (⟨"DreamGravesModel", "putAside", "()V"⟩, 25), (⟨"DreamGravesModel", "takeBack", "()V"⟩, 25), (⟨"DreamGravesModel", "dugIn", "(IZ)I"⟩, 25)]
theorem lw_r3 : ∀ q ∈ lw_privs_3, lw_okq q := List.forall_mem_cons.mpr ⟨lw_p32, List.forall_mem_cons.mpr ⟨lw_p33, List.forall_mem_cons.mpr ⟨lw_p34, List.forall_mem_cons.mpr ⟨lw_p35, List.forall_mem_cons.mpr ⟨lw_p36, List.forall_mem_cons.mpr ⟨lw_p37, List.forall_mem_cons.mpr ⟨lw_p38, List.forall_mem_cons.mpr ⟨lw_p39, List.forall_mem_cons.mpr ⟨lw_p40, List.forall_mem_cons.mpr ⟨lw_p41, List.forall_mem_cons.mpr ⟨lw_p42, List.forall_mem_cons.mpr ⟨lw_p43, List.forall_mem_cons.mpr ⟨lw_p44, List.forall_mem_cons.mpr ⟨lw_p45, List.forall_mem_cons.mpr ⟨lw_p46, List.forall_mem_cons.mpr ⟨lw_p47, fun _ h => absurd h List.not_mem_nil⟩⟩⟩⟩⟩⟩⟩⟩⟩⟩⟩⟩⟩⟩⟩⟩
theorem lw_p48 : lw_okq (⟨"DreamGravesModel", "feedAll", "()V"⟩, 25) := ⟨⟨by decide +kernel, by decide +kernel⟩, List.mem_of_getElem? (i := 708) (by decide +kernel), List.mem_of_getElem? (i := 984) (by decide +kernel), List.mem_of_getElem? (i := 985) (by decide +kernel)⟩
theorem lw_p49 : lw_okq (⟨"DreamGravesModel", "findWay", "(II)I"⟩, 25) := ⟨⟨by decide +kernel, by decide +kernel⟩, List.mem_of_getElem? (i := 708) (by decide +kernel), List.mem_of_getElem? (i := 998) (by decide +kernel), List.mem_of_getElem? (i := 999) (by decide +kernel)⟩
theorem lw_p50 : lw_okq (⟨"DreamGravesModel", "isKeptBy", "(II)Z"⟩, 25) := ⟨⟨by decide +kernel, by decide +kernel⟩, List.mem_of_getElem? (i := 708) (by decide +kernel), List.mem_of_getElem? (i := 1002) (by decide +kernel), List.mem_of_getElem? (i := 1003) (by decide +kernel)⟩
theorem lw_p51 : lw_okq (⟨"DreamGravesModel", "giveSuppers", "(I)V"⟩, 25) := ⟨⟨by decide +kernel, by decide +kernel⟩, List.mem_of_getElem? (i := 708) (by decide +kernel), List.mem_of_getElem? (i := 1006) (by decide +kernel), List.mem_of_getElem? (i := 1007) (by decide +kernel)⟩
theorem lw_p52 : lw_okq (⟨"DreamGravesModel", "lacks", "(III)I"⟩, 25) := ⟨⟨by decide +kernel, by decide +kernel⟩, List.mem_of_getElem? (i := 708) (by decide +kernel), List.mem_of_getElem? (i := 1031) (by decide +kernel), List.mem_of_getElem? (i := 1032) (by decide +kernel)⟩
theorem lw_p53 : lw_okq (⟨"DreamGravesModel", "isSo", "(II)Z"⟩, 25) := ⟨⟨by decide +kernel, by decide +kernel⟩, List.mem_of_getElem? (i := 708) (by decide +kernel), List.mem_of_getElem? (i := 1035) (by decide +kernel), List.mem_of_getElem? (i := 1036) (by decide +kernel)⟩
theorem lw_p54 : lw_okq (⟨"DreamGravesModel", "needsSupper", "(I)Z"⟩, 25) := ⟨⟨by decide +kernel, by decide +kernel⟩, List.mem_of_getElem? (i := 708) (by decide +kernel), List.mem_of_getElem? (i := 1048) (by decide +kernel), List.mem_of_getElem? (i := 1049) (by decide +kernel)⟩
theorem lw_p55 : lw_okq (⟨"DreamGravesModel", "sizeOf", "(I)I"⟩, 25) := ⟨⟨by decide +kernel, by decide +kernel⟩, List.mem_of_getElem? (i := 708) (by decide +kernel), List.mem_of_getElem? (i := 1090) (by decide +kernel), List.mem_of_getElem? (i := 1091) (by decide +kernel)⟩
theorem lw_p56 : lw_okq (⟨"DreamGravesModel", "begin", "(I)V"⟩, 25) := ⟨⟨by decide +kernel, by decide +kernel⟩, List.mem_of_getElem? (i := 708) (by decide +kernel), List.mem_of_getElem? (i := 1094) (by decide +kernel), List.mem_of_getElem? (i := 1095) (by decide +kernel)⟩
theorem lw_p57 : lw_okq (⟨"DreamGravesModel", "dreamerSize", "(I)I"⟩, 25) := ⟨⟨by decide +kernel, by decide +kernel⟩, List.mem_of_getElem? (i := 708) (by decide +kernel), List.mem_of_getElem? (i := 1098) (by decide +kernel), List.mem_of_getElem? (i := 1099) (by decide +kernel)⟩
theorem lw_p58 : lw_okq (⟨"DreamGravesModel", "lent", "(II)I"⟩, 25) := ⟨⟨by decide +kernel, by decide +kernel⟩, List.mem_of_getElem? (i := 708) (by decide +kernel), List.mem_of_getElem? (i := 1102) (by decide +kernel), List.mem_of_getElem? (i := 1103) (by decide +kernel)⟩
theorem lw_p59 : lw_okq (⟨"DreamGravesModel", "markOf", "(I)I"⟩, 25) := ⟨⟨by decide +kernel, by decide +kernel⟩, List.mem_of_getElem? (i := 708) (by decide +kernel), List.mem_of_getElem? (i := 1106) (by decide +kernel), List.mem_of_getElem? (i := 1107) (by decide +kernel)⟩
theorem lw_p60 : lw_okq (⟨"DreamGravesModel", "dreamerMark", "(I)I"⟩, 25) := ⟨⟨by decide +kernel, by decide +kernel⟩, List.mem_of_getElem? (i := 708) (by decide +kernel), List.mem_of_getElem? (i := 1110) (by decide +kernel), List.mem_of_getElem? (i := 1111) (by decide +kernel)⟩
theorem lw_p61 : lw_okq (⟨"DreamGravesModel", "sizeOfWife", "(I)I"⟩, 25) := ⟨⟨by decide +kernel, by decide +kernel⟩, List.mem_of_getElem? (i := 708) (by decide +kernel), List.mem_of_getElem? (i := 1114) (by decide +kernel), List.mem_of_getElem? (i := 1115) (by decide +kernel)⟩
theorem lw_p62 : lw_okq (⟨"DreamGravesModel", "wifeSize", "(I)I"⟩, 25) := ⟨⟨by decide +kernel, by decide +kernel⟩, List.mem_of_getElem? (i := 708) (by decide +kernel), List.mem_of_getElem? (i := 1118) (by decide +kernel), List.mem_of_getElem? (i := 1119) (by decide +kernel)⟩
def lw_privs_4 : List (MethodName × Nat) := [(⟨"DreamGravesModel", "feedAll", "()V"⟩, 25), (⟨"DreamGravesModel", "findWay", "(II)I"⟩, 25), (⟨"DreamGravesModel", "isKeptBy", "(II)Z"⟩, 25), (⟨"DreamGravesModel", "giveSuppers", "(I)V"⟩, 25), (⟨"DreamGravesModel", "lacks", "(III)I"⟩, 25), (⟨"DreamGravesModel", "isSo", "(II)Z"⟩, 25), (⟨"DreamGravesModel", "needsSupper", "(I)Z"⟩, 25), (⟨"DreamGravesModel", "sizeOf", "(I)I"⟩, 25), (⟨"DreamGravesModel", "begin", "(I)V"⟩, 25), (⟨"DreamGravesModel", "dreamerSize", "(I)I"⟩, 25), (⟨"DreamGravesModel", "lent", "(II)I"⟩, 25), (⟨"DreamGravesModel", "markOf", "(I)I"⟩, 25), (⟨"DreamGravesModel", "dreamerMark", "(I)I"⟩, 25), (⟨"DreamGravesModel", "sizeOfWife", "(I)I"⟩, 25), (⟨"DreamGravesModel", "wifeSize", "(I)I"⟩, 25)]
theorem lw_r4 : ∀ q ∈ lw_privs_4, lw_okq q := List.forall_mem_cons.mpr ⟨lw_p48, List.forall_mem_cons.mpr ⟨lw_p49, List.forall_mem_cons.mpr ⟨lw_p50, List.forall_mem_cons.mpr ⟨lw_p51, List.forall_mem_cons.mpr ⟨lw_p52, List.forall_mem_cons.mpr ⟨lw_p53, List.forall_mem_cons.mpr ⟨lw_p54, List.forall_mem_cons.mpr ⟨lw_p55, List.forall_mem_cons.mpr ⟨lw_p56, List.forall_mem_cons.mpr ⟨lw_p57, List.forall_mem_cons.mpr ⟨lw_p58, List.forall_mem_cons.mpr ⟨lw_p59, List.forall_mem_cons.mpr ⟨lw_p60, List.forall_mem_cons.mpr ⟨lw_p61, List.forall_mem_cons.mpr ⟨lw_p62, fun _ h => absurd h List.not_mem_nil⟩⟩⟩⟩⟩⟩⟩⟩⟩⟩⟩⟩⟩⟩⟩
def lw_privs : List (MethodName × Nat) := lw_privs_1 ++ (lw_privs_2 ++ (lw_privs_3 ++ (lw_privs_4)))
def lw_tbl : List Cond := k2_sels lw_privs ++ tables_1
theorem lw_privs_ok : ∀ q ∈ lw_privs, lw_okq q := by
  show ∀ q ∈ lw_privs_1 ++ (lw_privs_2 ++ (lw_privs_3 ++ (lw_privs_4))), lw_okq q
  exact List.forall_mem_append.mpr ⟨lw_r1, List.forall_mem_append.mpr ⟨lw_r2, List.forall_mem_append.mpr ⟨lw_r3, lw_r4⟩⟩⟩
end
section
def RX0 : String := "DreamGraves$Asker"
def TX0 : u_T := fun k => match k with
  | 0 => ("DreamGraves$Asker", "traced", "I", false)
  | _ => ("DreamGraves$Asker", "left", "[I", true)
def tyX0 : Nat → FieldType := fun k => match k with
  | 0 => .int
  | _ => .array .int
abbrev wsX00 : List Cond := u_ws RX0 TX0 2
theorem nmX0 : ∀ a, a < 2 → ∀ b, b < 2 → a ≠ b → (TX0 a).2.1 ≠ (TX0 b).2.1 := by decide +kernel
theorem tyX0_ok : ∀ k, k < 2 → parseFieldDescriptor (TX0 k).2.2.1 = some (tyX0 k) := by decide +kernel
abbrev cX0_init : ByteArray := prog_2_method_1_code
def yX0_init : MethodName := ⟨RX0, "<init>", "()V"⟩
abbrev cX0_answer : ByteArray := prog_2_method_2_code
def yX0_answer : MethodName := ⟨RX0, "answer", "(LDreamGraves$Yard;II)I"⟩
abbrev cX0_sizeOf : ByteArray := prog_2_method_3_code
def yX0_sizeOf : MethodName := ⟨RX0, "sizeOf", "(LDreamGraves$Yard;II)I"⟩
abbrev cX0_markOf : ByteArray := prog_2_method_4_code
def yX0_markOf : MethodName := ⟨RX0, "markOf", "(LDreamGraves$Yard;II)I"⟩
abbrev cX0_kindOf : ByteArray := prog_2_method_5_code
def yX0_kindOf : MethodName := ⟨RX0, "kindOf", "(LDreamGraves$Yard;I)I"⟩
abbrev cX0_give : ByteArray := prog_2_method_6_code
def yX0_give : MethodName := ⟨RX0, "give", "(ILDreamGraves$Yard;II)I"⟩
abbrev cX0_leave : ByteArray := prog_2_method_7_code
def yX0_leave : MethodName := ⟨RX0, "leave", "(I)V"⟩
def RX1 : String := "DreamGraves$Past"
def TX1 : u_T := fun k => match k with
  | 0 => ("DreamGraves$Past", "size", "I", false)
  | 1 => ("DreamGraves$Past", "oldest", "I", false)
  | _ => ("DreamGraves$Past", "yards", "[LDreamGraves$Yard;", true)
def tyX1 : Nat → FieldType := fun k => match k with
  | 0 => .int
  | 1 => .int
  | _ => .array (.object "DreamGraves$Yard")
abbrev wsX10 : List Cond := u_ws RX1 TX1 3
theorem nmX1 : ∀ a, a < 3 → ∀ b, b < 3 → a ≠ b → (TX1 a).2.1 ≠ (TX1 b).2.1 := by decide +kernel
theorem tyX1_ok : ∀ k, k < 3 → parseFieldDescriptor (TX1 k).2.2.1 = some (tyX1 k) := by decide +kernel
abbrev cX1_init : ByteArray := prog_3_method_1_code
def yX1_init : MethodName := ⟨RX1, "<init>", "()V"⟩
abbrev cX1_clear : ByteArray := prog_3_method_2_code
def yX1_clear : MethodName := ⟨RX1, "clear", "()V"⟩
abbrev cX1_keep : ByteArray := prog_3_method_3_code
def yX1_keep : MethodName := ⟨RX1, "keep", "(LDreamGraves$Yard;)V"⟩
abbrev cX1_giveBack : ByteArray := prog_3_method_4_code
def yX1_giveBack : MethodName := ⟨RX1, "giveBack", "(LDreamGraves$Yard;)Z"⟩
def RX2 : String := "DreamGraves$Row"
def TX2 : u_T := fun k => match k with
  | 0 => ("DreamGraves$Row", "lane", "I", false)
  | 1 => ("DreamGraves$Row", "size", "I", false)
  | _ => ("DreamGraves$Row", "items", "[I", true)
def tyX2 : Nat → FieldType := fun k => match k with
  | 0 => .int
  | 1 => .int
  | _ => .array .int
abbrev wsX20 : List Cond := u_ws RX2 TX2 3
theorem nmX2 : ∀ a, a < 3 → ∀ b, b < 3 → a ≠ b → (TX2 a).2.1 ≠ (TX2 b).2.1 := by decide +kernel
theorem tyX2_ok : ∀ k, k < 3 → parseFieldDescriptor (TX2 k).2.2.1 = some (tyX2 k) := by decide +kernel
abbrev cX2_init : ByteArray := prog_4_method_1_code
def yX2_init : MethodName := ⟨RX2, "<init>", "()V"⟩
abbrev cX2_isMissing : ByteArray := prog_4_method_2_code
def yX2_isMissing : MethodName := ⟨RX2, "isMissing", "()Z"⟩
abbrev cX2_lay : ByteArray := prog_4_method_3_code
def yX2_lay : MethodName := ⟨RX2, "lay", "(II)V"⟩
abbrev cX2_holds : ByteArray := prog_4_method_4_code
def yX2_holds : MethodName := ⟨RX2, "holds", "(II)Z"⟩
abbrev cX2_findingAt : ByteArray := prog_4_method_5_code
def yX2_findingAt : MethodName := ⟨RX2, "findingAt", "(II)I"⟩
abbrev cX2_put : ByteArray := prog_4_method_6_code
def yX2_put : MethodName := ⟨RX2, "put", "(II)I"⟩
def RX3 : String := "DreamGraves$Seer"
def TX3 : u_T := fun k => match k with
  | 0 => ("DreamGraves$Seer", "fewest", "I", false)
  | 1 => ("DreamGraves$Seer", "way", "[I", true)
  | 2 => ("DreamGraves$Seer", "given", "[I", true)
  | _ => ("DreamGraves$Seer", "seen", "[LDreamGraves$Yard;", true)
def tyX3 : Nat → FieldType := fun k => match k with
  | 0 => .int
  | 1 => .array .int
  | 2 => .array .int
  | _ => .array (.object "DreamGraves$Yard")
abbrev wsX30 : List Cond := u_ws RX3 TX3 4
theorem nmX3 : ∀ a, a < 4 → ∀ b, b < 4 → a ≠ b → (TX3 a).2.1 ≠ (TX3 b).2.1 := by decide +kernel
theorem tyX3_ok : ∀ k, k < 4 → parseFieldDescriptor (TX3 k).2.2.1 = some (tyX3 k) := by decide +kernel
abbrev cX3_init : ByteArray := prog_5_method_1_code
def yX3_init : MethodName := ⟨RX3, "<init>", "()V"⟩
abbrev cX3_copyOf : ByteArray := prog_5_method_2_code
def yX3_copyOf : MethodName := ⟨RX3, "copyOf", "(LDreamGraves$Yard;)LDreamGraves$Yard;"⟩
abbrev cX3_keptBehind : ByteArray := prog_5_method_3_code
def yX3_keptBehind : MethodName := ⟨RX3, "keptBehind", "(LDreamGraves$Yard;I)I"⟩
abbrev cX3_yearsTillDug : ByteArray := prog_5_method_4_code
def yX3_yearsTillDug : MethodName := ⟨RX3, "yearsTillDug", "(LDreamGraves$Yard;IZ)I"⟩
abbrev cX3_graveDugFirst : ByteArray := prog_5_method_5_code
def yX3_graveDugFirst : MethodName := ⟨RX3, "graveDugFirst", "(LDreamGraves$Yard;)I"⟩
abbrev cX3_firstOf : ByteArray := prog_5_method_6_code
def yX3_firstOf : MethodName := ⟨RX3, "firstOf", "(I)I"⟩
abbrev cX3_findFewestSuppers : ByteArray := prog_5_method_7_code
def yX3_findFewestSuppers : MethodName := ⟨RX3, "findFewestSuppers", "(LDreamGraves$Yard;II)Z"⟩
abbrev cX3_tryYear : ByteArray := prog_5_method_8_code
def yX3_tryYear : MethodName := ⟨RX3, "tryYear", "(IIII)V"⟩
abbrev cX3_yearsTillForgotten : ByteArray := prog_5_method_9_code
def yX3_yearsTillForgotten : MethodName := ⟨RX3, "yearsTillForgotten", "(LDreamGraves$Yard;II)I"⟩
abbrev cX3_kindsBy : ByteArray := prog_5_method_10_code
def yX3_kindsBy : MethodName := ⟨RX3, "kindsBy", "(LDreamGraves$Yard;ILDreamGraves$Row;II)I"⟩
abbrev cX3_whisperersBy : ByteArray := prog_5_method_11_code
def yX3_whisperersBy : MethodName := ⟨RX3, "whisperersBy", "(LDreamGraves$Yard;ILDreamGraves$Row;II)I"⟩
abbrev cX3_goesAsTold : ByteArray := prog_5_method_12_code
def yX3_goesAsTold : MethodName := ⟨RX3, "goesAsTold", "(LDreamGraves$Yard;LDreamGraves$Row;II)Z"⟩
abbrev cX3_suppersNeeded : ByteArray := prog_5_method_13_code
def yX3_suppersNeeded : MethodName := ⟨RX3, "suppersNeeded", "(LDreamGraves$Yard;I)I"⟩
abbrev cX3_chanceOfKeeping : ByteArray := prog_5_method_14_code
def yX3_chanceOfKeeping : MethodName := ⟨RX3, "chanceOfKeeping", "(LDreamGraves$Yard;IIZ)J"⟩
abbrev cX3_commonDivisor : ByteArray := prog_5_method_15_code
def yX3_commonDivisor : MethodName := ⟨RX3, "commonDivisor", "(JJ)J"⟩
abbrev cX3_yearsByDraws : ByteArray := prog_5_method_16_code
def yX3_yearsByDraws : MethodName := ⟨RX3, "yearsByDraws", "(LDreamGraves$Yard;II)LDreamGraves$Yard;"⟩
def RX4 : String := "DreamGraves$Tape"
def TX4 : u_T := fun k => match k with
  | 0 => ("DreamGraves$Tape", "draft", "LDreamGraves$Yard;", true)
  | 1 => ("DreamGraves$Tape", "size", "I", false)
  | 2 => ("DreamGraves$Tape", "latestFault", "I", false)
  | 3 => ("DreamGraves$Tape", "bytes", "[I", true)
  | 4 => ("DreamGraves$Tape", "start", "I", false)
  | 5 => ("DreamGraves$Tape", "behind", "I", false)
  | 6 => ("DreamGraves$Tape", "token", "I", false)
  | 7 => ("DreamGraves$Tape", "value", "I", false)
  | _ => ("DreamGraves$Tape", "taken", "I", false)
def tyX4 : Nat → FieldType := fun k => match k with
  | 0 => .object "DreamGraves$Yard"
  | 1 => .int
  | 2 => .int
  | 3 => .array .int
  | 4 => .int
  | 5 => .int
  | 6 => .int
  | 7 => .int
  | _ => .int
abbrev wsX40 : List Cond := u_ws RX4 TX4 9
theorem nmX4 : ∀ a, a < 9 → ∀ b, b < 9 → a ≠ b → (TX4 a).2.1 ≠ (TX4 b).2.1 := by decide +kernel
theorem tyX4_ok : ∀ k, k < 9 → parseFieldDescriptor (TX4 k).2.2.1 = some (tyX4 k) := by decide +kernel
abbrev cX4_init : ByteArray := prog_6_method_1_code
def yX4_init : MethodName := ⟨RX4, "<init>", "()V"⟩
abbrev cX4_add : ByteArray := prog_6_method_2_code
def yX4_add : MethodName := ⟨RX4, "add", "(I)Z"⟩
abbrev cX4_read : ByteArray := prog_6_method_3_code
def yX4_read : MethodName := ⟨RX4, "read", "()I"⟩
abbrev cX4_readLaw : ByteArray := prog_6_method_4_code
def yX4_readLaw : MethodName := ⟨RX4, "readLaw", "()Z"⟩
abbrev cX4_readSleepers : ByteArray := prog_6_method_5_code
def yX4_readSleepers : MethodName := ⟨RX4, "readSleepers", "()Z"⟩
abbrev cX4_readSleeper : ByteArray := prog_6_method_6_code
def yX4_readSleeper : MethodName := ⟨RX4, "readSleeper", "(I)Z"⟩
abbrev cX4_kindTold : ByteArray := prog_6_method_7_code
def yX4_kindTold : MethodName := ⟨RX4, "kindTold", "(I)I"⟩
abbrev cX4_fail : ByteArray := prog_6_method_8_code
def yX4_fail : MethodName := ⟨RX4, "fail", "(I)Z"⟩
abbrev cX4_takeSign : ByteArray := prog_6_method_9_code
def yX4_takeSign : MethodName := ⟨RX4, "takeSign", "(I)Z"⟩
abbrev cX4_takeNumber : ByteArray := prog_6_method_10_code
def yX4_takeNumber : MethodName := ⟨RX4, "takeNumber", "(II)Z"⟩
abbrev cX4_nextToken : ByteArray := prog_6_method_11_code
def yX4_nextToken : MethodName := ⟨RX4, "nextToken", "()V"⟩
abbrev cX4_takeFigures : ByteArray := prog_6_method_12_code
def yX4_takeFigures : MethodName := ⟨RX4, "takeFigures", "()V"⟩
abbrev cX4_isFigure : ByteArray := prog_6_method_13_code
def yX4_isFigure : MethodName := ⟨RX4, "isFigure", "(I)Z"⟩
def RX5 : String := "DreamGraves$Yard"
def TX5 : u_T := fun k => match k with
  | 0 => ("DreamGraves$Yard", "graves", "I", false)
  | 1 => ("DreamGraves$Yard", "least", "I", false)
  | 2 => ("DreamGraves$Yard", "share", "I", false)
  | 3 => ("DreamGraves$Yard", "sleepers", "I", false)
  | 4 => ("DreamGraves$Yard", "year", "I", false)
  | 5 => ("DreamGraves$Yard", "kept", "I", false)
  | 6 => ("DreamGraves$Yard", "suppers", "I", false)
  | 7 => ("DreamGraves$Yard", "fevers", "I", false)
  | 8 => ("DreamGraves$Yard", "kinds", "[I", true)
  | _ => ("DreamGraves$Yard", "memories", "[I", true)
def tyX5 : Nat → FieldType := fun k => match k with
  | 0 => .int
  | 1 => .int
  | 2 => .int
  | 3 => .int
  | 4 => .int
  | 5 => .int
  | 6 => .int
  | 7 => .int
  | 8 => .array .int
  | _ => .array .int
abbrev wsX50 : List Cond := u_ws RX5 TX5 10
theorem nmX5 : ∀ a, a < 10 → ∀ b, b < 10 → a ≠ b → (TX5 a).2.1 ≠ (TX5 b).2.1 := by decide +kernel
theorem tyX5_ok : ∀ k, k < 10 → parseFieldDescriptor (TX5 k).2.2.1 = some (tyX5 k) := by decide +kernel
abbrev cX5_init : ByteArray := prog_7_method_1_code
def yX5_init : MethodName := ⟨RX5, "<init>", "()V"⟩
abbrev cX5_isNone : ByteArray := prog_7_method_2_code
def yX5_isNone : MethodName := ⟨RX5, "isNone", "()Z"⟩
abbrev cX5_clear : ByteArray := prog_7_method_3_code
def yX5_clear : MethodName := ⟨RX5, "clear", "()V"⟩
abbrev cX5_become : ByteArray := prog_7_method_4_code
def yX5_become : MethodName := ⟨RX5, "become", "(LDreamGraves$Yard;)V"⟩
abbrev cX5_hasRoom : ByteArray := prog_7_method_5_code
def yX5_hasRoom : MethodName := ⟨RX5, "hasRoom", "(II)Z"⟩
abbrev cX5_memoryOf : ByteArray := prog_7_method_6_code
def yX5_memoryOf : MethodName := ⟨RX5, "memoryOf", "(II)I"⟩
abbrev cX5_remember : ByteArray := prog_7_method_7_code
def yX5_remember : MethodName := ⟨RX5, "remember", "(III)V"⟩
abbrev cX5_allMemoryOf : ByteArray := prog_7_method_8_code
def yX5_allMemoryOf : MethodName := ⟨RX5, "allMemoryOf", "(I)I"⟩
abbrev cX5_allMemory : ByteArray := prog_7_method_9_code
def yX5_allMemory : MethodName := ⟨RX5, "allMemory", "()I"⟩
abbrev cX5_clearest : ByteArray := prog_7_method_10_code
def yX5_clearest : MethodName := ⟨RX5, "clearest", "(III)I"⟩
abbrev cX5_dreamsOf : ByteArray := prog_7_method_11_code
def yX5_dreamsOf : MethodName := ⟨RX5, "dreamsOf", "(I)I"⟩
abbrev cX5_nextBehind : ByteArray := prog_7_method_12_code
def yX5_nextBehind : MethodName := ⟨RX5, "nextBehind", "(I)I"⟩
abbrev cX5_graveOfYear : ByteArray := prog_7_method_13_code
def yX5_graveOfYear : MethodName := ⟨RX5, "graveOfYear", "()I"⟩
abbrev cX5_rememberedBy : ByteArray := prog_7_method_14_code
def yX5_rememberedBy : MethodName := ⟨RX5, "rememberedBy", "(I)I"⟩
abbrev cX5_dreamersOf : ByteArray := prog_7_method_15_code
def yX5_dreamersOf : MethodName := ⟨RX5, "dreamersOf", "(I)I"⟩
abbrev cX5_pass : ByteArray := prog_7_method_16_code
def yX5_pass : MethodName := ⟨RX5, "pass", "()V"⟩
abbrev cX5_digUndreamt : ByteArray := prog_7_method_17_code
def yX5_digUndreamt : MethodName := ⟨RX5, "digUndreamt", "()V"⟩
abbrev cX5_forgetByAll : ByteArray := prog_7_method_18_code
def yX5_forgetByAll : MethodName := ⟨RX5, "forgetByAll", "(I)V"⟩
abbrev cX5_endYear : ByteArray := prog_7_method_19_code
def yX5_endYear : MethodName := ⟨RX5, "endYear", "()V"⟩
abbrev cX5_fadeFor : ByteArray := prog_7_method_20_code
def yX5_fadeFor : MethodName := ⟨RX5, "fadeFor", "(I)V"⟩
abbrev cX5_faded : ByteArray := prog_7_method_21_code
def yX5_faded : MethodName := ⟨RX5, "faded", "(I)I"⟩
abbrev cX5_inNeed : ByteArray := prog_7_method_22_code
def yX5_inNeed : MethodName := ⟨RX5, "inNeed", "()I"⟩
def RX6 : String := "DreamGraves"
def TX6 : u_T := fun k => match k with
  | 0 => ("DreamGraves", "rows", "[LDreamGraves$Row;", true)
  | 1 => ("DreamGraves", "tape", "LDreamGraves$Tape;", true)
  | 2 => ("DreamGraves", "yard", "LDreamGraves$Yard;", true)
  | 3 => ("DreamGraves", "past", "LDreamGraves$Past;", true)
  | 4 => ("DreamGraves", "images", "[LDreamGraves$Yard;", true)
  | 5 => ("DreamGraves", "seer", "LDreamGraves$Seer;", true)
  | 6 => ("DreamGraves", "asker", "LDreamGraves$Asker;", true)
  | _ => ("DreamGraves", "finding", "I", false)
def tyX6 : Nat → FieldType := fun k => match k with
  | 0 => .array (.object "DreamGraves$Row")
  | 1 => .object "DreamGraves$Tape"
  | 2 => .object "DreamGraves$Yard"
  | 3 => .object "DreamGraves$Past"
  | 4 => .array (.object "DreamGraves$Yard")
  | 5 => .object "DreamGraves$Seer"
  | 6 => .object "DreamGraves$Asker"
  | _ => .int
abbrev wsX60 : List Cond := u_ws RX6 TX6 8
theorem nmX6 : ∀ a, a < 8 → ∀ b, b < 8 → a ≠ b → (TX6 a).2.1 ≠ (TX6 b).2.1 := by decide +kernel
theorem tyX6_ok : ∀ k, k < 8 → parseFieldDescriptor (TX6 k).2.2.1 = some (tyX6 k) := by decide +kernel
abbrev cX6_init : ByteArray := prog_1_method_1_code
def yX6_init : MethodName := ⟨RX6, "<init>", "()V"⟩
abbrev cX6_row : ByteArray := prog_1_method_2_code
def yX6_row : MethodName := ⟨RX6, "row", "(III)I"⟩
abbrev cX6_set : ByteArray := prog_1_method_3_code
def yX6_set : MethodName := ⟨RX6, "set", "(III)I"⟩
abbrev cX6_copy : ByteArray := prog_1_method_4_code
def yX6_copy : MethodName := ⟨RX6, "copy", "(IIIII)I"⟩
abbrev cX6_drop : ByteArray := prog_1_method_5_code
def yX6_drop : MethodName := ⟨RX6, "drop", "(I)I"⟩
abbrev cX6_feed : ByteArray := prog_1_method_6_code
def yX6_feed : MethodName := ⟨RX6, "feed", "(I)I"⟩
abbrev cX6_yard : ByteArray := prog_1_method_7_code
def yX6_yard : MethodName := ⟨RX6, "yard", "()I"⟩
abbrev cX6_fault : ByteArray := prog_1_method_8_code
def yX6_fault : MethodName := ⟨RX6, "fault", "()I"⟩
abbrev cX6_undo : ByteArray := prog_1_method_9_code
def yX6_undo : MethodName := ⟨RX6, "undo", "()I"⟩
abbrev cX6_years : ByteArray := prog_1_method_10_code
def yX6_years : MethodName := ⟨RX6, "years", "(I)I"⟩
abbrev cX6_supper : ByteArray := prog_1_method_11_code
def yX6_supper : MethodName := ⟨RX6, "supper", "(I)I"⟩
abbrev cX6_fever : ByteArray := prog_1_method_12_code
def yX6_fever : MethodName := ⟨RX6, "fever", "(I)I"⟩
abbrev cX6_tell : ByteArray := prog_1_method_13_code
def yX6_tell : MethodName := ⟨RX6, "tell", "(II)I"⟩
abbrev cX6_bury : ByteArray := prog_1_method_14_code
def yX6_bury : MethodName := ⟨RX6, "bury", "(II)I"⟩
abbrev cX6_sleeper : ByteArray := prog_1_method_15_code
def yX6_sleeper : MethodName := ⟨RX6, "sleeper", "(II)I"⟩
abbrev cX6_memory : ByteArray := prog_1_method_16_code
def yX6_memory : MethodName := ⟨RX6, "memory", "(II)I"⟩
abbrev cX6_grave : ByteArray := prog_1_method_17_code
def yX6_grave : MethodName := ⟨RX6, "grave", "(II)I"⟩
abbrev cX6_ahead : ByteArray := prog_1_method_18_code
def yX6_ahead : MethodName := ⟨RX6, "ahead", "(I)I"⟩
abbrev cX6_dug : ByteArray := prog_1_method_19_code
def yX6_dug : MethodName := ⟨RX6, "dug", "(I)I"⟩
abbrev cX6_firstDug : ByteArray := prog_1_method_20_code
def yX6_firstDug : MethodName := ⟨RX6, "firstDug", "()I"⟩
abbrev cX6_suppers : ByteArray := prog_1_method_21_code
def yX6_suppers : MethodName := ⟨RX6, "suppers", "(III)I"⟩
abbrev cX6_bound : ByteArray := prog_1_method_22_code
def yX6_bound : MethodName := ⟨RX6, "bound", "(I)I"⟩
abbrev cX6_forgets : ByteArray := prog_1_method_23_code
def yX6_forgets : MethodName := ⟨RX6, "forgets", "(II)I"⟩
abbrev cX6_most : ByteArray := prog_1_method_24_code
def yX6_most : MethodName := ⟨RX6, "most", "(II)I"⟩
abbrev cX6_pair : ByteArray := prog_1_method_25_code
def yX6_pair : MethodName := ⟨RX6, "pair", "(II)I"⟩
abbrev cX6_who : ByteArray := prog_1_method_26_code
def yX6_who : MethodName := ⟨RX6, "who", "(IIII)I"⟩
abbrev cX6_whispered : ByteArray := prog_1_method_27_code
def yX6_whispered : MethodName := ⟨RX6, "whispered", "(IIII)I"⟩
abbrev cX6_cheese : ByteArray := prog_1_method_28_code
def yX6_cheese : MethodName := ⟨RX6, "cheese", "(I)I"⟩
abbrev cX6_awake : ByteArray := prog_1_method_29_code
def yX6_awake : MethodName := ⟨RX6, "awake", "(III)J"⟩
abbrev cX6_drawn : ByteArray := prog_1_method_30_code
def yX6_drawn : MethodName := ⟨RX6, "drawn", "(III)I"⟩
abbrev cX6_image : ByteArray := prog_1_method_31_code
def yX6_image : MethodName := ⟨RX6, "image", "(I)I"⟩
abbrev cX6_restore : ByteArray := prog_1_method_32_code
def yX6_restore : MethodName := ⟨RX6, "restore", "(I)I"⟩
abbrev cX6_kind : ByteArray := prog_1_method_33_code
def yX6_kind : MethodName := ⟨RX6, "kind", "(I)I"⟩
abbrev cX6_as : ByteArray := prog_1_method_34_code
def yX6_as : MethodName := ⟨RX6, "as", "(II)I"⟩
abbrev cX6_ask : ByteArray := prog_1_method_35_code
def yX6_ask : MethodName := ⟨RX6, "ask", "(II)I"⟩
abbrev cX6_trace : ByteArray := prog_1_method_36_code
def yX6_trace : MethodName := ⟨RX6, "trace", "(I)I"⟩
abbrev cX6_count : ByteArray := prog_1_method_37_code
def yX6_count : MethodName := ⟨RX6, "count", "(I)I"⟩
abbrev cX6_status : ByteArray := prog_1_method_38_code
def yX6_status : MethodName := ⟨RX6, "status", "()I"⟩
abbrev cX6_found : ByteArray := prog_1_method_39_code
def yX6_found : MethodName := ⟨RX6, "found", "(I)I"⟩
abbrev cX6_sound : ByteArray := prog_1_method_40_code
def yX6_sound : MethodName := ⟨RX6, "sound", "(I)I"⟩
abbrev cX6_isRow : ByteArray := prog_1_method_41_code
def yX6_isRow : MethodName := ⟨RX6, "isRow", "(I)Z"⟩
abbrev cX6_noYard : ByteArray := prog_1_method_42_code
def yX6_noYard : MethodName := ⟨RX6, "noYard", "()Z"⟩
abbrev cX6_isSleeper : ByteArray := prog_1_method_43_code
def yX6_isSleeper : MethodName := ⟨RX6, "isSleeper", "(I)Z"⟩
abbrev cX6_isGrave : ByteArray := prog_1_method_44_code
def yX6_isGrave : MethodName := ⟨RX6, "isGrave", "(I)Z"⟩
abbrev cX6_rowsThere : ByteArray := prog_1_method_45_code
def yX6_rowsThere : MethodName := ⟨RX6, "rowsThere", "()I"⟩
abbrev cX6_isOfKind : ByteArray := prog_1_method_46_code
def yX6_isOfKind : MethodName := ⟨RX6, "isOfKind", "(II)Z"⟩
abbrev cX6_bit : ByteArray := prog_1_method_47_code
def yX6_bit : MethodName := ⟨RX6, "bit", "(I)I"⟩
abbrev cX6_hasBit : ByteArray := prog_1_method_48_code
def yX6_hasBit : MethodName := ⟨RX6, "hasBit", "(II)Z"⟩
def RX7 : String := "DreamGravesModel"
def TX7 : u_T := fun k => match k with
  | 0 => ("DreamGravesModel", "lanes", "[I", true)
  | 1 => ("DreamGravesModel", "sizes", "[I", true)
  | 2 => ("DreamGravesModel", "items", "[I", true)
  | 3 => ("DreamGravesModel", "status", "I", false)
  | 4 => ("DreamGravesModel", "isThere", "Z", false)
  | 5 => ("DreamGravesModel", "st", "[I", true)
  | 6 => ("DreamGravesModel", "moved", "[I", true)
  | 7 => ("DreamGravesModel", "tape", "[I", true)
  | 8 => ("DreamGravesModel", "bytes", "I", false)
  | 9 => ("DreamGravesModel", "latest", "I", false)
  | 10 => ("DreamGravesModel", "place", "I", false)
  | 11 => ("DreamGravesModel", "token", "I", false)
  | 12 => ("DreamGravesModel", "value", "I", false)
  | 13 => ("DreamGravesModel", "begins", "I", false)
  | 14 => ("DreamGravesModel", "wrong", "I", false)
  | 15 => ("DreamGravesModel", "read", "[I", true)
  | 16 => ("DreamGravesModel", "acts", "[I", true)
  | 17 => ("DreamGravesModel", "actMany", "I", false)
  | 18 => ("DreamGravesModel", "aside", "[I", true)
  | 19 => ("DreamGravesModel", "way", "[I", true)
  | 20 => ("DreamGravesModel", "bestWay", "I", false)
  | 21 => ("DreamGravesModel", "isHeld", "[Z", true)
  | 22 => ("DreamGravesModel", "held", "[I", true)
  | 23 => ("DreamGravesModel", "trace", "[I", true)
  | _ => ("DreamGravesModel", "traced", "I", false)
def tyX7 : Nat → FieldType := fun k => match k with
  | 0 => .array .int
  | 1 => .array .int
  | 2 => .array .int
  | 3 => .int
  | 4 => .boolean
  | 5 => .array .int
  | 6 => .array .int
  | 7 => .array .int
  | 8 => .int
  | 9 => .int
  | 10 => .int
  | 11 => .int
  | 12 => .int
  | 13 => .int
  | 14 => .int
  | 15 => .array .int
  | 16 => .array .int
  | 17 => .int
  | 18 => .array .int
  | 19 => .array .int
  | 20 => .int
  | 21 => .array .boolean
  | 22 => .array .int
  | 23 => .array .int
  | _ => .int
abbrev wsX70 : List Cond := u_ws RX7 TX7 25
theorem nmX7 : ∀ a, a < 25 → ∀ b, b < 25 → a ≠ b → (TX7 a).2.1 ≠ (TX7 b).2.1 := by decide +kernel
theorem tyX7_ok : ∀ k, k < 25 → parseFieldDescriptor (TX7 k).2.2.1 = some (tyX7 k) := by decide +kernel
abbrev cX7_init : ByteArray := prog_9_method_1_code
def yX7_init : MethodName := ⟨RX7, "<init>", "()V"⟩
abbrev cX7_in : ByteArray := prog_9_method_2_code
def yX7_in : MethodName := ⟨RX7, "in", "(JJJ)Z"⟩
abbrev cX7_has : ByteArray := prog_9_method_3_code
def yX7_has : MethodName := ⟨RX7, "has", "(II)Z"⟩
abbrev cX7_ones : ByteArray := prog_9_method_4_code
def yX7_ones : MethodName := ⟨RX7, "ones", "(I)I"⟩
abbrev cX7_find : ByteArray := prog_9_method_5_code
def yX7_find : MethodName := ⟨RX7, "find", "(I)I"⟩
abbrev cX7_well : ByteArray := prog_9_method_6_code
def yX7_well : MethodName := ⟨RX7, "well", "(I)I"⟩
abbrev cX7_isRow : ByteArray := prog_9_method_7_code
def yX7_isRow : MethodName := ⟨RX7, "isRow", "(I)Z"⟩
abbrev cX7_row : ByteArray := prog_9_method_8_code
def yX7_row : MethodName := ⟨RX7, "row", "(III)I"⟩
abbrev cX7_asLane : ByteArray := prog_9_method_9_code
def yX7_asLane : MethodName := ⟨RX7, "asLane", "(II)I"⟩
abbrev cX7_set : ByteArray := prog_9_method_10_code
def yX7_set : MethodName := ⟨RX7, "set", "(III)I"⟩
abbrev cX7_copy : ByteArray := prog_9_method_11_code
def yX7_copy : MethodName := ⟨RX7, "copy", "(IIIII)I"⟩
abbrev cX7_drop : ByteArray := prog_9_method_12_code
def yX7_drop : MethodName := ⟨RX7, "drop", "(I)I"⟩
abbrev cX7_feed : ByteArray := prog_9_method_13_code
def yX7_feed : MethodName := ⟨RX7, "feed", "(I)I"⟩
abbrev cX7_nextToken : ByteArray := prog_9_method_14_code
def yX7_nextToken : MethodName := ⟨RX7, "nextToken", "()V"⟩
abbrev cX7_faults : ByteArray := prog_9_method_15_code
def yX7_faults : MethodName := ⟨RX7, "faults", "(I)Z"⟩
abbrev cX7_isLetter : ByteArray := prog_9_method_16_code
def yX7_isLetter : MethodName := ⟨RX7, "isLetter", "(I)Z"⟩
abbrev cX7_takes : ByteArray := prog_9_method_17_code
def yX7_takes : MethodName := ⟨RX7, "takes", "(I)Z"⟩
abbrev cX7_takesNumber : ByteArray := prog_9_method_18_code
def yX7_takesNumber : MethodName := ⟨RX7, "takesNumber", "(IIII)Z"⟩
abbrev cX7_readSleeper : ByteArray := prog_9_method_19_code
def yX7_readSleeper : MethodName := ⟨RX7, "readSleeper", "(I)Z"⟩
abbrev cX7_readYard : ByteArray := prog_9_method_20_code
def yX7_readYard : MethodName := ⟨RX7, "readYard", "()Z"⟩
abbrev cX7_yard : ByteArray := prog_9_method_21_code
def yX7_yard : MethodName := ⟨RX7, "yard", "()I"⟩
abbrev cX7_fault : ByteArray := prog_9_method_22_code
def yX7_fault : MethodName := ⟨RX7, "fault", "()I"⟩
abbrev cX7_isSleeper : ByteArray := prog_9_method_23_code
def yX7_isSleeper : MethodName := ⟨RX7, "isSleeper", "(I)Z"⟩
abbrev cX7_isGrave : ByteArray := prog_9_method_24_code
def yX7_isGrave : MethodName := ⟨RX7, "isGrave", "(I)Z"⟩
abbrev cX7_memoryOf : ByteArray := prog_9_method_25_code
def yX7_memoryOf : MethodName := ⟨RX7, "memoryOf", "(II)I"⟩
abbrev cX7_mostOf : ByteArray := prog_9_method_26_code
def yX7_mostOf : MethodName := ⟨RX7, "mostOf", "(II)I"⟩
abbrev cX7_dreams : ByteArray := prog_9_method_27_code
def yX7_dreams : MethodName := ⟨RX7, "dreams", "(I)I"⟩
abbrev cX7_allDreams : ByteArray := prog_9_method_28_code
def yX7_allDreams : MethodName := ⟨RX7, "allDreams", "()I"⟩
abbrev cX7_lessOf : ByteArray := prog_9_method_29_code
def yX7_lessOf : MethodName := ⟨RX7, "lessOf", "(I)I"⟩
abbrev cX7_oneYear : ByteArray := prog_9_method_30_code
def yX7_oneYear : MethodName := ⟨RX7, "oneYear", "()V"⟩
abbrev cX7_note : ByteArray := prog_9_method_31_code
def yX7_note : MethodName := ⟨RX7, "note", "()V"⟩
abbrev cX7_undo : ByteArray := prog_9_method_32_code
def yX7_undo : MethodName := ⟨RX7, "undo", "()I"⟩
abbrev cX7_years : ByteArray := prog_9_method_33_code
def yX7_years : MethodName := ⟨RX7, "years", "(I)I"⟩
abbrev cX7_suppered : ByteArray := prog_9_method_34_code
def yX7_suppered : MethodName := ⟨RX7, "suppered", "()I"⟩
abbrev cX7_supper : ByteArray := prog_9_method_35_code
def yX7_supper : MethodName := ⟨RX7, "supper", "(I)I"⟩
abbrev cX7_fever : ByteArray := prog_9_method_36_code
def yX7_fever : MethodName := ⟨RX7, "fever", "(I)I"⟩
abbrev cX7_tell : ByteArray := prog_9_method_37_code
def yX7_tell : MethodName := ⟨RX7, "tell", "(II)I"⟩
abbrev cX7_bury : ByteArray := prog_9_method_38_code
def yX7_bury : MethodName := ⟨RX7, "bury", "(II)I"⟩
abbrev cX7_memoryBy : ByteArray := prog_9_method_39_code
def yX7_memoryBy : MethodName := ⟨RX7, "memoryBy", "(I)I"⟩
abbrev cX7_sleeper : ByteArray := prog_9_method_40_code
def yX7_sleeper : MethodName := ⟨RX7, "sleeper", "(II)I"⟩
abbrev cX7_memory : ByteArray := prog_9_method_41_code
def yX7_memory : MethodName := ⟨RX7, "memory", "(II)I"⟩
abbrev cX7_grave : ByteArray := prog_9_method_42_code
def yX7_grave : MethodName := ⟨RX7, "grave", "(II)I"⟩
abbrev cX7_putAside : ByteArray := prog_9_method_43_code
def yX7_putAside : MethodName := ⟨RX7, "putAside", "()V"⟩
abbrev cX7_takeBack : ByteArray := prog_9_method_44_code
def yX7_takeBack : MethodName := ⟨RX7, "takeBack", "()V"⟩
abbrev cX7_ahead : ByteArray := prog_9_method_45_code
def yX7_ahead : MethodName := ⟨RX7, "ahead", "(I)I"⟩
abbrev cX7_feedAll : ByteArray := prog_9_method_46_code
def yX7_feedAll : MethodName := ⟨RX7, "feedAll", "()V"⟩
abbrev cX7_dugIn : ByteArray := prog_9_method_47_code
def yX7_dugIn : MethodName := ⟨RX7, "dugIn", "(IZ)I"⟩
abbrev cX7_dug : ByteArray := prog_9_method_48_code
def yX7_dug : MethodName := ⟨RX7, "dug", "(I)I"⟩
abbrev cX7_firstDug : ByteArray := prog_9_method_49_code
def yX7_firstDug : MethodName := ⟨RX7, "firstDug", "()I"⟩
abbrev cX7_giveSuppers : ByteArray := prog_9_method_50_code
def yX7_giveSuppers : MethodName := ⟨RX7, "giveSuppers", "(I)V"⟩
abbrev cX7_isKeptBy : ByteArray := prog_9_method_51_code
def yX7_isKeptBy : MethodName := ⟨RX7, "isKeptBy", "(II)Z"⟩
abbrev cX7_findWay : ByteArray := prog_9_method_52_code
def yX7_findWay : MethodName := ⟨RX7, "findWay", "(II)I"⟩
abbrev cX7_suppers : ByteArray := prog_9_method_53_code
def yX7_suppers : MethodName := ⟨RX7, "suppers", "(III)I"⟩
abbrev cX7_bound : ByteArray := prog_9_method_54_code
def yX7_bound : MethodName := ⟨RX7, "bound", "(I)I"⟩
abbrev cX7_forgets : ByteArray := prog_9_method_55_code
def yX7_forgets : MethodName := ⟨RX7, "forgets", "(II)I"⟩
abbrev cX7_most : ByteArray := prog_9_method_56_code
def yX7_most : MethodName := ⟨RX7, "most", "(II)I"⟩
abbrev cX7_pair : ByteArray := prog_9_method_57_code
def yX7_pair : MethodName := ⟨RX7, "pair", "(II)I"⟩
abbrev cX7_lacks : ByteArray := prog_9_method_58_code
def yX7_lacks : MethodName := ⟨RX7, "lacks", "(III)I"⟩
abbrev cX7_isSo : ByteArray := prog_9_method_59_code
def yX7_isSo : MethodName := ⟨RX7, "isSo", "(II)Z"⟩
abbrev cX7_who : ByteArray := prog_9_method_60_code
def yX7_who : MethodName := ⟨RX7, "who", "(IIII)I"⟩
abbrev cX7_whispered : ByteArray := prog_9_method_61_code
def yX7_whispered : MethodName := ⟨RX7, "whispered", "(IIII)I"⟩
abbrev cX7_needsSupper : ByteArray := prog_9_method_62_code
def yX7_needsSupper : MethodName := ⟨RX7, "needsSupper", "(I)Z"⟩
abbrev cX7_cheese : ByteArray := prog_9_method_63_code
def yX7_cheese : MethodName := ⟨RX7, "cheese", "(I)I"⟩
abbrev cX7_awake : ByteArray := prog_9_method_64_code
def yX7_awake : MethodName := ⟨RX7, "awake", "(III)J"⟩
abbrev cX7_drawn : ByteArray := prog_9_method_65_code
def yX7_drawn : MethodName := ⟨RX7, "drawn", "(III)I"⟩
abbrev cX7_image : ByteArray := prog_9_method_66_code
def yX7_image : MethodName := ⟨RX7, "image", "(I)I"⟩
abbrev cX7_restore : ByteArray := prog_9_method_67_code
def yX7_restore : MethodName := ⟨RX7, "restore", "(I)I"⟩
abbrev cX7_kind : ByteArray := prog_9_method_68_code
def yX7_kind : MethodName := ⟨RX7, "kind", "(I)I"⟩
abbrev cX7_isKind : ByteArray := prog_9_method_69_code
def yX7_isKind : MethodName := ⟨RX7, "isKind", "(II)Z"⟩
abbrev cX7_as : ByteArray := prog_9_method_70_code
def yX7_as : MethodName := ⟨RX7, "as", "(II)I"⟩
abbrev cX7_begin : ByteArray := prog_9_method_71_code
def yX7_begin : MethodName := ⟨RX7, "begin", "(I)V"⟩
abbrev cX7_lent : ByteArray := prog_9_method_72_code
def yX7_lent : MethodName := ⟨RX7, "lent", "(II)I"⟩
abbrev cX7_dreamerMark : ByteArray := prog_9_method_73_code
def yX7_dreamerMark : MethodName := ⟨RX7, "dreamerMark", "(I)I"⟩
abbrev cX7_wifeSize : ByteArray := prog_9_method_74_code
def yX7_wifeSize : MethodName := ⟨RX7, "wifeSize", "(I)I"⟩
abbrev cX7_sizeOfWife : ByteArray := prog_9_method_75_code
def yX7_sizeOfWife : MethodName := ⟨RX7, "sizeOfWife", "(I)I"⟩
abbrev cX7_markOf : ByteArray := prog_9_method_76_code
def yX7_markOf : MethodName := ⟨RX7, "markOf", "(I)I"⟩
abbrev cX7_dreamerSize : ByteArray := prog_9_method_77_code
def yX7_dreamerSize : MethodName := ⟨RX7, "dreamerSize", "(I)I"⟩
abbrev cX7_sizeOf : ByteArray := prog_9_method_78_code
def yX7_sizeOf : MethodName := ⟨RX7, "sizeOf", "(I)I"⟩
abbrev cX7_ask : ByteArray := prog_9_method_79_code
def yX7_ask : MethodName := ⟨RX7, "ask", "(II)I"⟩
abbrev cX7_trace : ByteArray := prog_9_method_80_code
def yX7_trace : MethodName := ⟨RX7, "trace", "(I)I"⟩
abbrev cX7_count : ByteArray := prog_9_method_81_code
def yX7_count : MethodName := ⟨RX7, "count", "(I)I"⟩
abbrev cX7_status : ByteArray := prog_9_method_82_code
def yX7_status : MethodName := ⟨RX7, "status", "()I"⟩
def RJ6 : String := "java/lang/Integer"
def TJ6 : u_T := fun k => match k with
  | _ => ("", "", "", false)
def tyJ6 : Nat → FieldType := fun k => match k with
  | _ => .int
abbrev wsJ60 : List Cond := u_ws RJ6 TJ6 0
theorem nmJ6 : ∀ a, a < 0 → ∀ b, b < 0 → a ≠ b → (TJ6 a).2.1 ≠ (TJ6 b).2.1 := by decide +kernel
theorem tyJ6_ok : ∀ k, k < 0 → parseFieldDescriptor (TJ6 k).2.2.1 = some (tyJ6 k) := by decide +kernel
abbrev cJ6_bitCount_0f7a4 : ByteArray := prog_10_method_49_code
def yJ6_bitCount_0f7a4 : MethodName := ⟨RJ6, "bitCount", "(I)I"⟩
def RJ10 : String := "java/lang/System"
def TJ10 : u_T := fun k => match k with
  | _ => ("", "", "", false)
def tyJ10 : Nat → FieldType := fun k => match k with
  | _ => .int
abbrev wsJ100 : List Cond := u_ws RJ10 TJ10 0
theorem nmJ10 : ∀ a, a < 0 → ∀ b, b < 0 → a ≠ b → (TJ10 a).2.1 ≠ (TJ10 b).2.1 := by decide +kernel
theorem tyJ10_ok : ∀ k, k < 0 → parseFieldDescriptor (TJ10 k).2.2.1 = some (tyJ10 k) := by decide +kernel
def RJ7 : String := "java/util/Arrays"
def TJ7 : u_T := fun k => match k with
  | _ => ("", "", "", false)
def tyJ7 : Nat → FieldType := fun k => match k with
  | _ => .int
abbrev wsJ70 : List Cond := u_ws RJ7 TJ7 0
theorem nmJ7 : ∀ a, a < 0 → ∀ b, b < 0 → a ≠ b → (TJ7 a).2.1 ≠ (TJ7 b).2.1 := by decide +kernel
theorem tyJ7_ok : ∀ k, k < 0 → parseFieldDescriptor (TJ7 k).2.2.1 = some (tyJ7 k) := by decide +kernel
abbrev cJ7_fill_53178 : ByteArray := prog_12_method_103_code
def yJ7_fill_53178 : MethodName := ⟨RJ7, "fill", "([II)V"⟩
def RL : String := "DreamGravesLaw"
abbrev cL_law : ByteArray := code
def yL_law : MethodName := ⟨RL, "law", "([I)Z"⟩
abbrev vwCl : List vw_C := [(RX0, TX0, 2), (RX1, TX1, 3), (RX2, TX2, 3), (RX3, TX3, 4), (RX4, TX4, 9), (RX5, TX5, 10), (RX6, TX6, 8), (RX7, TX7, 25)]
end
section
/-! THE FRAME: an abstract heap is a list of cells, the cell k at the address base + k; one predicate Y of a point of a method, a row an instruction; a contract Ctm of a method. -/
/-- the tables' words that stay -/
def lwg : List Cond := lw_tbl.filter goodWord
theorem lwg_good : GoodIn lwg lwg := fun w h => ⟨h, good_of_word (List.mem_filter.mp h).2⟩
theorem lwg_of {w : Cond} (h : w ∈ lw_tbl) (hg : goodWord w = true) : w ∈ lwg := List.mem_filter.mpr ⟨h, hg⟩
abbrev qX : Type := Program × Launch × Env × Room × State × MethodId × Array Value × List Frame × Method × Code × (State → Prop)
/-- class numbers; 0 int[], 1 boolean[], 2 Row[], 3 Yard[], 4 the base, 5 and 6 the two static tables -/
abbrev qG : Type := va_G × (Nat → Nat)
abbrev qr (G : qG) (a : Nat) : Value := .ref (G.2 4 + a)
abbrev qI (G : qG) (n : Nat) (f : Nat → Int32) : va_E := .inl (G.2 0, n, .inl f)
abbrev qZ (G : qG) (n : Nat) (f : Nat → Int32) : va_E := .inl (G.2 1, n, .inl f)
abbrev qR (G : qG) (n : Nat) (f : Nat → Option Nat) : va_E := .inl (G.2 2, n, .inr (.inr (.inr (.inr f))))
abbrev qY (G : qG) (n : Nat) (f : Nat → Option Nat) : va_E := .inl (G.2 3, n, .inr (.inr (.inr (.inr f))))
abbrev qT (G : qG) : List (ClassId × FieldType) := [(G.2 0, .int), (G.2 1, .boolean), (G.2 2, .object "DreamGraves$Row"), (G.2 3, .object "DreamGraves$Yard")]
abbrev qA (G : qG) : Nat → Prop := fun q => G.2 4 ≤ q
/-- the list as the kit's world -/
def qw (b : Nat) (h : List va_E) : va_W := h.mapIdx (fun k e => (b + k, e))
theorem qw_at {b : Nat} {h : List va_E} {k : Nat} {e : va_E} (hk : h[k]? = some e) : (qw b h)[k]? = some (b + k, e) := by
  simp [qw, hk]
theorem qw_of {b : Nat} {h : List va_E} {k : Nat} {q : Nat × va_E} (hk : (qw b h)[k]? = some q) : q.1 = b + k ∧ h[k]? = some q.2 := by
  simp only [qw, List.getElem?_mapIdx, Option.map_eq_some_iff] at hk
  obtain ⟨e, h1, rfl⟩ := hk
  exact ⟨rfl, h1⟩
theorem qw_set {b : Nat} {h : List va_E} {k : Nat} {e : va_E} : (qw b h).set k (b + k, e) = qw b (h.set k e) := by
  apply List.ext_getElem?
  intro j
  by_cases hj : j = k
  · subst hj
    by_cases hl : j < h.length
    · rw [List.getElem?_set_self (by simpa [qw] using hl)]
      exact (qw_at (List.getElem?_set_self hl)).symm
    · rw [List.getElem?_eq_none (by simp [qw]; omega), List.getElem?_eq_none (by simp [qw]; omega)]
  · rw [List.getElem?_set_ne (Ne.symm hj)]
    simp only [qw, List.getElem?_mapIdx]
    rw [List.getElem?_set_ne (Ne.symm hj)]
theorem qw_D {b : Nat} {h : List va_E} : va_D (fun q => b ≤ q) (qw b h) := by
  refine ⟨fun i j x y hx hy e => ?_, fun k q hk => ?_⟩
  · have h1 := (qw_of hx).1
    have h2 := (qw_of hy).1
    omega
  · have h1 := (qw_of hk).1
    show b ≤ q.1
    omega
/-- the heap holds the list -/
def qH (G : qG) (h : List va_E) (H : Heap) : Prop := va_P G.1 vwCl (qw (G.2 4) h) H
theorem qH_set {G : qG} {h : List va_E} {H1 : Heap} {k : Nat} {e : va_E} (hP : va_P G.1 vwCl ((qw (G.2 4) h).set k (G.2 4 + k, e)) H1) : qH G (h.set k e) H1 := by
  rw [qw_set] at hP
  exact hP
theorem qH_le {G : qG} {h : List va_E} {H : Heap} (hP : qH G h H) : h = [] ∨ G.2 4 + h.length ≤ H.size := by
  cases hh : h with
  | nil => exact Or.inl rfl
  | cons a t =>
    refine Or.inr ?_
    have hl : h.length - 1 < h.length := by rw [hh]; simp
    have := (hP _ _ (qw_at (List.getElem?_eq_getElem hl))).lt
    rw [← hh]
    simp only at this
    omega
/-- the nest's links, used by their numbers -/
def qNl : List Cond := tables_1.filter (fun w => match w with | .methodLinkNest _ _ _ _ => true | _ => false)
def qtS : Nat → Value := fun j => .int (nI ([10, 11, 12, 11, 13, 14].getD j 0))
def qtM : Nat → Value := fun j => .int (nI ([20, 21, 24, 22, 23, 23].getD j 0))
/-- what is fixed: tables, nests, statics -/
def qF (G : qG) (U : State) (H : Heap) : Prop :=
  va_K G.1 vwCl (qT G) U ∧ (∀ w ∈ qNl, va_Nw w U) ∧ va_AO "DreamGraves$Row" U ∧ va_AO "DreamGraves$Yard" U ∧
  va_Z "DreamGraves$Asker" "SIZE_BODIES" "[I" (.ref (G.2 5)) (qA G) U H ∧ va_T .int (G.2 5) 6 qtS (qA G) U H ∧
  va_Z "DreamGraves$Asker" "MARK_BODIES" "[I" (.ref (G.2 6)) (qA G) U H ∧ va_T .int (G.2 6) 6 qtM (qA G) U H
theorem qNl_form : ∀ w ∈ qNl, ∃ a i x h, w = .methodLinkNest a i x h := by
  intro w hw
  have h := (List.mem_filter.mp hw).2
  split at h
  · exact ⟨_, _, _, _, rfl⟩
  · cases h
theorem qF_moved {G : qG} {s U : State} {H H1 : Heap} (hW : s.WarmedH U.vm) (hq : ∀ a : Nat, a < H.size → ¬ qA G a → H1[a]? = H[a]?) (h : qF G s H) : qF G U H1 := by
  obtain ⟨h1, h2, h3, h4, h5, h6, h7, h8⟩ := h
  refine ⟨va_K.moved hW.alike h1, fun w hw => ?_, va_AO.moved hW.alike h3, va_AO.moved hW.alike h4, va_Z.kept (va_Z.moved hW.alike h5) hq, va_T.kept (va_T.moved hW.alike h6) hq, va_Z.kept (va_Z.moved hW.alike h7) hq, va_T.kept (va_T.moved hW.alike h8) hq⟩
  obtain ⟨a, i, x, hh, rfl⟩ := qNl_form w hw
  exact va_Nw.warmM hW (h2 _ hw)
theorem qF_blind {G : qG} {U : State} {H : Heap} {g : JFrame} {mk : MethodId} {a : Array Value} (h : qF G U H) : qF G (U.calling g mk a) H := by
  obtain ⟨h1, h2, h3, h4, h5, h6, h7, h8⟩ := h
  have hv : U.vm.Alike (U.calling g mk a).vm := Vm.Alike.refl U.vm
  refine ⟨va_K.moved hv h1, fun w hw => ?_, va_AO.moved hv h3, va_AO.moved hv h4, va_Z.moved hv h5, va_T.moved hv h6, va_Z.moved hv h7, va_T.moved hv h8⟩
  obtain ⟨a, i, x, hh, rfl⟩ := qNl_form w hw
  exact va_Nw.same rfl (rfl : U.vm = (U.calling g mk _).vm) (h2 _ hw)
def qW (G : qG) (h : List va_E) (U : State) : Prop := qH G h U.heap ∧ qF G U U.heap
abbrev qm (d mc ms : Nat) : Room := { frames := d, cells := mc, slots := ms, locals := 40 * d }
abbrev qP (G : qG) (mc : Nat) (av : List Value) (h : List va_E) : Array Value → State → Prop := va_Pc av (fun U => qW G h U ∧ G.2 4 ≤ U.heap.size ∧ (mc ≠ 0 → U.heap.size = G.2 4 + h.length))
abbrev qQ (G : qG) (r : Option Value) (h' : List va_E) : Array Value → State → Outcome → State → Prop := fun _ st o t => o = .returned r ∧ qW G h' t ∧ va_F (qA G) st t
/-- the contract: on these arguments and this heap the method answers r and leaves h' -/
def Ctm (l : Launch) (G : qG) (y : MethodName) (d mc ms : Nat) (av : List Value) (h : List va_E) (r : Option Value) (h' : List va_E) : Prop :=
  ∃ (bytes : ByteArray) (maxL : Nat) (ret : Option FieldType), Cond.code y bytes maxL ret ∈ lwg ∧ maxL ≤ 20 ∧ Met l y (Cond.code y bytes maxL ret :: lwg) (qm d mc ms) (qP G mc av h) (qQ G r h') mc ms (qA G)
abbrev Ct (l : Launch) (G : qG) (y : MethodName) (d : Nat) (av : List Value) (h : List va_E) (r : Option Value) (h' : List va_E) : Prop := Ctm l G y d 0 0 av h r h'
/-- the locals by their places -/
def qlv : Nat → List (Option Value) → List (Nat × Value)
  | _, [] => []
  | i, none :: t => qlv (i + 1) t
  | i, some v :: t => (i, v) :: qlv (i + 1) t
theorem qlv_mem : ∀ (lv : List (Option Value)) (i k : Nat) (v : Value), lv[k]? = some (some v) → (i + k, v) ∈ qlv i lv
  | [], i, k, v, h => by simp at h
  | none :: t, i, 0, v, h => by simp at h
  | none :: t, i, k + 1, v, h => by
    have := qlv_mem t (i + 1) k v (by simpa using h)
    rw [show i + (k + 1) = i + 1 + k by omega]
    exact this
  | some w :: t, i, 0, v, h => by
    simp at h
    subst h
    exact List.mem_cons_self
  | some w :: t, i, k + 1, v, h => by
    have := qlv_mem t (i + 1) k v (by simpa using h)
    rw [show i + (k + 1) = i + 1 + k by omega]
    exact List.mem_cons_of_mem _ this
theorem qlv_of : ∀ (lv : List (Option Value)) (i : Nat) (q : Nat × Value), q ∈ qlv i lv → ∃ k, q.1 = i + k ∧ lv[k]? = some (some q.2)
  | [], i, q, h => by simp [qlv] at h
  | none :: t, i, q, h => by
    obtain ⟨k, h1, h2⟩ := qlv_of t (i + 1) q h
    exact ⟨k + 1, by omega, by simpa using h2⟩
  | some w :: t, i, q, h => by
    rcases List.mem_cons.mp h with rfl | h
    · exact ⟨0, rfl, rfl⟩
    · obtain ⟨k, h1, h2⟩ := qlv_of t (i + 1) q h
      exact ⟨k + 1, by omega, by simpa using h2⟩
def qh (ls : Array Slot) (nL : Nat) (lv : List (Option Value)) : Prop := lv_has ls nL (qlv 0 lv)
theorem qh_at {ls : Array Slot} {nL k : Nat} {lv : List (Option Value)} {v : Value} (h : qh ls nL lv) (hk : lv[k]? = some (some v)) : ls[k]? = some (.val v) := by
  have := h.2.2 (0 + k, v) (qlv_mem lv 0 k v hk)
  simpa using this
/-- no long stands just ahead of place i -/
def qok (lv : List (Option Value)) (i : Nat) : Prop := ∀ (j : Nat) (w : Value), j + 1 = i → lv[j]? = some (some w) → w.category = 1
theorem qok_0 {lv : List (Option Value)} : qok lv 0 := fun j w h => by omega
theorem qok_n {lv : List (Option Value)} {j : Nat} (h : lv[j]? = some none) : qok lv (j + 1) := fun k w e hk => by
  obtain rfl : k = j := by omega
  rw [h] at hk
  cases hk
theorem qok_s {lv : List (Option Value)} {j : Nat} {v : Value} (h : lv[j]? = some (some v)) (hc : v.category = 1) : qok lv (j + 1) := fun k w e hk => by
  obtain rfl : k = j := by omega
  rw [h] at hk
  cases hk
  exact hc
theorem qh_s1 {ls ls' : Array Slot} {nL i : Nat} {lv : List (Option Value)} {v : Value} (ho : qok lv i) (h : lv_has ls' nL ((i, v) :: (qlv 0 lv).filter (fun q => !(q.1 == i) && !(q.1 + 1 == i && q.2.category == 2)))) : qh ls' nL (lv.set i (some v)) := by
  refine ⟨h.1, h.2.1, fun q hq => ?_⟩
  obtain ⟨k, h1, h2⟩ := qlv_of _ 0 q hq
  by_cases hk : k = i
  · subst hk
    by_cases hl : k < lv.length
    · rw [List.getElem?_set_self hl] at h2
      have e2 := Option.some.inj (Option.some.inj h2)
      have := h.2.2 (k, v) List.mem_cons_self
      rw [h1, Nat.zero_add, ← e2]
      exact this
    · rw [List.getElem?_eq_none (by simp; omega)] at h2
      cases h2
  · rw [List.getElem?_set_ne (Ne.symm hk)] at h2
    refine h.2.2 q (List.mem_cons_of_mem _ (List.mem_filter.mpr ⟨?_, ?_⟩))
    · have := qlv_mem lv 0 k q.2 h2
      rw [← h1] at this
      exact this
    · have e : q.1 = k := by omega
      by_cases hc : k + 1 = i
      · have := ho k q.2 hc h2
        simp [e, hk, this]
      · simp [e, hk, hc]
theorem qh_s2 {ls ls' : Array Slot} {nL i : Nat} {lv : List (Option Value)} {v : Value} (ho : qok lv i) (h : lv_has ls' nL ((i, v) :: (qlv 0 lv).filter (fun q => !(q.1 == i) && (!(q.1 == i + 1) && !(q.1 + 1 == i && q.2.category == 2))))) : qh ls' nL ((lv.set i (some v)).set (i + 1) none) := by
  refine ⟨h.1, h.2.1, fun q hq => ?_⟩
  obtain ⟨k, h1, h2⟩ := qlv_of _ 0 q hq
  by_cases hk1 : k = i + 1
  · subst hk1
    rw [List.getElem?_set] at h2
    simp at h2
  · rw [List.getElem?_set_ne (Ne.symm hk1)] at h2
    by_cases hk : k = i
    · subst hk
      by_cases hl : k < lv.length
      · rw [List.getElem?_set_self hl] at h2
        have e2 := Option.some.inj (Option.some.inj h2)
        have := h.2.2 (k, v) List.mem_cons_self
        rw [h1, Nat.zero_add, ← e2]
        exact this
      · rw [List.getElem?_eq_none (by simp; omega)] at h2
        cases h2
    · rw [List.getElem?_set_ne (Ne.symm hk)] at h2
      refine h.2.2 q (List.mem_cons_of_mem _ (List.mem_filter.mpr ⟨?_, ?_⟩))
      · have := qlv_mem lv 0 k q.2 h2
        rw [← h1] at this
        exact this
      · have e : q.1 = k := by omega
        by_cases hc : k + 1 = i
        · have := ho k q.2 hc h2
          simp [e, hk, hk1, this]
        · simp [e, hk, hk1, hc]
/-- a point of a method -/
def Y (X : qX) (G : qG) (nL kc ks pc : Nat) (lv : List (Option Value)) (st : List Value) (h : List va_E) : Prop :=
  ∀ (H : Heap) (locs : List Loc) (ls : Array Slot), qH G h H → va_S (qA G) X.2.2.2.2.1.heap H locs → qh ls nL lv →
    W X.1 X.2.1 X.2.2.1 X.2.2.2.1 X.2.2.2.2.1 X.2.2.2.2.2.1 X.2.2.2.2.2.2.1 X.2.2.2.2.2.2.2.1 X.2.2.2.2.2.2.2.2.1 X.2.2.2.2.2.2.2.2.2.1 H locs kc ks X.2.2.2.2.2.2.2.2.2.2 (F0 X.2.2.2.2.2.1 pc ls st)
/-- what holds all through a method's body -/
def qC (X : qX) (G : qG) (cc : ByteArray) (nL : Nat) (own : String) (d : Nat) : Prop :=
  X.1.tables.exec = Jvm.exec ∧ X.2.2.2.2.2.2.2.2.2.1.code = cc ∧ X.2.2.2.2.2.2.2.2.2.1.maxLocals = nL ∧ X.2.2.2.2.1.vm.findClass own = some X.2.2.2.2.2.1.cls ∧ (∀ w ∈ lwg, w.before X.2.2.2.2.2.2.1 X.2.2.2.2.1 = true) ∧
  d ≤ X.2.2.2.1.frames ∧ 40 * d ≤ X.2.2.2.1.locals ∧ qF G X.2.2.2.2.1 X.2.2.2.2.1.heap ∧ G.2 4 ≤ X.2.2.2.2.1.heap.size ∧ X.2.2.2.2.2.2.2.2.1.locks = false
/-- its end: the answer and the heap that are due -/
def qE (X : qX) (G : qG) (rt : Option FieldType) (kc ks : Nat) (r : Option Value) (h' : List va_E) : Prop :=
  X.2.2.2.2.2.2.2.2.2.2 = MQ X.2.2.2.2.2.2.2.1 (qQ G r h') X.2.2.2.2.2.2.1 X.2.2.2.2.1 kc ks (qA G) ∧ X.2.2.2.2.2.2.2.2.1.sig.returnType = rt
def qd (cc : ByteArray) (pc : Nat) (i : Instr) (n pc' : Nat) : Prop := decode cc pc = .ok (i, n) ∧ pc + n = pc'
end
section
section
variable {X : qX} {G : qG} {cc : ByteArray} {nL kc ks pc pc' d : Nat} {own : String} {lv : List (Option Value)} {st : List Value} {h : List va_E}
theorem y_eq {lv' : List (Option Value)} {st' : List Value} {h' : List va_E} (h1 : lv = lv') (h2 : st = st') (h3 : h = h') (k : Y X G nL kc ks pc lv' st' h') : Y X G nL kc ks pc lv st h := by
  subst h1; subst h2; subst h3; exact k
theorem y_hp {h' : List va_E} (h3 : h = h') (k : Y X G nL kc ks pc lv st h') : Y X G nL kc ks pc lv st h := h3 ▸ k
theorem y_st {st' : List Value} (h3 : st = st') (k : Y X G nL kc ks pc lv st' h) : Y X G nL kc ks pc lv st h := h3 ▸ k
theorem y_lv {lv' : List (Option Value)} (h3 : lv = lv') (k : Y X G nL kc ks pc lv' st h) : Y X G nL kc ks pc lv st h := h3 ▸ k
theorem y_top {x y : Int32} (e : x = y) (k : Y X G nL kc ks pc lv (.int y :: st) h) : Y X G nL kc ks pc lv (.int x :: st) h := e ▸ k
theorem y_topl {x y : Int64} (e : x = y) (k : Y X G nL kc ks pc lv (.long y :: st) h) : Y X G nL kc ks pc lv (.long x :: st) h := e ▸ k
theorem y_iconst {i : Int} {v : Int32} (C : qC X G cc nL own d) (hd : qd cc pc (.iconst i) 1 pc') (hv : Int32.ofInt i = v) (k : Y X G nL kc ks pc' lv (.int v :: st) h) : Y X G nL kc ks pc lv (st) h := by
  obtain ⟨hd, rfl⟩ := hd
  exact fun H locs ls a b c => lv_iconst C.1 C.2.1 hd hv (k H locs ls a b c)
theorem y_bipush {i : Int} {v : Int32} (C : qC X G cc nL own d) (hd : qd cc pc (.bipush i) 2 pc') (hv : (Int8.ofInt i).toInt32 = v) (k : Y X G nL kc ks pc' lv (.int v :: st) h) : Y X G nL kc ks pc lv (st) h := by
  obtain ⟨hd, rfl⟩ := hd
  exact fun H locs ls a b c => lv_bipush C.1 C.2.1 hd hv (k H locs ls a b c)
theorem y_sipush {i : Int} {v : Int32} (C : qC X G cc nL own d) (hd : qd cc pc (.sipush i) 3 pc') (hv : (Int16.ofInt i).toInt32 = v) (k : Y X G nL kc ks pc' lv (.int v :: st) h) : Y X G nL kc ks pc lv (st) h := by
  obtain ⟨hd, rfl⟩ := hd
  exact fun H locs ls a b c => lv_sipush C.1 C.2.1 hd hv (k H locs ls a b c)
theorem y_lconst {i : Fin 2} {v : Int64} (C : qC X G cc nL own d) (hd : qd cc pc (.lconst i) 1 pc') (hv : Int64.ofNat (i : Nat) = v) (k : Y X G nL kc ks pc' lv (.long v :: st) h) : Y X G nL kc ks pc lv (st) h := by
  obtain ⟨hd, rfl⟩ := hd
  exact fun H locs ls a b c => lv_lconst C.1 C.2.1 hd hv (k H locs ls a b c)
theorem y_iload_n {i : Fin 4} {x : Int32} (C : qC X G cc nL own d) (hd : qd cc pc (.iload_n i) 1 pc') (hl : lv[(i : Nat)]? = some (some (.int x))) (k : Y X G nL kc ks pc' lv (.int x :: st) h) : Y X G nL kc ks pc lv (st) h := by
  obtain ⟨hd, rfl⟩ := hd
  exact fun H locs ls a b c => lv_iload_n C.1 C.2.1 hd rfl (qh_at c hl) (k H locs ls a b c)
theorem y_iload {i : Nat} {x : Int32} (C : qC X G cc nL own d) (hd : qd cc pc (.iload i) 2 pc') (hl : lv[i]? = some (some (.int x))) (k : Y X G nL kc ks pc' lv (.int x :: st) h) : Y X G nL kc ks pc lv (st) h := by
  obtain ⟨hd, rfl⟩ := hd
  exact fun H locs ls a b c => lv_iload C.1 C.2.1 hd (qh_at c hl) (k H locs ls a b c)
theorem y_lload_n {i : Fin 4} {x : Int64} (C : qC X G cc nL own d) (hd : qd cc pc (.lload_n i) 1 pc') (hl : lv[(i : Nat)]? = some (some (.long x))) (k : Y X G nL kc ks pc' lv (.long x :: st) h) : Y X G nL kc ks pc lv (st) h := by
  obtain ⟨hd, rfl⟩ := hd
  exact fun H locs ls a b c => lv_lload_n C.1 C.2.1 hd rfl (qh_at c hl) (k H locs ls a b c)
theorem y_lload {i : Nat} {x : Int64} (C : qC X G cc nL own d) (hd : qd cc pc (.lload i) 2 pc') (hl : lv[i]? = some (some (.long x))) (k : Y X G nL kc ks pc' lv (.long x :: st) h) : Y X G nL kc ks pc lv (st) h := by
  obtain ⟨hd, rfl⟩ := hd
  exact fun H locs ls a b c => lv_lload C.1 C.2.1 hd (qh_at c hl) (k H locs ls a b c)
theorem y_aload_n {i : Fin 4} {x : Nat} (C : qC X G cc nL own d) (hd : qd cc pc (.aload_n i) 1 pc') (hl : lv[(i : Nat)]? = some (some (.ref x))) (k : Y X G nL kc ks pc' lv (.ref x :: st) h) : Y X G nL kc ks pc lv (st) h := by
  obtain ⟨hd, rfl⟩ := hd
  exact fun H locs ls a b c => lv_aload_n C.1 C.2.1 hd rfl (qh_at c hl) (k H locs ls a b c)
theorem y_aload {i : Nat} {x : Nat} (C : qC X G cc nL own d) (hd : qd cc pc (.aload i) 2 pc') (hl : lv[i]? = some (some (.ref x))) (k : Y X G nL kc ks pc' lv (.ref x :: st) h) : Y X G nL kc ks pc lv (st) h := by
  obtain ⟨hd, rfl⟩ := hd
  exact fun H locs ls a b c => lv_aload C.1 C.2.1 hd (qh_at c hl) (k H locs ls a b c)
theorem y_istore {i : Nat} {x : Int32} (C : qC X G cc nL own d) (hd : qd cc pc (.istore i) 2 pc') (hn : i < nL) (ho : qok lv i) (k : Y X G nL kc ks pc' (lv.set i (some (.int x))) st h) : Y X G nL kc ks pc lv (.int x :: st) h := by
  obtain ⟨hd, rfl⟩ := hd
  exact fun H locs ls a b c => lv_istore C.1 C.2.1 hd c hn rfl (fun ls' c' => k H locs ls' a b (qh_s1 (ls := ls) ho c'))
theorem y_istore_n {i : Fin 4} {x : Int32} (C : qC X G cc nL own d) (hd : qd cc pc (.istore_n i) 1 pc') (hn : (i : Nat) < nL) (ho : qok lv (i : Nat)) (k : Y X G nL kc ks pc' (lv.set (i : Nat) (some (.int x))) st h) : Y X G nL kc ks pc lv (.int x :: st) h := by
  obtain ⟨hd, rfl⟩ := hd
  exact fun H locs ls a b c => lv_istore_n C.1 C.2.1 hd rfl c hn rfl (fun ls' c' => k H locs ls' a b (qh_s1 (ls := ls) ho c'))
theorem y_astore {i : Nat} {x : Nat} (C : qC X G cc nL own d) (hd : qd cc pc (.astore i) 2 pc') (hn : i < nL) (ho : qok lv i) (k : Y X G nL kc ks pc' (lv.set i (some (.ref x))) st h) : Y X G nL kc ks pc lv (.ref x :: st) h := by
  obtain ⟨hd, rfl⟩ := hd
  exact fun H locs ls a b c => lv_astore C.1 C.2.1 hd c hn rfl (fun ls' c' => k H locs ls' a b (qh_s1 (ls := ls) ho c'))
theorem y_astore_n {i : Fin 4} {x : Nat} (C : qC X G cc nL own d) (hd : qd cc pc (.astore_n i) 1 pc') (hn : (i : Nat) < nL) (ho : qok lv (i : Nat)) (k : Y X G nL kc ks pc' (lv.set (i : Nat) (some (.ref x))) st h) : Y X G nL kc ks pc lv (.ref x :: st) h := by
  obtain ⟨hd, rfl⟩ := hd
  exact fun H locs ls a b c => lv_astore_n C.1 C.2.1 hd rfl c hn rfl (fun ls' c' => k H locs ls' a b (qh_s1 (ls := ls) ho c'))
theorem y_lstore {i : Nat} {x : Int64} (C : qC X G cc nL own d) (hd : qd cc pc (.lstore i) 2 pc') (hn : i + 1 < nL) (ho : qok lv i) (k : Y X G nL kc ks pc' ((lv.set i (some (.long x))).set (i + 1) none) st h) : Y X G nL kc ks pc lv (.long x :: st) h := by
  obtain ⟨hd, rfl⟩ := hd
  exact fun H locs ls a b c => lv_lstore C.1 C.2.1 hd c hn rfl (fun ls' c' => k H locs ls' a b (qh_s2 (ls := ls) ho c'))
theorem y_lstore_n {i : Fin 4} {x : Int64} (C : qC X G cc nL own d) (hd : qd cc pc (.lstore_n i) 1 pc') (hn : (i : Nat) + 1 < nL) (ho : qok lv (i : Nat)) (k : Y X G nL kc ks pc' ((lv.set (i : Nat) (some (.long x))).set ((i : Nat) + 1) none) st h) : Y X G nL kc ks pc lv (.long x :: st) h := by
  obtain ⟨hd, rfl⟩ := hd
  exact fun H locs ls a b c => lv_lstore_n C.1 C.2.1 hd rfl c hn rfl (fun ls' c' => k H locs ls' a b (qh_s2 (ls := ls) ho c'))
theorem qlv_idx {lv : List (Option Value)} {i : Nat} {v : Value} (h : lv[i]? = some (some v)) : ∃ k : Nat, (qlv 0 lv)[k]? = some (i, v) := by
  have := qlv_mem lv 0 i v h
  rw [Nat.zero_add] at this
  exact List.getElem?_of_mem this
theorem y_iinc {i : Nat} {n : Int} {x v : Int32} (C : qC X G cc nL own d) (hd : qd cc pc (.iinc i n) 3 pc') (hl : lv[i]? = some (some (.int x))) (hv : x + Int32.ofInt n = v) (hn : i < nL) (ho : qok lv i) (k : Y X G nL kc ks pc' (lv.set i (some (.int v))) st h) : Y X G nL kc ks pc lv st h := by
  obtain ⟨hd, rfl⟩ := hd
  obtain ⟨kk, hk⟩ := qlv_idx hl
  exact fun H locs ls a b c => lv_iinc C.1 C.2.1 hd c hk hv hn rfl (fun ls' c' => k H locs ls' a b (qh_s1 (ls := ls) ho c'))
theorem y_iadd {x y : Int32} (C : qC X G cc nL own d) (hd : qd cc pc (.iadd) 1 pc') (k : Y X G nL kc ks pc' lv (.int (x + y) :: st) h) : Y X G nL kc ks pc lv (.int y :: .int x :: st) h := by
  obtain ⟨hd, rfl⟩ := hd
  exact fun H locs ls a b c => lv_iadd C.1 C.2.1 hd (k H locs ls a b c)
theorem y_isub {x y : Int32} (C : qC X G cc nL own d) (hd : qd cc pc (.isub) 1 pc') (k : Y X G nL kc ks pc' lv (.int (x - y) :: st) h) : Y X G nL kc ks pc lv (.int y :: .int x :: st) h := by
  obtain ⟨hd, rfl⟩ := hd
  exact fun H locs ls a b c => lv_isub C.1 C.2.1 hd (k H locs ls a b c)
theorem y_imul {x y : Int32} (C : qC X G cc nL own d) (hd : qd cc pc (.imul) 1 pc') (k : Y X G nL kc ks pc' lv (.int (x * y) :: st) h) : Y X G nL kc ks pc lv (.int y :: .int x :: st) h := by
  obtain ⟨hd, rfl⟩ := hd
  exact fun H locs ls a b c => lv_imul C.1 C.2.1 hd (k H locs ls a b c)
theorem y_iand {x y : Int32} (C : qC X G cc nL own d) (hd : qd cc pc (.iand) 1 pc') (k : Y X G nL kc ks pc' lv (.int (x &&& y) :: st) h) : Y X G nL kc ks pc lv (.int y :: .int x :: st) h := by
  obtain ⟨hd, rfl⟩ := hd
  exact fun H locs ls a b c => lv_iand C.1 C.2.1 hd (k H locs ls a b c)
theorem y_ior {x y : Int32} (C : qC X G cc nL own d) (hd : qd cc pc (.ior) 1 pc') (k : Y X G nL kc ks pc' lv (.int (x ||| y) :: st) h) : Y X G nL kc ks pc lv (.int y :: .int x :: st) h := by
  obtain ⟨hd, rfl⟩ := hd
  exact fun H locs ls a b c => lv_ior C.1 C.2.1 hd (k H locs ls a b c)
theorem y_ixor {x y : Int32} (C : qC X G cc nL own d) (hd : qd cc pc (.ixor) 1 pc') (k : Y X G nL kc ks pc' lv (.int (x ^^^ y) :: st) h) : Y X G nL kc ks pc lv (.int y :: .int x :: st) h := by
  obtain ⟨hd, rfl⟩ := hd
  exact fun H locs ls a b c => lv_ixor C.1 C.2.1 hd (k H locs ls a b c)
theorem y_ishl {x y : Int32} (C : qC X G cc nL own d) (hd : qd cc pc (.ishl) 1 pc') (k : Y X G nL kc ks pc' lv (.int (x <<< (y &&& 31)) :: st) h) : Y X G nL kc ks pc lv (.int y :: .int x :: st) h := by
  obtain ⟨hd, rfl⟩ := hd
  exact fun H locs ls a b c => lv_ishl C.1 C.2.1 hd (k H locs ls a b c)
theorem y_ishr {x y : Int32} (C : qC X G cc nL own d) (hd : qd cc pc (.ishr) 1 pc') (k : Y X G nL kc ks pc' lv (.int (x >>> (y &&& 31)) :: st) h) : Y X G nL kc ks pc lv (.int y :: .int x :: st) h := by
  obtain ⟨hd, rfl⟩ := hd
  exact fun H locs ls a b c => lv_ishr C.1 C.2.1 hd (k H locs ls a b c)
theorem y_iushr {x y : Int32} (C : qC X G cc nL own d) (hd : qd cc pc (.iushr) 1 pc') (k : Y X G nL kc ks pc' lv (.int ((x.toUInt32 >>> (y.toUInt32 &&& Int32.toUInt32 31)).toInt32) :: st) h) : Y X G nL kc ks pc lv (.int y :: .int x :: st) h := by
  obtain ⟨hd, rfl⟩ := hd
  exact fun H locs ls a b c => lv_iushr C.1 C.2.1 hd rfl (k H locs ls a b c)
theorem y_idiv {x y : Int32} (C : qC X G cc nL own d) (hd : qd cc pc (.idiv) 1 pc') (hne : ¬ y = 0) (k : Y X G nL kc ks pc' lv (.int (x / y) :: st) h) : Y X G nL kc ks pc lv (.int y :: .int x :: st) h := by
  obtain ⟨hd, rfl⟩ := hd
  exact fun H locs ls a b c => lv_idiv C.1 C.2.1 hd hne (k H locs ls a b c)
theorem y_irem {x y : Int32} (C : qC X G cc nL own d) (hd : qd cc pc (.irem) 1 pc') (hne : ¬ y = 0) (k : Y X G nL kc ks pc' lv (.int (x - x / y * y) :: st) h) : Y X G nL kc ks pc lv (.int y :: .int x :: st) h := by
  obtain ⟨hd, rfl⟩ := hd
  exact fun H locs ls a b c => lv_irem C.1 C.2.1 hd hne (k H locs ls a b c)
theorem y_ineg {x : Int32} (C : qC X G cc nL own d) (hd : qd cc pc (.ineg) 1 pc') (k : Y X G nL kc ks pc' lv (.int (-x) :: st) h) : Y X G nL kc ks pc lv (.int x :: st) h := by
  obtain ⟨hd, rfl⟩ := hd
  exact fun H locs ls a b c => lv_ineg C.1 C.2.1 hd (k H locs ls a b c)
theorem y_ladd {x y : Int64} (C : qC X G cc nL own d) (hd : qd cc pc (.ladd) 1 pc') (k : Y X G nL kc ks pc' lv (.long (x + y) :: st) h) : Y X G nL kc ks pc lv (.long y :: .long x :: st) h := by
  obtain ⟨hd, rfl⟩ := hd
  exact fun H locs ls a b c => lv_ladd C.1 C.2.1 hd (k H locs ls a b c)
theorem y_lsub {x y : Int64} (C : qC X G cc nL own d) (hd : qd cc pc (.lsub) 1 pc') (k : Y X G nL kc ks pc' lv (.long (x - y) :: st) h) : Y X G nL kc ks pc lv (.long y :: .long x :: st) h := by
  obtain ⟨hd, rfl⟩ := hd
  exact fun H locs ls a b c => lv_lsub C.1 C.2.1 hd (k H locs ls a b c)
theorem y_lmul {x y : Int64} (C : qC X G cc nL own d) (hd : qd cc pc (.lmul) 1 pc') (k : Y X G nL kc ks pc' lv (.long (x * y) :: st) h) : Y X G nL kc ks pc lv (.long y :: .long x :: st) h := by
  obtain ⟨hd, rfl⟩ := hd
  exact fun H locs ls a b c => lv_lmul C.1 C.2.1 hd (k H locs ls a b c)
theorem y_ldiv {x y : Int64} (C : qC X G cc nL own d) (hd : qd cc pc (.ldiv) 1 pc') (hne : ¬ y = 0) (k : Y X G nL kc ks pc' lv (.long (x / y) :: st) h) : Y X G nL kc ks pc lv (.long y :: .long x :: st) h := by
  obtain ⟨hd, rfl⟩ := hd
  exact fun H locs ls a b c => lv_ldiv C.1 C.2.1 hd hne (k H locs ls a b c)
theorem y_lrem {x y : Int64} (C : qC X G cc nL own d) (hd : qd cc pc (.lrem) 1 pc') (hne : ¬ y = 0) (k : Y X G nL kc ks pc' lv (.long (x - x / y * y) :: st) h) : Y X G nL kc ks pc lv (.long y :: .long x :: st) h := by
  obtain ⟨hd, rfl⟩ := hd
  exact fun H locs ls a b c => lv_lrem C.1 C.2.1 hd hne (k H locs ls a b c)
theorem y_i2l {x : Int32} (C : qC X G cc nL own d) (hd : qd cc pc (.i2l) 1 pc') (k : Y X G nL kc ks pc' lv (.long x.toInt64 :: st) h) : Y X G nL kc ks pc lv (.int x :: st) h := by
  obtain ⟨hd, rfl⟩ := hd
  exact fun H locs ls a b c => lv_i2l C.1 C.2.1 hd rfl (k H locs ls a b c)
theorem y_l2i {x : Int64} (C : qC X G cc nL own d) (hd : qd cc pc (.l2i) 1 pc') (k : Y X G nL kc ks pc' lv (.int x.toInt32 :: st) h) : Y X G nL kc ks pc lv (.long x :: st) h := by
  obtain ⟨hd, rfl⟩ := hd
  exact fun H locs ls a b c => lv_l2i C.1 C.2.1 hd rfl (k H locs ls a b c)
theorem y_i2b {x : Int32} (C : qC X G cc nL own d) (hd : qd cc pc (.i2b) 1 pc') (k : Y X G nL kc ks pc' lv (.int x.toInt8.toInt32 :: st) h) : Y X G nL kc ks pc lv (.int x :: st) h := by
  obtain ⟨hd, rfl⟩ := hd
  exact fun H locs ls a b c => lv_i2b C.1 C.2.1 hd rfl (k H locs ls a b c)
theorem y_i2s {x : Int32} (C : qC X G cc nL own d) (hd : qd cc pc (.i2s) 1 pc') (k : Y X G nL kc ks pc' lv (.int x.toInt16.toInt32 :: st) h) : Y X G nL kc ks pc lv (.int x :: st) h := by
  obtain ⟨hd, rfl⟩ := hd
  exact fun H locs ls a b c => lv_i2s C.1 C.2.1 hd rfl (k H locs ls a b c)
theorem y_dup {va : Value} (C : qC X G cc nL own d) (hd : qd cc pc (.dup) 1 pc') (hva : va.category = 1) (k : Y X G nL kc ks pc' lv (va :: va :: st) h) : Y X G nL kc ks pc lv (va :: st) h := by
  obtain ⟨hd, rfl⟩ := hd
  exact fun H locs ls a b c => lv_dup C.1 C.2.1 hd hva (k H locs ls a b c)
theorem y_pop {va : Value} (C : qC X G cc nL own d) (hd : qd cc pc (.pop) 1 pc') (hva : va.category = 1) (k : Y X G nL kc ks pc' lv (st) h) : Y X G nL kc ks pc lv (va :: st) h := by
  obtain ⟨hd, rfl⟩ := hd
  exact fun H locs ls a b c => lv_pop C.1 C.2.1 hd hva (k H locs ls a b c)
theorem y_dup2 {va vb : Value} (C : qC X G cc nL own d) (hd : qd cc pc (.dup2) 1 pc') (hva : va.category = 1) (hvb : vb.category = 1) (k : Y X G nL kc ks pc' lv (va :: vb :: va :: vb :: st) h) : Y X G nL kc ks pc lv (va :: vb :: st) h := by
  obtain ⟨hd, rfl⟩ := hd
  exact fun H locs ls a b c => lv_dup2_11 C.1 C.2.1 hd hva hvb (k H locs ls a b c)
def qj (cc : ByteArray) (pc : Nat) (i : Instr) (off : Int) (pc' tgt : Nat) : Prop := decode cc pc = .ok (i, 3) ∧ pc + 3 = pc' ∧ (pc : Int) + off = (tgt : Int)
theorem y_if_eq {x : Int32} {off : Int} {tgt : Nat} {P : Prop} (C : qC X G cc nL own d) (hd : qj cc pc (.ifCond .eq off) off pc' tgt) (hP : x = 0 ↔ P) (kt : P → Y X G nL kc ks tgt lv st h) (kf : ¬ P → Y X G nL kc ks pc' lv st h) : Y X G nL kc ks pc lv (.int x :: st) h := by
  obtain ⟨hd, rfl, ht⟩ := hd
  exact fun H locs ls a b c => lv_if_eq C.1 C.2.1 hd ht (fun q => kt (hP.mp q) H locs ls a b c) (fun q => kf (fun z => q (hP.mpr z)) H locs ls a b c)
theorem y_icmp_eq {x y : Int32} {off : Int} {tgt : Nat} {P : Prop} (C : qC X G cc nL own d) (hd : qj cc pc (.if_icmp .eq off) off pc' tgt) (hP : x = y ↔ P) (kt : P → Y X G nL kc ks tgt lv st h) (kf : ¬ P → Y X G nL kc ks pc' lv st h) : Y X G nL kc ks pc lv (.int y :: .int x :: st) h := by
  obtain ⟨hd, rfl, ht⟩ := hd
  exact fun H locs ls a b c => lv_icmp_eq C.1 C.2.1 hd ht (fun q => kt (hP.mp q) H locs ls a b c) (fun q => kf (fun z => q (hP.mpr z)) H locs ls a b c)
theorem y_if_ne {x : Int32} {off : Int} {tgt : Nat} {P : Prop} (C : qC X G cc nL own d) (hd : qj cc pc (.ifCond .ne off) off pc' tgt) (hP : x = 0 ↔ P) (kt : ¬ P → Y X G nL kc ks tgt lv st h) (kf : P → Y X G nL kc ks pc' lv st h) : Y X G nL kc ks pc lv (.int x :: st) h := by
  obtain ⟨hd, rfl, ht⟩ := hd
  exact fun H locs ls a b c => lv_if_ne C.1 C.2.1 hd ht (fun q => kt (fun z => q (hP.mpr z)) H locs ls a b c) (fun q => kf (hP.mp q) H locs ls a b c)
theorem y_icmp_ne {x y : Int32} {off : Int} {tgt : Nat} {P : Prop} (C : qC X G cc nL own d) (hd : qj cc pc (.if_icmp .ne off) off pc' tgt) (hP : x = y ↔ P) (kt : ¬ P → Y X G nL kc ks tgt lv st h) (kf : P → Y X G nL kc ks pc' lv st h) : Y X G nL kc ks pc lv (.int y :: .int x :: st) h := by
  obtain ⟨hd, rfl, ht⟩ := hd
  exact fun H locs ls a b c => lv_icmp_ne C.1 C.2.1 hd ht (fun q => kt (fun z => q (hP.mpr z)) H locs ls a b c) (fun q => kf (hP.mp q) H locs ls a b c)
theorem y_if_lt {x : Int32} {off : Int} {tgt : Nat} {P : Prop} (C : qC X G cc nL own d) (hd : qj cc pc (.ifCond .lt off) off pc' tgt) (hP : x < 0 ↔ P) (kt : P → Y X G nL kc ks tgt lv st h) (kf : ¬ P → Y X G nL kc ks pc' lv st h) : Y X G nL kc ks pc lv (.int x :: st) h := by
  obtain ⟨hd, rfl, ht⟩ := hd
  exact fun H locs ls a b c => lv_if_lt C.1 C.2.1 hd ht (fun q => kt (hP.mp q) H locs ls a b c) (fun q => kf (fun z => q (hP.mpr z)) H locs ls a b c)
theorem y_icmp_lt {x y : Int32} {off : Int} {tgt : Nat} {P : Prop} (C : qC X G cc nL own d) (hd : qj cc pc (.if_icmp .lt off) off pc' tgt) (hP : x < y ↔ P) (kt : P → Y X G nL kc ks tgt lv st h) (kf : ¬ P → Y X G nL kc ks pc' lv st h) : Y X G nL kc ks pc lv (.int y :: .int x :: st) h := by
  obtain ⟨hd, rfl, ht⟩ := hd
  exact fun H locs ls a b c => lv_icmp_lt C.1 C.2.1 hd ht (fun q => kt (hP.mp q) H locs ls a b c) (fun q => kf (fun z => q (hP.mpr z)) H locs ls a b c)
theorem y_if_ge {x : Int32} {off : Int} {tgt : Nat} {P : Prop} (C : qC X G cc nL own d) (hd : qj cc pc (.ifCond .ge off) off pc' tgt) (hP : 0 ≤ x ↔ P) (kt : P → Y X G nL kc ks tgt lv st h) (kf : ¬ P → Y X G nL kc ks pc' lv st h) : Y X G nL kc ks pc lv (.int x :: st) h := by
  obtain ⟨hd, rfl, ht⟩ := hd
  exact fun H locs ls a b c => lv_if_ge C.1 C.2.1 hd ht (fun q => kt (hP.mp q) H locs ls a b c) (fun q => kf (fun z => q (hP.mpr z)) H locs ls a b c)
theorem y_icmp_ge {x y : Int32} {off : Int} {tgt : Nat} {P : Prop} (C : qC X G cc nL own d) (hd : qj cc pc (.if_icmp .ge off) off pc' tgt) (hP : y ≤ x ↔ P) (kt : P → Y X G nL kc ks tgt lv st h) (kf : ¬ P → Y X G nL kc ks pc' lv st h) : Y X G nL kc ks pc lv (.int y :: .int x :: st) h := by
  obtain ⟨hd, rfl, ht⟩ := hd
  exact fun H locs ls a b c => lv_icmp_ge C.1 C.2.1 hd ht (fun q => kt (hP.mp q) H locs ls a b c) (fun q => kf (fun z => q (hP.mpr z)) H locs ls a b c)
theorem y_if_gt {x : Int32} {off : Int} {tgt : Nat} {P : Prop} (C : qC X G cc nL own d) (hd : qj cc pc (.ifCond .gt off) off pc' tgt) (hP : 0 < x ↔ P) (kt : P → Y X G nL kc ks tgt lv st h) (kf : ¬ P → Y X G nL kc ks pc' lv st h) : Y X G nL kc ks pc lv (.int x :: st) h := by
  obtain ⟨hd, rfl, ht⟩ := hd
  exact fun H locs ls a b c => lv_if_gt C.1 C.2.1 hd ht (fun q => kt (hP.mp q) H locs ls a b c) (fun q => kf (fun z => q (hP.mpr z)) H locs ls a b c)
theorem y_icmp_gt {x y : Int32} {off : Int} {tgt : Nat} {P : Prop} (C : qC X G cc nL own d) (hd : qj cc pc (.if_icmp .gt off) off pc' tgt) (hP : y < x ↔ P) (kt : P → Y X G nL kc ks tgt lv st h) (kf : ¬ P → Y X G nL kc ks pc' lv st h) : Y X G nL kc ks pc lv (.int y :: .int x :: st) h := by
  obtain ⟨hd, rfl, ht⟩ := hd
  exact fun H locs ls a b c => lv_icmp_gt C.1 C.2.1 hd ht (fun q => kt (hP.mp q) H locs ls a b c) (fun q => kf (fun z => q (hP.mpr z)) H locs ls a b c)
theorem y_if_le {x : Int32} {off : Int} {tgt : Nat} {P : Prop} (C : qC X G cc nL own d) (hd : qj cc pc (.ifCond .le off) off pc' tgt) (hP : x ≤ 0 ↔ P) (kt : P → Y X G nL kc ks tgt lv st h) (kf : ¬ P → Y X G nL kc ks pc' lv st h) : Y X G nL kc ks pc lv (.int x :: st) h := by
  obtain ⟨hd, rfl, ht⟩ := hd
  exact fun H locs ls a b c => lv_if_le C.1 C.2.1 hd ht (fun q => kt (hP.mp q) H locs ls a b c) (fun q => kf (fun z => q (hP.mpr z)) H locs ls a b c)
theorem y_icmp_le {x y : Int32} {off : Int} {tgt : Nat} {P : Prop} (C : qC X G cc nL own d) (hd : qj cc pc (.if_icmp .le off) off pc' tgt) (hP : x ≤ y ↔ P) (kt : P → Y X G nL kc ks tgt lv st h) (kf : ¬ P → Y X G nL kc ks pc' lv st h) : Y X G nL kc ks pc lv (.int y :: .int x :: st) h := by
  obtain ⟨hd, rfl, ht⟩ := hd
  exact fun H locs ls a b c => lv_icmp_le C.1 C.2.1 hd ht (fun q => kt (hP.mp q) H locs ls a b c) (fun q => kf (fun z => q (hP.mpr z)) H locs ls a b c)
theorem y_goto {off : Int} {tgt : Nat} (C : qC X G cc nL own d) (hd : qj cc pc (.goto off) off pc' tgt) (k : Y X G nL kc ks tgt lv st h) : Y X G nL kc ks pc lv st h := by
  obtain ⟨hd, rfl, ht⟩ := hd
  exact fun H locs ls a b c => lv_goto C.1 C.2.1 hd ht (k H locs ls a b c)
theorem y_lookup {dflt off : Int} {ps : Array (Int × Int)} {len tgt : Nat} {x : Int32} (C : qC X G cc nL own d) (hd : qd cc pc (.lookupswitch dflt ps) len pc') (hp : (ps.toList.zip (ps.toList.drop 1)).all (fun (a, next) => a.1 < next.1) = true) (ho : Op.lookupswitch.offset ps.toList dflt x.toInt = off) (ht : (pc : Int) + off = (tgt : Int)) (k : Y X G nL kc ks tgt lv st h) : Y X G nL kc ks pc lv (.int x :: st) h :=
  fun H locs ls a b c => lv_lookup C.1 C.2.1 hd.1 hp ho ht (k H locs ls a b c)
theorem y_tabOut {dflt lo hi : Int} {offs : Array Int} {len tgt : Nat} {x : Int32} (C : qC X G cc nL own d) (hd : qd cc pc (.tableswitch dflt lo hi offs) len pc') (hx : x.toInt < lo ∨ hi < x.toInt) (ht : (pc : Int) + dflt = (tgt : Int)) (k : Y X G nL kc ks tgt lv st h) : Y X G nL kc ks pc lv (.int x :: st) h :=
  fun H locs ls a b c => lv_tableOut C.1 C.2.1 hd.1 hx ht (k H locs ls a b c)
theorem y_tabIn {dflt lo hi off : Int} {offs : Array Int} {len tgt : Nat} {x : Int32} (C : qC X G cc nL own d) (hd : qd cc pc (.tableswitch dflt lo hi offs) len pc') (h1 : ¬ x.toInt < lo) (h2 : ¬ hi < x.toInt) (ho : offs[(x.toInt - lo).toNat]? = some off) (ht : (pc : Int) + off = (tgt : Int)) (k : Y X G nL kc ks tgt lv st h) : Y X G nL kc ks pc lv (.int x :: st) h :=
  fun H locs ls a b c => lv_tableIn C.1 C.2.1 hd.1 h1 h2 ho ht (k H locs ls a b c)
theorem y_lcmp {x y : Int64} (C : qC X G cc nL own d) (hd : qd cc pc (.lcmp) 1 pc') (k : Y X G nL kc ks pc' lv (.int (lg_cmp x y) :: st) h) : Y X G nL kc ks pc lv (.long y :: .long x :: st) h := by
  obtain ⟨hd, rfl⟩ := hd
  exact fun H locs ls a b c => W.lcmp C.1 C.2.1 hd (k H locs ls a b c)
theorem y_ldc {idx : Nat} {v : Int32} (C : qC X G cc nL own d) (hd : qd cc pc (.ldc idx) 2 pc') (hw : Cond.constant own idx v ∈ lwg) (k : Y X G nL kc ks pc' lv (.int v :: st) h) : Y X G nL kc ks pc lv st h := by
  obtain ⟨hd, rfl⟩ := hd
  exact fun H locs ls a b c => lv_ldc C.1 C.2.1 C.2.2.2.1 (C.2.2.2.2.1 _ hw) hd (k H locs ls a b c)
theorem y_ldcw {idx : Nat} {v : Int32} (C : qC X G cc nL own d) (hd : qd cc pc (.ldc_w idx) 3 pc') (hw : Cond.constant own idx v ∈ lwg) (k : Y X G nL kc ks pc' lv (.int v :: st) h) : Y X G nL kc ks pc lv st h := by
  obtain ⟨hd, rfl⟩ := hd
  exact fun H locs ls a b c => lv_ldcw C.1 C.2.1 C.2.2.2.1 (C.2.2.2.2.1 _ hw) hd (k H locs ls a b c)
theorem y_ldc2 {idx : Nat} {v : Int64} (C : qC X G cc nL own d) (hd : qd cc pc (.ldc2_w idx) 3 pc') (hw : Cond.constantLong own idx v ∈ lwg) (k : Y X G nL kc ks pc' lv (.long v :: st) h) : Y X G nL kc ks pc lv st h := by
  obtain ⟨hd, rfl⟩ := hd
  exact fun H locs ls a b c => lv_ldc2 C.1 C.2.1 C.2.2.2.1 (C.2.2.2.2.1 _ hw) hd (k H locs ls a b c)
/-- a field's link: entry idx of own's pool is field k of the class ci -/
def qfl (own : String) (idx ci k : Nat) (ty : FieldType) (fin : Bool) : Prop := ∃ (D : String) (T : u_T) (N : Nat) (ty0 : Nat → FieldType), vwCl[ci]? = some (D, T, N) ∧ k < N ∧ (∀ w ∈ u_ws D T N, w ∈ lwg) ∧ (∀ k, k < N → parseFieldDescriptor (T k).2.2.1 = some (ty0 k)) ∧ (∀ a, a < N → ∀ b, b < N → a ≠ b → (T a).2.1 ≠ (T b).2.1) ∧ Cond.fieldLink own idx (T k).1 (T k).2.1 (T k).2.2.1 ∈ lwg ∧ parseFieldDescriptor (T k).2.2.1 = some ty ∧ (T k).2.2.2 = fin ∧ (T k).1 = D
theorem y_get {idx a ci k : Nat} {fs : List Value} {v : Value} {ty : FieldType} {fin : Bool} (C : qC X G cc nL own d) (hd : qd cc pc (.getfield idx) 3 pc') (hf : qfl own idx ci k ty fin) (hl : h[a]? = some (.inr (ci, fs))) (hv : fs[k]? = some v) (kk : Y X G nL kc ks pc' lv (v :: st) h) : Y X G nL kc ks pc lv (qr G a :: st) h := by
  obtain ⟨hd, rfl⟩ := hd
  obtain ⟨D, T, N, ty0, f1, f2, f3, f4, f5, f6, f7, f8, f9⟩ := hf
  exact fun H locs ls a b c => va_get C.1 C.2.1 C.2.2.2.2.1 f3 C.2.2.2.1 C.2.2.2.2.2.2.2.1.1 a _ (qw_at hl) f1 k f2 (C.2.2.2.2.1 _ f6) (fun _ h => h) hv hd (kk H locs ls a b c)
theorem y_put {idx a ci k : Nat} {fs : List Value} {v : Value} {ty : FieldType} {h' : List va_E} (C : qC X G cc nL own d) (hd : qd cc pc (.putfield idx) 3 pc') (hf : qfl own idx ci k ty false) (hl : h[a]? = some (.inr (ci, fs))) (hk : k < fs.length) (hn : narrow ty v = v) (hfit : fits ty v = true) (hh : h.set a (.inr (ci, fs.set k v)) = h') (kk : Y X G nL kc ks pc' lv st h') : Y X G nL kc ks pc lv (v :: qr G a :: st) h := by
  obtain ⟨hd, rfl⟩ := hd
  subst hh
  obtain ⟨D, T, N, ty0, f1, f2, f3, f4, f5, f6, f7, f8, f9⟩ := hf
  intro H locs ls e b c
  exact va_put C.1 C.2.1 C.2.2.2.2.1 f3 ty0 f4 f5 C.2.2.2.1 C.2.2.2.2.2.2.2.1.1 e qw_D b _ (qw_at hl) f1 k f2 (C.2.2.2.2.1 _ f6) (fun _ h => h) f8 f7 hn hfit hk hd (fun H1 locs1 p1 p2 p3 => kk H1 locs1 ls (qH_set p1) p3 c)
theorem y_putF {idx a ci k : Nat} {fs : List Value} {v : Value} {ty : FieldType} {h' : List va_E} (C : qC X G cc nL own d) (hd : qd cc pc (.putfield idx) 3 pc') (hf : qfl own idx ci k ty true) (hnm : X.2.2.2.2.2.2.2.2.1.name = "<init>") (hcl : (vwCl[ci]?).map (·.1) = some own) (hl : h[a]? = some (.inr (ci, fs))) (hk : k < fs.length) (hn : narrow ty v = v) (hfit : fits ty v = true) (hh : h.set a (.inr (ci, fs.set k v)) = h') (kk : Y X G nL kc ks pc' lv st h') : Y X G nL kc ks pc lv (v :: qr G a :: st) h := by
  obtain ⟨hd, rfl⟩ := hd
  subst hh
  obtain ⟨D, T, N, ty0, f1, f2, f3, f4, f5, f6, f7, f8, f9⟩ := hf
  rw [f1] at hcl
  have hD : D = own := Option.some.inj hcl
  intro H locs ls e b c
  exact va_putF C.1 C.2.1 C.2.2.2.2.1 f3 ty0 f4 f5 C.2.2.2.1 C.2.2.2.2.2.2.2.1.1 e qw_D b _ (qw_at hl) f1 k f2 (C.2.2.2.2.1 _ f6) (fun _ h => h) f8 hnm (f9.trans hD) f7 hn hfit hk hd (fun H1 locs1 p1 p2 p3 => kk H1 locs1 ls (qH_set p1) p3 c)
theorem y_ild {a n : Nat} {f : Nat → Int32} {i : Int32} (C : qC X G cc nL own d) (hd : qd cc pc (.iaload) 1 pc') (hl : h[a]? = some (qI G n f)) (hin : vp_in i n) (kk : Y X G nL kc ks pc' lv (.int (f i.toNatClampNeg) :: st) h) : Y X G nL kc ks pc lv (.int i :: qr G a :: st) h := by
  obtain ⟨hd, rfl⟩ := hd
  exact fun H locs ls e b c => va_iald C.1 C.2.1 C.2.2.2.2.2.2.2.1.1 e _ 0 (qw_at hl) rfl hin hd (kk H locs ls e b c)
theorem y_zld {a n : Nat} {f : Nat → Int32} {i : Int32} (C : qC X G cc nL own d) (hd : qd cc pc (.baload) 1 pc') (hl : h[a]? = some (qZ G n f)) (hin : vp_in i n) (kk : Y X G nL kc ks pc' lv (.int (f i.toNatClampNeg) :: st) h) : Y X G nL kc ks pc lv (.int i :: qr G a :: st) h := by
  obtain ⟨hd, rfl⟩ := hd
  exact fun H locs ls e b c => va_zald C.1 C.2.1 C.2.2.2.2.2.2.2.1.1 e _ 1 (qw_at hl) rfl hin hd (kk H locs ls e b c)
theorem y_ist {a n : Nat} {f : Nat → Int32} {i x : Int32} {h' : List va_E} (C : qC X G cc nL own d) (hd : qd cc pc (.iastore) 1 pc') (hl : h[a]? = some (qI G n f)) (hin : vp_in i n) (hh : h.set a (qI G n (upd f i.toNatClampNeg x)) = h') (kk : Y X G nL kc ks pc' lv st h') : Y X G nL kc ks pc lv (.int x :: .int i :: qr G a :: st) h := by
  obtain ⟨hd, rfl⟩ := hd
  subst hh
  exact fun H locs ls e b c => va_iast C.1 C.2.1 C.2.2.2.2.2.2.2.1.1 e qw_D b _ 0 (qw_at hl) rfl hin hd (fun H1 locs1 p1 p2 p3 => kk H1 locs1 ls (qH_set p1) p3 c)
theorem y_zst {a n : Nat} {f : Nat → Int32} {i x : Int32} {h' : List va_E} (C : qC X G cc nL own d) (hd : qd cc pc (.bastore) 1 pc') (hl : h[a]? = some (qZ G n f)) (hin : vp_in i n) (hh : h.set a (qZ G n (upd f i.toNatClampNeg (vp_nar .boolean x))) = h') (kk : Y X G nL kc ks pc' lv st h') : Y X G nL kc ks pc lv (.int x :: .int i :: qr G a :: st) h := by
  obtain ⟨hd, rfl⟩ := hd
  subst hh
  exact fun H locs ls e b c => va_zast C.1 C.2.1 C.2.2.2.2.2.2.2.1.1 e qw_D b _ 1 (qw_at hl) rfl hin hd (fun H1 locs1 p1 p2 p3 => kk H1 locs1 ls (qH_set p1) p3 c)
theorem y_ald {a n t0 : Nat} {E : String} {cA : ClassId} {f : Nat → Option Nat} {i : Int32} {v : Value} (C : qC X G cc nL own d) (hd : qd cc pc (.aaload) 1 pc') (hl : h[a]? = some (.inl (cA, n, .inr (.inr (.inr (.inr f)))))) (ht : (qT G)[t0]? = some (cA, .object E)) (hin : vp_in i n) (hv : va_rf (f i.toNatClampNeg) = v) (kk : Y X G nL kc ks pc' lv (v :: st) h) : Y X G nL kc ks pc lv (.int i :: qr G a :: st) h := by
  obtain ⟨hd, rfl⟩ := hd
  subst hv
  exact fun H locs ls e b c => va_aldq C.1 C.2.1 C.2.2.2.2.2.2.2.1.1 e _ t0 (qw_at hl) ht hin hd (kk H locs ls e b c)
theorem y_ast {a n t0 v ci : Nat} {E : String} {T : u_T} {N : Nat} {cA : ClassId} {f : Nat → Option Nat} {i : Int32} {fs : List Value} {h' : List va_E} (C : qC X G cc nL own d) (hd : qd cc pc (.aastore) 1 pc') (hl : h[a]? = some (.inl (cA, n, .inr (.inr (.inr (.inr f)))))) (ht : (qT G)[t0]? = some (cA, .object E)) (hv : h[v]? = some (.inr (ci, fs))) (hc : vwCl[ci]? = some (E, T, N)) (hin : vp_in i n) (hh : h.set a (.inl (cA, n, .inr (.inr (.inr (.inr (va_up f i.toNatClampNeg (some (G.2 4 + v)))))))) = h') (kk : Y X G nL kc ks pc' lv st h') : Y X G nL kc ks pc lv (qr G v :: .int i :: qr G a :: st) h := by
  obtain ⟨hd, rfl⟩ := hd
  subst hh
  exact fun H locs ls e b c => va_astq C.1 C.2.1 C.2.2.2.2.2.2.2.1.1 e qw_D b _ t0 _ ci (qw_at hl) ht (qw_at hv) hc hin hd (fun H1 locs1 p1 p2 p3 => kk H1 locs1 ls (qH_set p1) p3 c)
theorem y_alen {a t0 : Nat} {cA : ClassId} {x : vp_A} {ty : FieldType} {v : Int32} (C : qC X G cc nL own d) (hd : qd cc pc (.arraylength) 1 pc') (hl : h[a]? = some (.inl (cA, x))) (ht : (qT G)[t0]? = some (cA, ty)) (hv : Int32.ofNat x.1 = v) (kk : Y X G nL kc ks pc' lv (.int v :: st) h) : Y X G nL kc ks pc lv (qr G a :: st) h := by
  obtain ⟨hd, rfl⟩ := hd
  exact fun H locs ls e b c => va_alen C.1 C.2.1 C.2.2.2.2.2.2.2.1.1 e _ t0 (qw_at hl) ht hv hd (kk H locs ls e b c)
theorem y_copy {idx a b n0 n1 : Nat} {f g : Nat → Int32} {sp dp n : Int32} {h' : List va_E} (C : qC X G cc nL own d) (hd : qd cc pc (.invokestatic idx) 3 pc') (hw : Cond.methodLink own idx arraycopyName ∈ lwg) (hl0 : h[a]? = some (qI G n0 f)) (hl1 : h[b]? = some (qI G n1 g)) (h1 : ¬ sp < 0) (h2 : ¬ dp < 0) (h3 : ¬ n < 0) (h4 : sp.toNatClampNeg + n.toNatClampNeg ≤ n0) (h5 : dp.toNatClampNeg + n.toNatClampNeg ≤ n1) (hdep : 1 ≤ d) (hst : (st.map fun v => v.category).sum ≤ 8) (hh : h.set b (qI G n1 (va_cpy f g sp.toNatClampNeg dp.toNatClampNeg n.toNatClampNeg)) = h') (kk : Y X G nL kc ks pc' lv st h') : Y X G nL kc ks pc lv (.int n :: .int dp :: qr G b :: .int sp :: qr G a :: st) h := by
  obtain ⟨hd, rfl⟩ := hd
  subst hh
  have hn : nativeFrameWords "java/lang/System" "arraycopy" 5 + 11 ≤ 32 := by decide +kernel
  exact fun H locs ls e b c => va_copyi C.1 C.2.1 (C.2.2.1.trans c.1.symm) C.2.2.2.1 (C.2.2.2.2.1 _ hw) (C.2.2.2.2.1 _ (by decide +kernel)) (C.2.2.2.2.1 _ (by decide +kernel)) (C.2.2.2.2.1 _ (by decide +kernel)) C.2.2.2.2.2.2.2.1.1 e qw_D b _ _ 0 0 (qw_at hl0) (qw_at hl1) rfl rfl rfl h1 h2 h3 h4 h5 (fun i _ => rfl) (Nat.le_trans hdep C.2.2.2.2.2.1) (Nat.le_trans (Nat.le_trans (Nat.add_le_add hst hn) (by omega)) C.2.2.2.2.2.2.1) hd (fun H1 locs1 p1 p2 p3 => kk H1 locs1 ls (qH_set p1) p3 c)
theorem y_tabS {idx : Nat} (C : qC X G cc nL own d) (hd : qd cc pc (.getstatic idx) 3 pc') (hw : Cond.fieldLink own idx "DreamGraves$Asker" "SIZE_BODIES" "[I" ∈ lwg) (kk : Y X G nL kc ks pc' lv (.ref (G.2 5) :: st) h) : Y X G nL kc ks pc lv st h := by
  obtain ⟨hd, rfl⟩ := hd
  exact fun H locs ls e b c => va_gets C.1 C.2.1 C.2.2.2.2.2.2.2.1.2.2.2.2.1 b C.2.2.2.1 (C.2.2.2.2.1 _ hw) (fun _ h => h) hd (kk H locs ls e b c)
theorem y_tabM {idx : Nat} (C : qC X G cc nL own d) (hd : qd cc pc (.getstatic idx) 3 pc') (hw : Cond.fieldLink own idx "DreamGraves$Asker" "MARK_BODIES" "[I" ∈ lwg) (kk : Y X G nL kc ks pc' lv (.ref (G.2 6) :: st) h) : Y X G nL kc ks pc lv st h := by
  obtain ⟨hd, rfl⟩ := hd
  exact fun H locs ls e b c => va_gets C.1 C.2.1 C.2.2.2.2.2.2.2.1.2.2.2.2.2.2.1 b C.2.2.2.1 (C.2.2.2.2.1 _ hw) (fun _ h => h) hd (kk H locs ls e b c)
theorem y_tldS {i : Int32} {v : Value} (C : qC X G cc nL own d) (hd : qd cc pc (.iaload) 1 pc') (hin : vp_in i 6) (hv : qtS i.toNatClampNeg = v) (kk : Y X G nL kc ks pc' lv (v :: st) h) : Y X G nL kc ks pc lv (.int i :: .ref (G.2 5) :: st) h := by
  obtain ⟨hd, rfl⟩ := hd
  exact fun H locs ls e b c => va_ti C.1 C.2.1 C.2.2.2.2.2.2.2.1.2.2.2.2.2.1 b hin hv hd (kk H locs ls e b c)
theorem y_tldM {i : Int32} {v : Value} (C : qC X G cc nL own d) (hd : qd cc pc (.iaload) 1 pc') (hin : vp_in i 6) (hv : qtM i.toNatClampNeg = v) (kk : Y X G nL kc ks pc' lv (v :: st) h) : Y X G nL kc ks pc lv (.int i :: .ref (G.2 6) :: st) h := by
  obtain ⟨hd, rfl⟩ := hd
  exact fun H locs ls e b c => va_ti C.1 C.2.1 C.2.2.2.2.2.2.2.1.2.2.2.2.2.2.2 b hin hv hd (kk H locs ls e b c)
theorem q_end {H : Heap} {locs : List Loc} {r : Option Value} {h' : List va_E} (C : qC X G cc nL own d) (e : qH G h H) (b : va_S (qA G) X.2.2.2.2.1.heap H locs) (hh : h = h') : ∀ t : State, t.heap = H → X.2.2.2.2.1.WarmedH t.vm → qQ G r h' X.2.2.2.2.2.2.1 X.2.2.2.2.1 (.returned r) t := by
  intro t ht hW
  subst hh
  refine ⟨rfl, ⟨by rw [ht]; exact e, ?_⟩, b.F ht⟩
  rw [ht]
  exact qF_moved hW (fun a h1 h2 => b.2.1 a h1 h2) C.2.2.2.2.2.2.2.1
theorem y_iret {r : Option Value} {h' : List va_E} {v : Int32} (C : qC X G cc nL own d) (E : qE X G (some .int) kc ks r h') (hd : qd cc pc (.ireturn) 1 pc') (hr : some (.int v) = r) (hh : h = h') : Y X G nL kc ks pc lv [.int v] h := by
  obtain ⟨E1, E2⟩ := E
  subst hr
  intro H locs ls e b c
  rw [E1]
  exact W.iret C.1 C.2.1 E2 (q_end C e b hh) b.2.2 hd.1 C.2.2.2.2.2.2.2.2.2
theorem y_zret {r : Option Value} {h' : List va_E} {v : Int32} (C : qC X G cc nL own d) (E : qE X G (some .boolean) kc ks r h') (hd : qd cc pc (.ireturn) 1 pc') (hn : narrow .boolean (.int v) = .int v) (hr : some (.int v) = r) (hh : h = h') : Y X G nL kc ks pc lv [.int v] h := by
  obtain ⟨E1, E2⟩ := E
  subst hr
  intro H locs ls e b c
  rw [E1]
  exact W.zret C.1 C.2.1 E2 hn (q_end C e b hh) b.2.2 hd.1 C.2.2.2.2.2.2.2.2.2
theorem y_lret {r : Option Value} {h' : List va_E} {v : Int64} (C : qC X G cc nL own d) (E : qE X G (some .long) kc ks r h') (hd : qd cc pc (.lreturn) 1 pc') (hr : some (.long v) = r) (hh : h = h') : Y X G nL kc ks pc lv [.long v] h := by
  obtain ⟨E1, E2⟩ := E
  subst hr
  intro H locs ls e b c
  rw [E1]
  exact W.lret C.1 C.2.1 E2 (q_end C e b hh) b.2.2 hd.1 C.2.2.2.2.2.2.2.2.2
theorem y_vret {h' : List va_E} (C : qC X G cc nL own d) (E : qE X G none kc ks none h') (hd : qd cc pc (.return_) 1 pc') (hh : h = h') : Y X G nL kc ks pc lv [] h := by
  obtain ⟨E1, E2⟩ := E
  intro H locs ls e b c
  rw [E1]
  exact W.vret C.1 C.2.1 E2 (q_end C e b hh) b.2.2 hd.1 C.2.2.2.2.2.2.2.2.2
theorem y_aret {r : Option Value} {h' : List va_E} {v : Nat} {cn : String} (C : qC X G cc nL own d) (E : qE X G (some (.object cn)) kc ks r h') (hd : qd cc pc (.areturn) 1 pc') (hr : some (.ref v) = r) (hh : h = h') : Y X G nL kc ks pc lv [.ref v] h := by
  obtain ⟨E1, E2⟩ := E
  subst hr
  intro H locs ls e b c
  rw [E1]
  exact W.aret C.1 C.2.1 E2 (Or.inl ⟨cn, rfl⟩) (Or.inr ⟨v, rfl⟩) (q_end C e b hh) b.2.2 hd.1 C.2.2.2.2.2.2.2.2.2

end
end
section
section
variable {l : Launch} {G : qG} {y : MethodName} {d mc ms : Nat} {av : List Value} {h : List va_E} {r : Option Value} {h' : List va_E}
theorem ctm_intro {bytes : ByteArray} {maxL : Nat} {ret : Option FieldType} (hcode : Cond.code y bytes maxL ret ∈ lwg) (hm : maxL ≤ 20) (hy : plainName y.cls = true) (lv0 : List (Option Value)) (hlv : qlv 0 lv0 = lv_args 0 av) (hlen : (lg_sl av).length ≤ maxL)
    (body : ∀ X : qX, X.2.1 = l → X.2.2.2.1.cells = mc → X.2.2.2.1.slots = ms → X.2.2.2.2.2.2.2.2.1.name = y.name → (mc ≠ 0 → X.2.2.2.2.1.heap.size = G.2 4 + h.length) → qC X G bytes maxL y.cls d → qE X G ret mc ms r h' → Y X G maxL 0 0 0 lv0 [] h) : Ctm l G y d mc ms av h r h' := by
  refine ⟨bytes, maxL, ret, hcode, hm, ?_⟩
  refine Met.ofW (cc := bytes) (maxL := maxL) (ret := ret) hy rfl ?_
  intro p e s m args below meth c s₁ B hml hv
  obtain ⟨rfl, ⟨hP, hF⟩, hb4, hsz⟩ := hv
  have hts := atoms_spec (ws := Cond.code y bytes maxL ret :: lwg) B.pre
  have hl := lv_entry av (n := maxL) hlen
  rw [lg_entry_eq]
  refine body (p, l, e, _, s, m, av.toArray, below, meth, c, _) rfl rfl rfl (name_of_methodNamed B.named B.method).1 hsz ?_ ⟨rfl, B.returns⟩ s.heap [] _ hP va_S.rf ?_
  · exact ⟨B.exec, B.bytes, hml, findClass_of_methodNamed B.named, fun w hw => hts w (List.mem_cons_of_mem _ hw), Nat.le_refl _, Nat.le_refl _, hF, hb4, B.notSynchronized⟩
  · show lv_has _ _ (qlv 0 lv0)
    rw [hlv]
    exact hl
/-- behind a call -/
theorem y_run {X : qX} {nL kc ks pc : Nat} {lv : List (Option Value)} {sk rest : List Value} {arr : Array Value} {H : Heap} {locs : List Loc} {ls : Array Slot} (b : va_S (qA G) X.2.2.2.2.1.heap H locs) (c : qh ls nL lv)
    (hr : va_Run X.1 X.2.1 X.2.2.1 X.2.2.2.1 X.2.2.2.2.1 X.2.2.2.2.2.1 X.2.2.2.2.2.2.1 X.2.2.2.2.2.2.2.1 X.2.2.2.2.2.2.2.2.1 X.2.2.2.2.2.2.2.2.2.1 H locs kc ks mc ms (F0 X.2.2.2.2.2.1 pc ls sk) rest (qQ G r h' arr) (qA G))
    (k : Y X G nL (kc + mc) (ks + ms) (pc + 3) lv (r.toList ++ rest) h') :
    W X.1 X.2.1 X.2.2.1 X.2.2.2.1 X.2.2.2.2.1 X.2.2.2.2.2.1 X.2.2.2.2.2.2.1 X.2.2.2.2.2.2.2.1 X.2.2.2.2.2.2.2.2.1 X.2.2.2.2.2.2.2.2.2.1 H locs kc ks X.2.2.2.2.2.2.2.2.2.2 (F0 X.2.2.2.2.2.1 pc ls sk) := by
  intro T hT Z
  obtain ⟨v, st₀, t, T', L, h0, X', hL, e1, e2, ⟨hv, hw, hz, hk⟩, st⟩ := hr T hT Z
  have hv : v = r := by
    have := hv
    simp only [Outcome.returned.injEq] at this
    exact this
  subst hv
  rw [h0] at hz hk
  obtain ⟨t2, a1, b1⟩ := k T'.heap (locs ++ L) ls (by rw [e1]; exact hw.1)
    ⟨Nat.le_trans b.1 (by rw [e1]; exact hz), fun q h1 h2 => by rw [e1, hk q (Nat.lt_of_lt_of_le h1 b.1) h2]; exact b.2.1 q h1 h2, fun q hq => by
      rcases List.mem_append.mp hq with h | h
      · exact b.2.2 q h
      · exact hL q h⟩ c T' rfl X'
  exact ⟨t2, st t2 a1, b1⟩
theorem qP_blind : FrameBlind (qP G mc av h) := by
  intro a U g mk q
  obtain ⟨q0, ⟨q1, q2⟩, q3, q4⟩ := q
  exact ⟨q0, ⟨q1, qF_blind q2⟩, q3, q4⟩
theorem qP_pre {X : qX} {cc : ByteArray} {nL : Nat} {own : String} {d : Nat} {H : Heap} {locs : List Loc} (C : qC X G cc nL own d) (e : qH G h H) (b : va_S (qA G) X.2.2.2.2.1.heap H locs) (hs : mc ≠ 0 → H.size = G.2 4 + h.length) : ∀ U : State, U.heap = H → X.2.2.2.2.1.WarmedH U.vm → qP G mc av h av.toArray U := by
  intro U hU hW
  refine ⟨rfl, ⟨by rw [hU]; exact e, ?_⟩, ?_, ?_⟩
  · rw [hU]
    exact qF_moved hW (fun a h1 h2 => b.2.1 a h1 h2) C.2.2.2.2.2.2.2.1
  · rw [hU]
    exact Nat.le_trans C.2.2.2.2.2.2.2.2.1 b.1
  · rw [hU]
    exact hs
theorem q_goodc {bytes : ByteArray} {maxL : Nat} {ret : Option FieldType} (hc : Cond.code y bytes maxL ret ∈ lwg) : GoodIn lwg (Cond.code y bytes maxL ret :: lwg) := fun w hw => (List.mem_cons.mp hw).elim (fun e => by rw [e]; exact lwg_good _ hc) (fun h => lwg_good _ h)
end
section
variable {X : qX} {G : qG} {cc : ByteArray} {nL kc ks pc pc' d d' : Nat} {own : String} {lv : List (Option Value)} {st sk : List Value} {h h' : List va_E} {y : MethodName} {r : Option Value} {As : List Value}
abbrev qyn (y : MethodName) (n : Nat) : Prop := y.cls ≠ "java/lang/invoke/MethodHandle" ∧ y.cls ≠ "java/lang/invoke/VarHandle" ∧ (parseMethodDescriptor y.desc).map (fun d => d.parameters.length) = some n
/-- a virtual call: entry idx of own's pool is y, of the class ci, with n arguments -/
def qcV (own : String) (idx : Nat) (y : MethodName) (ci n : Nat) : Prop := Cond.methodLink own idx y ∈ lwg ∧ Cond.instanceMethod y ∈ lwg ∧ Cond.selects y.cls y y ∈ lwg ∧ Cond.initialized y.cls ∈ lwg ∧ (∃ (T : u_T) (N : Nat), vwCl[ci]? = some (y.cls, T, N)) ∧ qyn y n
def qcS (own : String) (idx : Nat) (y : MethodName) (n : Nat) : Prop := Cond.methodLink own idx y ∈ lwg ∧ Cond.static y ∈ lwg ∧ Cond.initialized y.cls ∈ lwg ∧ qyn y n
def qcSN (own : String) (idx : Nat) (y : MethodName) (n : Nat) : Prop := (∃ host, Cond.methodLinkNest own idx y host ∈ qNl) ∧ Cond.static y ∈ lwg ∧ Cond.initialized y.cls ∈ lwg ∧ qyn y n
def qcI (own : String) (idx : Nat) (y : MethodName) (n : Nat) : Prop := Cond.methodLink own idx y ∈ lwg ∧ Cond.instanceMethod y ∈ lwg ∧ Cond.initialized y.cls ∈ lwg ∧ y.name = "<init>" ∧ qyn y n
def qcIN (own : String) (idx : Nat) (y : MethodName) (n : Nat) : Prop := (∃ host, Cond.methodLinkNest own idx y host ∈ qNl) ∧ Cond.instanceMethod y ∈ lwg ∧ Cond.initialized y.cls ∈ lwg ∧ y.name = "<init>" ∧ qyn y n
theorem q_rm {d d' maxL : Nat} {R : Room} (h1 : d ≤ R.frames) (h2 : 40 * d ≤ R.locals) (hm : maxL ≤ 20) (hd : d' + 1 ≤ d) (mc ms : Nat) : (qm d' mc ms).frames + 1 ≤ R.frames ∧ 8 + (maxL + 11) + (qm d' mc ms).locals ≤ R.locals := by
  constructor
  · show d' + 1 ≤ _
    omega
  · show 8 + (maxL + 11) + 40 * d' ≤ _
    omega
theorem y_callV {idx ci n a : Nat} {fs : List Value} (C : qC X G cc nL own d) (hd : qd cc pc (.invokevirtual idx) 3 pc') (hk : qcV own idx y ci n) (hM : Ct X.2.1 G y d' (qr G a :: As) h r h') (hl : h[a]? = some (.inr (ci, fs))) (hs : sk = As.reverse ++ qr G a :: st) (hn : As.length = n) (hdd : d' + 1 ≤ d) (hst : (st.map fun v => v.category).sum ≤ 8) (hkc : kc ≤ X.2.2.2.1.cells ∧ ks ≤ X.2.2.2.1.slots) (k : Y X G nL kc ks pc' lv (r.toList ++ st) h') : Y X G nL kc ks pc lv sk h := by
  obtain ⟨hd, rfl⟩ := hd
  subst hs
  obtain ⟨k1, k2, k3, k4, ⟨T, N, k5⟩, k6⟩ := hk
  obtain ⟨bytes, maxL, ret, m1, m2, hM⟩ := hM
  have hts := C.2.2.2.2.1
  intro H locs ls e b c
  refine y_run (mc := 0) (ms := 0) (arr := (qr G a :: As).toArray) b c ?_ k
  exact va_runV (Ts := lwg) ⟨C.1, C.2.1, C.2.2.1, C.2.2.2.1, hts⟩ hM ⟨callB_of n hts (q_goodc m1) rfl rfl rfl (hts _ k4) (hts _ k1) k6 (q_rm C.2.2.2.2.2.1 C.2.2.2.2.2.2.1 m2 hdd 0 0), hts _ k2, hts _ k3⟩ ⟨qP_blind, va_recv C.2.2.2.2.2.2.2.1.1 e k5 (qw_at hl), qP_pre C e b (fun h => absurd rfl h)⟩ rfl hn c.1 rfl (lv_room hst) hd hkc
theorem y_callS {idx n : Nat} (C : qC X G cc nL own d) (hd : qd cc pc (.invokestatic idx) 3 pc') (hk : qcS own idx y n) (hM : Ct X.2.1 G y d' As h r h') (hs : sk = As.reverse ++ st) (hn : As.length = n) (hdd : d' + 1 ≤ d) (hst : (st.map fun v => v.category).sum ≤ 8) (hkc : kc ≤ X.2.2.2.1.cells ∧ ks ≤ X.2.2.2.1.slots) (k : Y X G nL kc ks pc' lv (r.toList ++ st) h') : Y X G nL kc ks pc lv sk h := by
  obtain ⟨hd, rfl⟩ := hd
  subst hs
  obtain ⟨k1, k2, k4, k6⟩ := hk
  obtain ⟨bytes, maxL, ret, m1, m2, hM⟩ := hM
  have hts := C.2.2.2.2.1
  intro H locs ls e b c
  refine y_run (mc := 0) (ms := 0) (arr := As.toArray) b c ?_ k
  exact va_runS (Ts := lwg) ⟨C.1, C.2.1, C.2.2.1, C.2.2.2.1, hts⟩ hM ⟨callB_of n hts (q_goodc m1) rfl rfl rfl (hts _ k4) (hts _ k1) k6 (q_rm C.2.2.2.2.2.1 C.2.2.2.2.2.2.1 m2 hdd 0 0), hts _ k2⟩ ⟨qP_blind, qP_pre C e b (fun h => absurd rfl h)⟩ rfl hn c.1 rfl (lv_room hst) hd hkc
theorem y_callSN {idx n : Nat} (C : qC X G cc nL own d) (hd : qd cc pc (.invokestatic idx) 3 pc') (hk : qcSN own idx y n) (hM : Ct X.2.1 G y d' As h r h') (hs : sk = As.reverse ++ st) (hn : As.length = n) (hdd : d' + 1 ≤ d) (hst : (st.map fun v => v.category).sum ≤ 8) (hkc : kc ≤ X.2.2.2.1.cells ∧ ks ≤ X.2.2.2.1.slots) (k : Y X G nL kc ks pc' lv (r.toList ++ st) h') : Y X G nL kc ks pc lv sk h := by
  obtain ⟨hd, rfl⟩ := hd
  subst hs
  obtain ⟨⟨host, k1⟩, k2, k4, k6⟩ := hk
  obtain ⟨bytes, maxL, ret, m1, m2, hM⟩ := hM
  have hts := C.2.2.2.2.1
  intro H locs ls e b c
  refine y_run (mc := 0) (ms := 0) (arr := As.toArray) b c ?_ k
  exact va_runSN (Ts := lwg) ⟨C.1, C.2.1, C.2.2.1, C.2.2.2.1, hts⟩ hM ⟨va_cnB n hts (q_goodc m1) rfl rfl rfl (C.2.2.2.2.2.2.2.1.2.1 _ k1) (hts _ k4) k6 (q_rm C.2.2.2.2.2.1 C.2.2.2.2.2.2.1 m2 hdd 0 0), hts _ k2, trivial⟩ ⟨qP_blind, qP_pre C e b (fun h => absurd rfl h)⟩ rfl hn c.1 rfl (lv_room hst) hd hkc
/-- the heap's size, by the count of the cells -/
theorem y_size {H : Heap} {locs : List Loc} {g : JFrame} (hz : X.2.2.2.2.1.heap.size + kc = G.2 4 + h.length) (hne : h ≠ []) (k : qH G h H → H.size = G.2 4 + h.length → W X.1 X.2.1 X.2.2.1 X.2.2.2.1 X.2.2.2.2.1 X.2.2.2.2.2.1 X.2.2.2.2.2.2.1 X.2.2.2.2.2.2.2.1 X.2.2.2.2.2.2.2.2.1 X.2.2.2.2.2.2.2.2.2.1 H locs kc ks X.2.2.2.2.2.2.2.2.2.2 g) (e : qH G h H) : W X.1 X.2.1 X.2.2.1 X.2.2.2.1 X.2.2.2.2.1 X.2.2.2.2.2.1 X.2.2.2.2.2.2.1 X.2.2.2.2.2.2.2.1 X.2.2.2.2.2.2.2.2.1 X.2.2.2.2.2.2.2.2.2.1 H locs kc ks X.2.2.2.2.2.2.2.2.2.2 g := by
  intro T hT Z
  have h1 := Z.heapSize
  rw [hT] at h1
  have h2 := (qH_le e).resolve_left hne
  exact k e (by omega) T hT Z
end
end
section
theorem tb0 {w : Cond} (h : w ∈ k2_sels lw_privs) : w ∈ lw_tbl := List.mem_append_left _ h
theorem tb9 {w : Cond} (h : w ∈ tables_1) : w ∈ lw_tbl := List.mem_append_right _ h
theorem tc1 {w : Cond} (h : w ∈ tables_1_1) : w ∈ tables_1 := List.mem_append_left _ h
theorem tc2 {w : Cond} (h : w ∈ tables_1_2) : w ∈ tables_1 := List.mem_append_right _ (List.mem_append_left _ h)
theorem tc3 {w : Cond} (h : w ∈ tables_1_3) : w ∈ tables_1 := List.mem_append_right _ (List.mem_append_right _ (List.mem_append_left _ h))
theorem tc4 {w : Cond} (h : w ∈ tables_1_4) : w ∈ tables_1 := List.mem_append_right _ (List.mem_append_right _ (List.mem_append_right _ (List.mem_append_left _ h)))
theorem tc5 {w : Cond} (h : w ∈ tables_1_5) : w ∈ tables_1 := List.mem_append_right _ (List.mem_append_right _ (List.mem_append_right _ (List.mem_append_right _ h)))
theorem tb1 {w : Cond} (h : w ∈ tables_1_1) : w ∈ lw_tbl := tb9 (tc1 h)
theorem tb2 {w : Cond} (h : w ∈ tables_1_2) : w ∈ lw_tbl := tb9 (tc2 h)
theorem tb3 {w : Cond} (h : w ∈ tables_1_3) : w ∈ lw_tbl := tb9 (tc3 h)
theorem tb4 {w : Cond} (h : w ∈ tables_1_4) : w ∈ lw_tbl := tb9 (tc4 h)
theorem tb5 {w : Cond} (h : w ∈ tables_1_5) : w ∈ lw_tbl := tb9 (tc5 h)
theorem iw_X0 : ∀ w ∈ u_ws RX0 TX0 2, w ∈ lwg := by
  show ∀ w ∈ ([u_lay RX0 TX0 0, u_lay RX0 TX0 1] : List Cond), w ∈ lwg
  exact (List.forall_mem_cons.mpr ⟨(lwg_of (tb1 (List.mem_of_getElem? (i := 172) rfl)) rfl), (List.forall_mem_cons.mpr ⟨(lwg_of (tb1 (List.mem_of_getElem? (i := 174) rfl)) rfl), (fun _ h => absurd h List.not_mem_nil) ⟩)⟩)
theorem iw_X1 : ∀ w ∈ u_ws RX1 TX1 3, w ∈ lwg := by
  show ∀ w ∈ ([u_lay RX1 TX1 0, u_lay RX1 TX1 1, u_lay RX1 TX1 2] : List Cond), w ∈ lwg
  exact (List.forall_mem_cons.mpr ⟨(lwg_of (tb1 (List.mem_of_getElem? (i := 132) rfl)) rfl), (List.forall_mem_cons.mpr ⟨(lwg_of (tb1 (List.mem_of_getElem? (i := 134) rfl)) rfl), (List.forall_mem_cons.mpr ⟨(lwg_of (tb1 (List.mem_of_getElem? (i := 136) rfl)) rfl), (fun _ h => absurd h List.not_mem_nil) ⟩)⟩) ⟩)
theorem iw_X2 : ∀ w ∈ u_ws RX2 TX2 3, w ∈ lwg := by
  show ∀ w ∈ ([u_lay RX2 TX2 0, u_lay RX2 TX2 1, u_lay RX2 TX2 2] : List Cond), w ∈ lwg
  exact (List.forall_mem_cons.mpr ⟨(lwg_of (tb1 (List.mem_of_getElem? (i := 189) rfl)) rfl), (List.forall_mem_cons.mpr ⟨(lwg_of (tb1 (List.mem_of_getElem? (i := 191) rfl)) rfl), (List.forall_mem_cons.mpr ⟨(lwg_of (tb1 (List.mem_of_getElem? (i := 193) rfl)) rfl), (fun _ h => absurd h List.not_mem_nil) ⟩)⟩) ⟩)
theorem iw_X3 : ∀ w ∈ u_ws RX3 TX3 4, w ∈ lwg := by
  show ∀ w ∈ ([u_lay RX3 TX3 0, u_lay RX3 TX3 1, u_lay RX3 TX3 2, u_lay RX3 TX3 3] : List Cond), w ∈ lwg
  exact (List.forall_mem_cons.mpr ⟨(lwg_of (tb1 (List.mem_of_getElem? (i := 153) rfl)) rfl), (List.forall_mem_cons.mpr ⟨(lwg_of (tb1 (List.mem_of_getElem? (i := 155) rfl)) rfl), (List.forall_mem_cons.mpr ⟨(lwg_of (tb1 (List.mem_of_getElem? (i := 157) rfl)) rfl), (List.forall_mem_cons.mpr ⟨(lwg_of (tb1 (List.mem_of_getElem? (i := 159) rfl)) rfl), (fun _ h => absurd h List.not_mem_nil) ⟩)⟩) ⟩)⟩)
theorem iw_X4 : ∀ w ∈ u_ws RX4 TX4 9, w ∈ lwg := by
  show ∀ w ∈ ([u_lay RX4 TX4 0, u_lay RX4 TX4 1, u_lay RX4 TX4 2, u_lay RX4 TX4 3, u_lay RX4 TX4 4, u_lay RX4 TX4 5, u_lay RX4 TX4 6, u_lay RX4 TX4 7, u_lay RX4 TX4 8] : List Cond), w ∈ lwg
  exact (List.forall_mem_cons.mpr ⟨(lwg_of (tb1 (List.mem_of_getElem? (i := 98) rfl)) rfl), (List.forall_mem_cons.mpr ⟨(lwg_of (tb1 (List.mem_of_getElem? (i := 100) rfl)) rfl), (List.forall_mem_cons.mpr ⟨(lwg_of (tb1 (List.mem_of_getElem? (i := 102) rfl)) rfl), (List.forall_mem_cons.mpr ⟨(lwg_of (tb1 (List.mem_of_getElem? (i := 104) rfl)) rfl), (List.forall_mem_cons.mpr ⟨(lwg_of (tb1 (List.mem_of_getElem? (i := 106) rfl)) rfl), (List.forall_mem_cons.mpr ⟨(lwg_of (tb1 (List.mem_of_getElem? (i := 108) rfl)) rfl), (List.forall_mem_cons.mpr ⟨(lwg_of (tb1 (List.mem_of_getElem? (i := 110) rfl)) rfl), (List.forall_mem_cons.mpr ⟨(lwg_of (tb1 (List.mem_of_getElem? (i := 112) rfl)) rfl), (List.forall_mem_cons.mpr ⟨(lwg_of (tb1 (List.mem_of_getElem? (i := 114) rfl)) rfl), (fun _ h => absurd h List.not_mem_nil) ⟩)⟩) ⟩)⟩) ⟩)⟩) ⟩)⟩) ⟩)
theorem iw_X5 : ∀ w ∈ u_ws RX5 TX5 10, w ∈ lwg := by
  show ∀ w ∈ ([u_lay RX5 TX5 0, u_lay RX5 TX5 1, u_lay RX5 TX5 2, u_lay RX5 TX5 3, u_lay RX5 TX5 4, u_lay RX5 TX5 5, u_lay RX5 TX5 6, u_lay RX5 TX5 7, u_lay RX5 TX5 8, u_lay RX5 TX5 9] : List Cond), w ∈ lwg
  exact (List.forall_mem_cons.mpr ⟨(lwg_of (tb1 (List.mem_of_getElem? (i := 64) rfl)) rfl), (List.forall_mem_cons.mpr ⟨(lwg_of (tb1 (List.mem_of_getElem? (i := 66) rfl)) rfl), (List.forall_mem_cons.mpr ⟨(lwg_of (tb1 (List.mem_of_getElem? (i := 68) rfl)) rfl), (List.forall_mem_cons.mpr ⟨(lwg_of (tb1 (List.mem_of_getElem? (i := 70) rfl)) rfl), (List.forall_mem_cons.mpr ⟨(lwg_of (tb1 (List.mem_of_getElem? (i := 72) rfl)) rfl), (List.forall_mem_cons.mpr ⟨(lwg_of (tb1 (List.mem_of_getElem? (i := 74) rfl)) rfl), (List.forall_mem_cons.mpr ⟨(lwg_of (tb1 (List.mem_of_getElem? (i := 76) rfl)) rfl), (List.forall_mem_cons.mpr ⟨(lwg_of (tb1 (List.mem_of_getElem? (i := 78) rfl)) rfl), (List.forall_mem_cons.mpr ⟨(lwg_of (tb1 (List.mem_of_getElem? (i := 80) rfl)) rfl), (List.forall_mem_cons.mpr ⟨(lwg_of (tb1 (List.mem_of_getElem? (i := 82) rfl)) rfl), (fun _ h => absurd h List.not_mem_nil) ⟩)⟩) ⟩)⟩) ⟩)⟩) ⟩)⟩) ⟩)⟩)
theorem iw_X6 : ∀ w ∈ u_ws RX6 TX6 8, w ∈ lwg := by
  show ∀ w ∈ ([u_lay RX6 TX6 0, u_lay RX6 TX6 1, u_lay RX6 TX6 2, u_lay RX6 TX6 3, u_lay RX6 TX6 4, u_lay RX6 TX6 5, u_lay RX6 TX6 6, u_lay RX6 TX6 7] : List Cond), w ∈ lwg
  exact (List.forall_mem_cons.mpr ⟨(lwg_of (tb1 (List.mem_of_getElem? (i := 204) rfl)) rfl), (List.forall_mem_cons.mpr ⟨(lwg_of (tb1 (List.mem_of_getElem? (i := 206) rfl)) rfl), (List.forall_mem_cons.mpr ⟨(lwg_of (tb1 (List.mem_of_getElem? (i := 208) rfl)) rfl), (List.forall_mem_cons.mpr ⟨(lwg_of (tb1 (List.mem_of_getElem? (i := 210) rfl)) rfl), (List.forall_mem_cons.mpr ⟨(lwg_of (tb1 (List.mem_of_getElem? (i := 212) rfl)) rfl), (List.forall_mem_cons.mpr ⟨(lwg_of (tb1 (List.mem_of_getElem? (i := 214) rfl)) rfl), (List.forall_mem_cons.mpr ⟨(lwg_of (tb1 (List.mem_of_getElem? (i := 216) rfl)) rfl), (List.forall_mem_cons.mpr ⟨(lwg_of (tb1 (List.mem_of_getElem? (i := 218) rfl)) rfl), (fun _ h => absurd h List.not_mem_nil) ⟩)⟩) ⟩)⟩) ⟩)⟩) ⟩)⟩)
theorem iw_X7 : ∀ w ∈ u_ws RX7 TX7 25, w ∈ lwg := by
  show ∀ w ∈ ([u_lay RX7 TX7 0, u_lay RX7 TX7 1, u_lay RX7 TX7 2, u_lay RX7 TX7 3, u_lay RX7 TX7 4, u_lay RX7 TX7 5, u_lay RX7 TX7 6, u_lay RX7 TX7 7, u_lay RX7 TX7 8, u_lay RX7 TX7 9, u_lay RX7 TX7 10, u_lay RX7 TX7 11, u_lay RX7 TX7 12, u_lay RX7 TX7 13, u_lay RX7 TX7 14, u_lay RX7 TX7 15, u_lay RX7 TX7 16, u_lay RX7 TX7 17, u_lay RX7 TX7 18, u_lay RX7 TX7 19, u_lay RX7 TX7 20, u_lay RX7 TX7 21, u_lay RX7 TX7 22, u_lay RX7 TX7 23, u_lay RX7 TX7 24] : List Cond), w ∈ lwg
  exact (List.forall_mem_cons.mpr ⟨(lwg_of (tb4 (List.mem_of_getElem? (i := 18) rfl)) rfl), (List.forall_mem_cons.mpr ⟨(lwg_of (tb4 (List.mem_of_getElem? (i := 20) rfl)) rfl), (List.forall_mem_cons.mpr ⟨(lwg_of (tb4 (List.mem_of_getElem? (i := 22) rfl)) rfl), (List.forall_mem_cons.mpr ⟨(lwg_of (tb4 (List.mem_of_getElem? (i := 24) rfl)) rfl), (List.forall_mem_cons.mpr ⟨(lwg_of (tb4 (List.mem_of_getElem? (i := 26) rfl)) rfl), (List.forall_mem_cons.mpr ⟨(lwg_of (tb4 (List.mem_of_getElem? (i := 28) rfl)) rfl), (List.forall_mem_cons.mpr ⟨(lwg_of (tb4 (List.mem_of_getElem? (i := 30) rfl)) rfl), (List.forall_mem_cons.mpr ⟨(lwg_of (tb4 (List.mem_of_getElem? (i := 32) rfl)) rfl), (List.forall_mem_cons.mpr ⟨(lwg_of (tb4 (List.mem_of_getElem? (i := 34) rfl)) rfl), (List.forall_mem_cons.mpr ⟨(lwg_of (tb4 (List.mem_of_getElem? (i := 36) rfl)) rfl), (List.forall_mem_cons.mpr ⟨(lwg_of (tb4 (List.mem_of_getElem? (i := 38) rfl)) rfl), (List.forall_mem_cons.mpr ⟨(lwg_of (tb4 (List.mem_of_getElem? (i := 40) rfl)) rfl), (List.forall_mem_cons.mpr ⟨(lwg_of (tb4 (List.mem_of_getElem? (i := 42) rfl)) rfl), (List.forall_mem_cons.mpr ⟨(lwg_of (tb4 (List.mem_of_getElem? (i := 44) rfl)) rfl), (List.forall_mem_cons.mpr ⟨(lwg_of (tb4 (List.mem_of_getElem? (i := 46) rfl)) rfl), (List.forall_mem_cons.mpr ⟨(lwg_of (tb4 (List.mem_of_getElem? (i := 48) rfl)) rfl), (List.forall_mem_cons.mpr ⟨(lwg_of (tb4 (List.mem_of_getElem? (i := 50) rfl)) rfl), (List.forall_mem_cons.mpr ⟨(lwg_of (tb4 (List.mem_of_getElem? (i := 52) rfl)) rfl), (List.forall_mem_cons.mpr ⟨(lwg_of (tb4 (List.mem_of_getElem? (i := 54) rfl)) rfl), (List.forall_mem_cons.mpr ⟨(lwg_of (tb4 (List.mem_of_getElem? (i := 56) rfl)) rfl), (List.forall_mem_cons.mpr ⟨(lwg_of (tb4 (List.mem_of_getElem? (i := 58) rfl)) rfl), (List.forall_mem_cons.mpr ⟨(lwg_of (tb4 (List.mem_of_getElem? (i := 60) rfl)) rfl), (List.forall_mem_cons.mpr ⟨(lwg_of (tb4 (List.mem_of_getElem? (i := 62) rfl)) rfl), (List.forall_mem_cons.mpr ⟨(lwg_of (tb4 (List.mem_of_getElem? (i := 64) rfl)) rfl), (List.forall_mem_cons.mpr ⟨(lwg_of (tb4 (List.mem_of_getElem? (i := 66) rfl)) rfl), (fun _ h => absurd h List.not_mem_nil) ⟩)⟩) ⟩)⟩) ⟩)⟩) ⟩)⟩) ⟩)⟩) ⟩)⟩) ⟩)⟩) ⟩)⟩) ⟩)⟩) ⟩)⟩) ⟩)⟩) ⟩)⟩) ⟩)
theorem lk_L_9 : qcI RL 9 yX6_init 0 := ⟨(lwg_of (tb1 (List.mem_of_getElem? (i := 14) rfl)) rfl), (lwg_of (tb1 (List.mem_of_getElem? (i := 15) rfl)) rfl), (lwg_of (tb1 (List.mem_of_getElem? (i := 1) rfl)) rfl), rfl, ⟨by decide, by decide, rfl⟩⟩
theorem lk_L_12 : qcI RL 12 yX7_init 0 := ⟨(lwg_of (tb3 (List.mem_of_getElem? (i := 229) rfl)) rfl), (lwg_of (tb3 (List.mem_of_getElem? (i := 230) rfl)) rfl), (lwg_of (tb1 (List.mem_of_getElem? (i := 8) rfl)) rfl), rfl, ⟨by decide, by decide, rfl⟩⟩
theorem lk_L_13 : qcV RL 13 yX6_row 6 3 := ⟨(lwg_of (tb1 (List.mem_of_getElem? (i := 221) rfl)) rfl), (lwg_of (tb1 (List.mem_of_getElem? (i := 222) rfl)) rfl), (lwg_of (tb1 (List.mem_of_getElem? (i := 223) rfl)) rfl), (lwg_of (tb1 (List.mem_of_getElem? (i := 1) rfl)) rfl), ⟨_, _, rfl⟩, ⟨by decide, by decide, rfl⟩⟩
theorem lk_L_17 : qcV RL 17 yX7_row 7 3 := ⟨(lwg_of (tb4 (List.mem_of_getElem? (i := 70) rfl)) rfl), (lwg_of (tb4 (List.mem_of_getElem? (i := 71) rfl)) rfl), (lwg_of (tb4 (List.mem_of_getElem? (i := 72) rfl)) rfl), (lwg_of (tb1 (List.mem_of_getElem? (i := 8) rfl)) rfl), ⟨_, _, rfl⟩, ⟨by decide, by decide, rfl⟩⟩
theorem lk_L_18 : qcV RL 18 yX6_set 6 3 := ⟨(lwg_of (tb2 (List.mem_of_getElem? (i := 5) rfl)) rfl), (lwg_of (tb2 (List.mem_of_getElem? (i := 6) rfl)) rfl), (lwg_of (tb2 (List.mem_of_getElem? (i := 7) rfl)) rfl), (lwg_of (tb1 (List.mem_of_getElem? (i := 1) rfl)) rfl), ⟨_, _, rfl⟩, ⟨by decide, by decide, rfl⟩⟩
theorem lk_L_21 : qcV RL 21 yX7_set 7 3 := ⟨(lwg_of (tb4 (List.mem_of_getElem? (i := 92) rfl)) rfl), (lwg_of (tb4 (List.mem_of_getElem? (i := 93) rfl)) rfl), (lwg_of (tb4 (List.mem_of_getElem? (i := 94) rfl)) rfl), (lwg_of (tb1 (List.mem_of_getElem? (i := 8) rfl)) rfl), ⟨_, _, rfl⟩, ⟨by decide, by decide, rfl⟩⟩
theorem lk_L_22 : qcV RL 22 yX6_copy 6 5 := ⟨(lwg_of (tb2 (List.mem_of_getElem? (i := 25) rfl)) rfl), (lwg_of (tb2 (List.mem_of_getElem? (i := 26) rfl)) rfl), (lwg_of (tb2 (List.mem_of_getElem? (i := 27) rfl)) rfl), (lwg_of (tb1 (List.mem_of_getElem? (i := 1) rfl)) rfl), ⟨_, _, rfl⟩, ⟨by decide, by decide, rfl⟩⟩
theorem lk_L_26 : qcV RL 26 yX7_copy 7 5 := ⟨(lwg_of (tb4 (List.mem_of_getElem? (i := 99) rfl)) rfl), (lwg_of (tb4 (List.mem_of_getElem? (i := 100) rfl)) rfl), (lwg_of (tb4 (List.mem_of_getElem? (i := 101) rfl)) rfl), (lwg_of (tb1 (List.mem_of_getElem? (i := 8) rfl)) rfl), ⟨_, _, rfl⟩, ⟨by decide, by decide, rfl⟩⟩
theorem lk_L_27 : qcV RL 27 yX6_drop 6 1 := ⟨(lwg_of (tb2 (List.mem_of_getElem? (i := 34) rfl)) rfl), (lwg_of (tb2 (List.mem_of_getElem? (i := 35) rfl)) rfl), (lwg_of (tb2 (List.mem_of_getElem? (i := 36) rfl)) rfl), (lwg_of (tb1 (List.mem_of_getElem? (i := 1) rfl)) rfl), ⟨_, _, rfl⟩, ⟨by decide, by decide, rfl⟩⟩
theorem lk_L_31 : qcV RL 31 yX7_drop 7 1 := ⟨(lwg_of (tb4 (List.mem_of_getElem? (i := 103) rfl)) rfl), (lwg_of (tb4 (List.mem_of_getElem? (i := 104) rfl)) rfl), (lwg_of (tb4 (List.mem_of_getElem? (i := 105) rfl)) rfl), (lwg_of (tb1 (List.mem_of_getElem? (i := 8) rfl)) rfl), ⟨_, _, rfl⟩, ⟨by decide, by decide, rfl⟩⟩
theorem lk_L_32 : qcV RL 32 yX6_feed 6 1 := ⟨(lwg_of (tb2 (List.mem_of_getElem? (i := 38) rfl)) rfl), (lwg_of (tb2 (List.mem_of_getElem? (i := 39) rfl)) rfl), (lwg_of (tb2 (List.mem_of_getElem? (i := 40) rfl)) rfl), (lwg_of (tb1 (List.mem_of_getElem? (i := 1) rfl)) rfl), ⟨_, _, rfl⟩, ⟨by decide, by decide, rfl⟩⟩
theorem lk_L_35 : qcV RL 35 yX7_feed 7 1 := ⟨(lwg_of (tb4 (List.mem_of_getElem? (i := 107) rfl)) rfl), (lwg_of (tb4 (List.mem_of_getElem? (i := 108) rfl)) rfl), (lwg_of (tb4 (List.mem_of_getElem? (i := 109) rfl)) rfl), (lwg_of (tb1 (List.mem_of_getElem? (i := 8) rfl)) rfl), ⟨_, _, rfl⟩, ⟨by decide, by decide, rfl⟩⟩
theorem lk_L_36 : qcV RL 36 yX6_yard 6 0 := ⟨(lwg_of (tb2 (List.mem_of_getElem? (i := 47) rfl)) rfl), (lwg_of (tb2 (List.mem_of_getElem? (i := 48) rfl)) rfl), (lwg_of (tb2 (List.mem_of_getElem? (i := 49) rfl)) rfl), (lwg_of (tb1 (List.mem_of_getElem? (i := 1) rfl)) rfl), ⟨_, _, rfl⟩, ⟨by decide, by decide, rfl⟩⟩
theorem lk_L_40 : qcV RL 40 yX7_yard 7 0 := ⟨(lwg_of (tb4 (List.mem_of_getElem? (i := 113) rfl)) rfl), (lwg_of (tb4 (List.mem_of_getElem? (i := 114) rfl)) rfl), (lwg_of (tb4 (List.mem_of_getElem? (i := 115) rfl)) rfl), (lwg_of (tb1 (List.mem_of_getElem? (i := 8) rfl)) rfl), ⟨_, _, rfl⟩, ⟨by decide, by decide, rfl⟩⟩
theorem lk_L_41 : qcV RL 41 yX6_fault 6 0 := ⟨(lwg_of (tb2 (List.mem_of_getElem? (i := 118) rfl)) rfl), (lwg_of (tb2 (List.mem_of_getElem? (i := 119) rfl)) rfl), (lwg_of (tb2 (List.mem_of_getElem? (i := 120) rfl)) rfl), (lwg_of (tb1 (List.mem_of_getElem? (i := 1) rfl)) rfl), ⟨_, _, rfl⟩, ⟨by decide, by decide, rfl⟩⟩
theorem lk_L_44 : qcV RL 44 yX7_fault 7 0 := ⟨(lwg_of (tb4 (List.mem_of_getElem? (i := 150) rfl)) rfl), (lwg_of (tb4 (List.mem_of_getElem? (i := 151) rfl)) rfl), (lwg_of (tb4 (List.mem_of_getElem? (i := 152) rfl)) rfl), (lwg_of (tb1 (List.mem_of_getElem? (i := 8) rfl)) rfl), ⟨_, _, rfl⟩, ⟨by decide, by decide, rfl⟩⟩
theorem lk_L_45 : qcV RL 45 yX6_undo 6 0 := ⟨(lwg_of (tb2 (List.mem_of_getElem? (i := 122) rfl)) rfl), (lwg_of (tb2 (List.mem_of_getElem? (i := 123) rfl)) rfl), (lwg_of (tb2 (List.mem_of_getElem? (i := 124) rfl)) rfl), (lwg_of (tb1 (List.mem_of_getElem? (i := 1) rfl)) rfl), ⟨_, _, rfl⟩, ⟨by decide, by decide, rfl⟩⟩
theorem lk_L_48 : qcV RL 48 yX7_undo 7 0 := ⟨(lwg_of (tb4 (List.mem_of_getElem? (i := 154) rfl)) rfl), (lwg_of (tb4 (List.mem_of_getElem? (i := 155) rfl)) rfl), (lwg_of (tb4 (List.mem_of_getElem? (i := 156) rfl)) rfl), (lwg_of (tb1 (List.mem_of_getElem? (i := 8) rfl)) rfl), ⟨_, _, rfl⟩, ⟨by decide, by decide, rfl⟩⟩
theorem lk_L_49 : qcV RL 49 yX6_years 6 1 := ⟨(lwg_of (tb2 (List.mem_of_getElem? (i := 132) rfl)) rfl), (lwg_of (tb2 (List.mem_of_getElem? (i := 133) rfl)) rfl), (lwg_of (tb2 (List.mem_of_getElem? (i := 134) rfl)) rfl), (lwg_of (tb1 (List.mem_of_getElem? (i := 1) rfl)) rfl), ⟨_, _, rfl⟩, ⟨by decide, by decide, rfl⟩⟩
theorem lk_L_52 : qcV RL 52 yX7_years 7 1 := ⟨(lwg_of (tb4 (List.mem_of_getElem? (i := 159) rfl)) rfl), (lwg_of (tb4 (List.mem_of_getElem? (i := 160) rfl)) rfl), (lwg_of (tb4 (List.mem_of_getElem? (i := 161) rfl)) rfl), (lwg_of (tb1 (List.mem_of_getElem? (i := 8) rfl)) rfl), ⟨_, _, rfl⟩, ⟨by decide, by decide, rfl⟩⟩
theorem lk_L_53 : qcV RL 53 yX6_supper 6 1 := ⟨(lwg_of (tb2 (List.mem_of_getElem? (i := 198) rfl)) rfl), (lwg_of (tb2 (List.mem_of_getElem? (i := 199) rfl)) rfl), (lwg_of (tb2 (List.mem_of_getElem? (i := 200) rfl)) rfl), (lwg_of (tb1 (List.mem_of_getElem? (i := 1) rfl)) rfl), ⟨_, _, rfl⟩, ⟨by decide, by decide, rfl⟩⟩
theorem lk_L_56 : qcV RL 56 yX7_supper 7 1 := ⟨(lwg_of (tb4 (List.mem_of_getElem? (i := 195) rfl)) rfl), (lwg_of (tb4 (List.mem_of_getElem? (i := 196) rfl)) rfl), (lwg_of (tb4 (List.mem_of_getElem? (i := 197) rfl)) rfl), (lwg_of (tb1 (List.mem_of_getElem? (i := 8) rfl)) rfl), ⟨_, _, rfl⟩, ⟨by decide, by decide, rfl⟩⟩
theorem lk_L_57 : qcV RL 57 yX6_fever 6 1 := ⟨(lwg_of (tb2 (List.mem_of_getElem? (i := 214) rfl)) rfl), (lwg_of (tb2 (List.mem_of_getElem? (i := 215) rfl)) rfl), (lwg_of (tb2 (List.mem_of_getElem? (i := 216) rfl)) rfl), (lwg_of (tb1 (List.mem_of_getElem? (i := 1) rfl)) rfl), ⟨_, _, rfl⟩, ⟨by decide, by decide, rfl⟩⟩
theorem lk_L_60 : qcV RL 60 yX7_fever 7 1 := ⟨(lwg_of (tb4 (List.mem_of_getElem? (i := 210) rfl)) rfl), (lwg_of (tb4 (List.mem_of_getElem? (i := 211) rfl)) rfl), (lwg_of (tb4 (List.mem_of_getElem? (i := 212) rfl)) rfl), (lwg_of (tb1 (List.mem_of_getElem? (i := 8) rfl)) rfl), ⟨_, _, rfl⟩, ⟨by decide, by decide, rfl⟩⟩
theorem lk_L_61 : qcV RL 61 yX6_tell 6 2 := ⟨(lwg_of (tb2 (List.mem_of_getElem? (i := 219) rfl)) rfl), (lwg_of (tb2 (List.mem_of_getElem? (i := 220) rfl)) rfl), (lwg_of (tb2 (List.mem_of_getElem? (i := 221) rfl)) rfl), (lwg_of (tb1 (List.mem_of_getElem? (i := 1) rfl)) rfl), ⟨_, _, rfl⟩, ⟨by decide, by decide, rfl⟩⟩
theorem lk_L_65 : qcV RL 65 yX7_tell 7 2 := ⟨(lwg_of (tb4 (List.mem_of_getElem? (i := 214) rfl)) rfl), (lwg_of (tb4 (List.mem_of_getElem? (i := 215) rfl)) rfl), (lwg_of (tb4 (List.mem_of_getElem? (i := 216) rfl)) rfl), (lwg_of (tb1 (List.mem_of_getElem? (i := 8) rfl)) rfl), ⟨_, _, rfl⟩, ⟨by decide, by decide, rfl⟩⟩
theorem lk_L_66 : qcV RL 66 yX6_bury 6 2 := ⟨(lwg_of (tb2 (List.mem_of_getElem? (i := 232) rfl)) rfl), (lwg_of (tb2 (List.mem_of_getElem? (i := 233) rfl)) rfl), (lwg_of (tb2 (List.mem_of_getElem? (i := 234) rfl)) rfl), (lwg_of (tb1 (List.mem_of_getElem? (i := 1) rfl)) rfl), ⟨_, _, rfl⟩, ⟨by decide, by decide, rfl⟩⟩
theorem lk_L_69 : qcV RL 69 yX7_bury 7 2 := ⟨(lwg_of (tb4 (List.mem_of_getElem? (i := 222) rfl)) rfl), (lwg_of (tb4 (List.mem_of_getElem? (i := 223) rfl)) rfl), (lwg_of (tb4 (List.mem_of_getElem? (i := 224) rfl)) rfl), (lwg_of (tb1 (List.mem_of_getElem? (i := 8) rfl)) rfl), ⟨_, _, rfl⟩, ⟨by decide, by decide, rfl⟩⟩
theorem lk_L_70 : qcV RL 70 yX6_sleeper 6 2 := ⟨(lwg_of (tb2 (List.mem_of_getElem? (i := 236) rfl)) rfl), (lwg_of (tb2 (List.mem_of_getElem? (i := 237) rfl)) rfl), (lwg_of (tb2 (List.mem_of_getElem? (i := 238) rfl)) rfl), (lwg_of (tb1 (List.mem_of_getElem? (i := 1) rfl)) rfl), ⟨_, _, rfl⟩, ⟨by decide, by decide, rfl⟩⟩
theorem lk_L_73 : qcV RL 73 yX7_sleeper 7 2 := ⟨(lwg_of (tb4 (List.mem_of_getElem? (i := 226) rfl)) rfl), (lwg_of (tb4 (List.mem_of_getElem? (i := 227) rfl)) rfl), (lwg_of (tb4 (List.mem_of_getElem? (i := 228) rfl)) rfl), (lwg_of (tb1 (List.mem_of_getElem? (i := 8) rfl)) rfl), ⟨_, _, rfl⟩, ⟨by decide, by decide, rfl⟩⟩
theorem lk_L_74 : qcV RL 74 yX6_memory 6 2 := ⟨(lwg_of (tb3 (List.mem_of_getElem? (i := 5) rfl)) rfl), (lwg_of (tb3 (List.mem_of_getElem? (i := 6) rfl)) rfl), (lwg_of (tb3 (List.mem_of_getElem? (i := 7) rfl)) rfl), (lwg_of (tb1 (List.mem_of_getElem? (i := 1) rfl)) rfl), ⟨_, _, rfl⟩, ⟨by decide, by decide, rfl⟩⟩
theorem lk_L_77 : qcV RL 77 yX7_memory 7 2 := ⟨(lwg_of (tb4 (List.mem_of_getElem? (i := 234) rfl)) rfl), (lwg_of (tb4 (List.mem_of_getElem? (i := 235) rfl)) rfl), (lwg_of (tb4 (List.mem_of_getElem? (i := 236) rfl)) rfl), (lwg_of (tb1 (List.mem_of_getElem? (i := 8) rfl)) rfl), ⟨_, _, rfl⟩, ⟨by decide, by decide, rfl⟩⟩
theorem lk_L_78 : qcV RL 78 yX6_grave 6 2 := ⟨(lwg_of (tb3 (List.mem_of_getElem? (i := 9) rfl)) rfl), (lwg_of (tb3 (List.mem_of_getElem? (i := 10) rfl)) rfl), (lwg_of (tb3 (List.mem_of_getElem? (i := 11) rfl)) rfl), (lwg_of (tb1 (List.mem_of_getElem? (i := 1) rfl)) rfl), ⟨_, _, rfl⟩, ⟨by decide, by decide, rfl⟩⟩
theorem lk_L_81 : qcV RL 81 yX7_grave 7 2 := ⟨(lwg_of (tb4 (List.mem_of_getElem? (i := 238) rfl)) rfl), (lwg_of (tb4 (List.mem_of_getElem? (i := 239) rfl)) rfl), (lwg_of (tb5 (List.mem_of_getElem? (i := 0) rfl)) rfl), (lwg_of (tb1 (List.mem_of_getElem? (i := 8) rfl)) rfl), ⟨_, _, rfl⟩, ⟨by decide, by decide, rfl⟩⟩
theorem lk_L_82 : qcV RL 82 yX6_ahead 6 1 := ⟨(lwg_of (tb3 (List.mem_of_getElem? (i := 17) rfl)) rfl), (lwg_of (tb3 (List.mem_of_getElem? (i := 18) rfl)) rfl), (lwg_of (tb3 (List.mem_of_getElem? (i := 19) rfl)) rfl), (lwg_of (tb1 (List.mem_of_getElem? (i := 1) rfl)) rfl), ⟨_, _, rfl⟩, ⟨by decide, by decide, rfl⟩⟩
theorem lk_L_85 : qcV RL 85 yX7_ahead 7 1 := ⟨(lwg_of (tb5 (List.mem_of_getElem? (i := 2) rfl)) rfl), (lwg_of (tb5 (List.mem_of_getElem? (i := 3) rfl)) rfl), (lwg_of (tb5 (List.mem_of_getElem? (i := 4) rfl)) rfl), (lwg_of (tb1 (List.mem_of_getElem? (i := 8) rfl)) rfl), ⟨_, _, rfl⟩, ⟨by decide, by decide, rfl⟩⟩
theorem lk_L_86 : qcV RL 86 yX6_dug 6 1 := ⟨(lwg_of (tb3 (List.mem_of_getElem? (i := 31) rfl)) rfl), (lwg_of (tb3 (List.mem_of_getElem? (i := 32) rfl)) rfl), (lwg_of (tb3 (List.mem_of_getElem? (i := 33) rfl)) rfl), (lwg_of (tb1 (List.mem_of_getElem? (i := 1) rfl)) rfl), ⟨_, _, rfl⟩, ⟨by decide, by decide, rfl⟩⟩
theorem lk_L_89 : qcV RL 89 yX7_dug 7 1 := ⟨(lwg_of (tb5 (List.mem_of_getElem? (i := 15) rfl)) rfl), (lwg_of (tb5 (List.mem_of_getElem? (i := 16) rfl)) rfl), (lwg_of (tb5 (List.mem_of_getElem? (i := 17) rfl)) rfl), (lwg_of (tb1 (List.mem_of_getElem? (i := 8) rfl)) rfl), ⟨_, _, rfl⟩, ⟨by decide, by decide, rfl⟩⟩
theorem lk_L_90 : qcV RL 90 yX6_firstDug 6 0 := ⟨(lwg_of (tb3 (List.mem_of_getElem? (i := 42) rfl)) rfl), (lwg_of (tb3 (List.mem_of_getElem? (i := 43) rfl)) rfl), (lwg_of (tb3 (List.mem_of_getElem? (i := 44) rfl)) rfl), (lwg_of (tb1 (List.mem_of_getElem? (i := 1) rfl)) rfl), ⟨_, _, rfl⟩, ⟨by decide, by decide, rfl⟩⟩
theorem lk_L_93 : qcV RL 93 yX7_firstDug 7 0 := ⟨(lwg_of (tb5 (List.mem_of_getElem? (i := 28) rfl)) rfl), (lwg_of (tb5 (List.mem_of_getElem? (i := 29) rfl)) rfl), (lwg_of (tb5 (List.mem_of_getElem? (i := 30) rfl)) rfl), (lwg_of (tb1 (List.mem_of_getElem? (i := 8) rfl)) rfl), ⟨_, _, rfl⟩, ⟨by decide, by decide, rfl⟩⟩
theorem lk_L_94 : qcV RL 94 yX6_suppers 6 3 := ⟨(lwg_of (tb3 (List.mem_of_getElem? (i := 53) rfl)) rfl), (lwg_of (tb3 (List.mem_of_getElem? (i := 54) rfl)) rfl), (lwg_of (tb3 (List.mem_of_getElem? (i := 55) rfl)) rfl), (lwg_of (tb1 (List.mem_of_getElem? (i := 1) rfl)) rfl), ⟨_, _, rfl⟩, ⟨by decide, by decide, rfl⟩⟩
theorem lk_L_97 : qcV RL 97 yX7_suppers 7 3 := ⟨(lwg_of (tb5 (List.mem_of_getElem? (i := 32) rfl)) rfl), (lwg_of (tb5 (List.mem_of_getElem? (i := 33) rfl)) rfl), (lwg_of (tb5 (List.mem_of_getElem? (i := 34) rfl)) rfl), (lwg_of (tb1 (List.mem_of_getElem? (i := 8) rfl)) rfl), ⟨_, _, rfl⟩, ⟨by decide, by decide, rfl⟩⟩
theorem lk_L_98 : qcV RL 98 yX6_bound 6 1 := ⟨(lwg_of (tb3 (List.mem_of_getElem? (i := 70) rfl)) rfl), (lwg_of (tb3 (List.mem_of_getElem? (i := 71) rfl)) rfl), (lwg_of (tb3 (List.mem_of_getElem? (i := 72) rfl)) rfl), (lwg_of (tb1 (List.mem_of_getElem? (i := 1) rfl)) rfl), ⟨_, _, rfl⟩, ⟨by decide, by decide, rfl⟩⟩
theorem lk_L_101 : qcV RL 101 yX7_bound 7 1 := ⟨(lwg_of (tb5 (List.mem_of_getElem? (i := 49) rfl)) rfl), (lwg_of (tb5 (List.mem_of_getElem? (i := 50) rfl)) rfl), (lwg_of (tb5 (List.mem_of_getElem? (i := 51) rfl)) rfl), (lwg_of (tb1 (List.mem_of_getElem? (i := 8) rfl)) rfl), ⟨_, _, rfl⟩, ⟨by decide, by decide, rfl⟩⟩
theorem lk_L_102 : qcV RL 102 yX6_forgets 6 2 := ⟨(lwg_of (tb3 (List.mem_of_getElem? (i := 74) rfl)) rfl), (lwg_of (tb3 (List.mem_of_getElem? (i := 75) rfl)) rfl), (lwg_of (tb3 (List.mem_of_getElem? (i := 76) rfl)) rfl), (lwg_of (tb1 (List.mem_of_getElem? (i := 1) rfl)) rfl), ⟨_, _, rfl⟩, ⟨by decide, by decide, rfl⟩⟩
theorem lk_L_105 : qcV RL 105 yX7_forgets 7 2 := ⟨(lwg_of (tb5 (List.mem_of_getElem? (i := 53) rfl)) rfl), (lwg_of (tb5 (List.mem_of_getElem? (i := 54) rfl)) rfl), (lwg_of (tb5 (List.mem_of_getElem? (i := 55) rfl)) rfl), (lwg_of (tb1 (List.mem_of_getElem? (i := 8) rfl)) rfl), ⟨_, _, rfl⟩, ⟨by decide, by decide, rfl⟩⟩
theorem lk_L_106 : qcV RL 106 yX6_most 6 2 := ⟨(lwg_of (tb3 (List.mem_of_getElem? (i := 84) rfl)) rfl), (lwg_of (tb3 (List.mem_of_getElem? (i := 85) rfl)) rfl), (lwg_of (tb3 (List.mem_of_getElem? (i := 86) rfl)) rfl), (lwg_of (tb1 (List.mem_of_getElem? (i := 1) rfl)) rfl), ⟨_, _, rfl⟩, ⟨by decide, by decide, rfl⟩⟩
theorem lk_L_109 : qcV RL 109 yX7_most 7 2 := ⟨(lwg_of (tb5 (List.mem_of_getElem? (i := 57) rfl)) rfl), (lwg_of (tb5 (List.mem_of_getElem? (i := 58) rfl)) rfl), (lwg_of (tb5 (List.mem_of_getElem? (i := 59) rfl)) rfl), (lwg_of (tb1 (List.mem_of_getElem? (i := 8) rfl)) rfl), ⟨_, _, rfl⟩, ⟨by decide, by decide, rfl⟩⟩
theorem lk_L_110 : qcV RL 110 yX6_pair 6 2 := ⟨(lwg_of (tb3 (List.mem_of_getElem? (i := 89) rfl)) rfl), (lwg_of (tb3 (List.mem_of_getElem? (i := 90) rfl)) rfl), (lwg_of (tb3 (List.mem_of_getElem? (i := 91) rfl)) rfl), (lwg_of (tb1 (List.mem_of_getElem? (i := 1) rfl)) rfl), ⟨_, _, rfl⟩, ⟨by decide, by decide, rfl⟩⟩
theorem lk_L_113 : qcV RL 113 yX7_pair 7 2 := ⟨(lwg_of (tb5 (List.mem_of_getElem? (i := 61) rfl)) rfl), (lwg_of (tb5 (List.mem_of_getElem? (i := 62) rfl)) rfl), (lwg_of (tb5 (List.mem_of_getElem? (i := 63) rfl)) rfl), (lwg_of (tb1 (List.mem_of_getElem? (i := 8) rfl)) rfl), ⟨_, _, rfl⟩, ⟨by decide, by decide, rfl⟩⟩
theorem lk_L_114 : qcV RL 114 yX6_who 6 4 := ⟨(lwg_of (tb3 (List.mem_of_getElem? (i := 93) rfl)) rfl), (lwg_of (tb3 (List.mem_of_getElem? (i := 94) rfl)) rfl), (lwg_of (tb3 (List.mem_of_getElem? (i := 95) rfl)) rfl), (lwg_of (tb1 (List.mem_of_getElem? (i := 1) rfl)) rfl), ⟨_, _, rfl⟩, ⟨by decide, by decide, rfl⟩⟩
theorem lk_L_118 : qcV RL 118 yX7_who 7 4 := ⟨(lwg_of (tb5 (List.mem_of_getElem? (i := 65) rfl)) rfl), (lwg_of (tb5 (List.mem_of_getElem? (i := 66) rfl)) rfl), (lwg_of (tb5 (List.mem_of_getElem? (i := 67) rfl)) rfl), (lwg_of (tb1 (List.mem_of_getElem? (i := 8) rfl)) rfl), ⟨_, _, rfl⟩, ⟨by decide, by decide, rfl⟩⟩
theorem lk_L_119 : qcV RL 119 yX6_whispered 6 4 := ⟨(lwg_of (tb3 (List.mem_of_getElem? (i := 105) rfl)) rfl), (lwg_of (tb3 (List.mem_of_getElem? (i := 106) rfl)) rfl), (lwg_of (tb3 (List.mem_of_getElem? (i := 107) rfl)) rfl), (lwg_of (tb1 (List.mem_of_getElem? (i := 1) rfl)) rfl), ⟨_, _, rfl⟩, ⟨by decide, by decide, rfl⟩⟩
theorem lk_L_122 : qcV RL 122 yX7_whispered 7 4 := ⟨(lwg_of (tb5 (List.mem_of_getElem? (i := 78) rfl)) rfl), (lwg_of (tb5 (List.mem_of_getElem? (i := 79) rfl)) rfl), (lwg_of (tb5 (List.mem_of_getElem? (i := 80) rfl)) rfl), (lwg_of (tb1 (List.mem_of_getElem? (i := 8) rfl)) rfl), ⟨_, _, rfl⟩, ⟨by decide, by decide, rfl⟩⟩
theorem lk_L_123 : qcV RL 123 yX6_cheese 6 1 := ⟨(lwg_of (tb3 (List.mem_of_getElem? (i := 114) rfl)) rfl), (lwg_of (tb3 (List.mem_of_getElem? (i := 115) rfl)) rfl), (lwg_of (tb3 (List.mem_of_getElem? (i := 116) rfl)) rfl), (lwg_of (tb1 (List.mem_of_getElem? (i := 1) rfl)) rfl), ⟨_, _, rfl⟩, ⟨by decide, by decide, rfl⟩⟩
theorem lk_L_126 : qcV RL 126 yX7_cheese 7 1 := ⟨(lwg_of (tb5 (List.mem_of_getElem? (i := 83) rfl)) rfl), (lwg_of (tb5 (List.mem_of_getElem? (i := 84) rfl)) rfl), (lwg_of (tb5 (List.mem_of_getElem? (i := 85) rfl)) rfl), (lwg_of (tb1 (List.mem_of_getElem? (i := 8) rfl)) rfl), ⟨_, _, rfl⟩, ⟨by decide, by decide, rfl⟩⟩
theorem lk_L_127 : qcV RL 127 yX6_awake 6 3 := ⟨(lwg_of (tb3 (List.mem_of_getElem? (i := 126) rfl)) rfl), (lwg_of (tb3 (List.mem_of_getElem? (i := 127) rfl)) rfl), (lwg_of (tb3 (List.mem_of_getElem? (i := 128) rfl)) rfl), (lwg_of (tb1 (List.mem_of_getElem? (i := 1) rfl)) rfl), ⟨_, _, rfl⟩, ⟨by decide, by decide, rfl⟩⟩
theorem lk_L_131 : qcV RL 131 yX7_awake 7 3 := ⟨(lwg_of (tb5 (List.mem_of_getElem? (i := 91) rfl)) rfl), (lwg_of (tb5 (List.mem_of_getElem? (i := 92) rfl)) rfl), (lwg_of (tb5 (List.mem_of_getElem? (i := 93) rfl)) rfl), (lwg_of (tb1 (List.mem_of_getElem? (i := 8) rfl)) rfl), ⟨_, _, rfl⟩, ⟨by decide, by decide, rfl⟩⟩
theorem lk_L_132 : qcV RL 132 yX6_drawn 6 3 := ⟨(lwg_of (tb3 (List.mem_of_getElem? (i := 141) rfl)) rfl), (lwg_of (tb3 (List.mem_of_getElem? (i := 142) rfl)) rfl), (lwg_of (tb3 (List.mem_of_getElem? (i := 143) rfl)) rfl), (lwg_of (tb1 (List.mem_of_getElem? (i := 1) rfl)) rfl), ⟨_, _, rfl⟩, ⟨by decide, by decide, rfl⟩⟩
theorem lk_L_135 : qcV RL 135 yX7_drawn 7 3 := ⟨(lwg_of (tb5 (List.mem_of_getElem? (i := 98) rfl)) rfl), (lwg_of (tb5 (List.mem_of_getElem? (i := 99) rfl)) rfl), (lwg_of (tb5 (List.mem_of_getElem? (i := 100) rfl)) rfl), (lwg_of (tb1 (List.mem_of_getElem? (i := 8) rfl)) rfl), ⟨_, _, rfl⟩, ⟨by decide, by decide, rfl⟩⟩
theorem lk_L_136 : qcV RL 136 yX6_image 6 1 := ⟨(lwg_of (tb3 (List.mem_of_getElem? (i := 159) rfl)) rfl), (lwg_of (tb3 (List.mem_of_getElem? (i := 160) rfl)) rfl), (lwg_of (tb3 (List.mem_of_getElem? (i := 161) rfl)) rfl), (lwg_of (tb1 (List.mem_of_getElem? (i := 1) rfl)) rfl), ⟨_, _, rfl⟩, ⟨by decide, by decide, rfl⟩⟩
theorem lk_L_139 : qcV RL 139 yX7_image 7 1 := ⟨(lwg_of (tb5 (List.mem_of_getElem? (i := 106) rfl)) rfl), (lwg_of (tb5 (List.mem_of_getElem? (i := 107) rfl)) rfl), (lwg_of (tb5 (List.mem_of_getElem? (i := 108) rfl)) rfl), (lwg_of (tb1 (List.mem_of_getElem? (i := 8) rfl)) rfl), ⟨_, _, rfl⟩, ⟨by decide, by decide, rfl⟩⟩
theorem lk_L_140 : qcV RL 140 yX6_restore 6 1 := ⟨(lwg_of (tb3 (List.mem_of_getElem? (i := 163) rfl)) rfl), (lwg_of (tb3 (List.mem_of_getElem? (i := 164) rfl)) rfl), (lwg_of (tb3 (List.mem_of_getElem? (i := 165) rfl)) rfl), (lwg_of (tb1 (List.mem_of_getElem? (i := 1) rfl)) rfl), ⟨_, _, rfl⟩, ⟨by decide, by decide, rfl⟩⟩
theorem lk_L_143 : qcV RL 143 yX7_restore 7 1 := ⟨(lwg_of (tb5 (List.mem_of_getElem? (i := 110) rfl)) rfl), (lwg_of (tb5 (List.mem_of_getElem? (i := 111) rfl)) rfl), (lwg_of (tb5 (List.mem_of_getElem? (i := 112) rfl)) rfl), (lwg_of (tb1 (List.mem_of_getElem? (i := 8) rfl)) rfl), ⟨_, _, rfl⟩, ⟨by decide, by decide, rfl⟩⟩
theorem lk_L_144 : qcV RL 144 yX6_kind 6 1 := ⟨(lwg_of (tb3 (List.mem_of_getElem? (i := 167) rfl)) rfl), (lwg_of (tb3 (List.mem_of_getElem? (i := 168) rfl)) rfl), (lwg_of (tb3 (List.mem_of_getElem? (i := 169) rfl)) rfl), (lwg_of (tb1 (List.mem_of_getElem? (i := 1) rfl)) rfl), ⟨_, _, rfl⟩, ⟨by decide, by decide, rfl⟩⟩
theorem lk_L_147 : qcV RL 147 yX7_kind 7 1 := ⟨(lwg_of (tb5 (List.mem_of_getElem? (i := 114) rfl)) rfl), (lwg_of (tb5 (List.mem_of_getElem? (i := 115) rfl)) rfl), (lwg_of (tb5 (List.mem_of_getElem? (i := 116) rfl)) rfl), (lwg_of (tb1 (List.mem_of_getElem? (i := 8) rfl)) rfl), ⟨_, _, rfl⟩, ⟨by decide, by decide, rfl⟩⟩
theorem lk_L_148 : qcV RL 148 yX6_as 6 2 := ⟨(lwg_of (tb3 (List.mem_of_getElem? (i := 171) rfl)) rfl), (lwg_of (tb3 (List.mem_of_getElem? (i := 172) rfl)) rfl), (lwg_of (tb3 (List.mem_of_getElem? (i := 173) rfl)) rfl), (lwg_of (tb1 (List.mem_of_getElem? (i := 1) rfl)) rfl), ⟨_, _, rfl⟩, ⟨by decide, by decide, rfl⟩⟩
theorem lk_L_151 : qcV RL 151 yX7_as 7 2 := ⟨(lwg_of (tb5 (List.mem_of_getElem? (i := 118) rfl)) rfl), (lwg_of (tb5 (List.mem_of_getElem? (i := 119) rfl)) rfl), (lwg_of (tb5 (List.mem_of_getElem? (i := 120) rfl)) rfl), (lwg_of (tb1 (List.mem_of_getElem? (i := 8) rfl)) rfl), ⟨_, _, rfl⟩, ⟨by decide, by decide, rfl⟩⟩
theorem lk_L_152 : qcV RL 152 yX6_ask 6 2 := ⟨(lwg_of (tb3 (List.mem_of_getElem? (i := 178) rfl)) rfl), (lwg_of (tb3 (List.mem_of_getElem? (i := 179) rfl)) rfl), (lwg_of (tb3 (List.mem_of_getElem? (i := 180) rfl)) rfl), (lwg_of (tb1 (List.mem_of_getElem? (i := 1) rfl)) rfl), ⟨_, _, rfl⟩, ⟨by decide, by decide, rfl⟩⟩
theorem lk_L_155 : qcV RL 155 yX7_ask 7 2 := ⟨(lwg_of (tb5 (List.mem_of_getElem? (i := 125) rfl)) rfl), (lwg_of (tb5 (List.mem_of_getElem? (i := 126) rfl)) rfl), (lwg_of (tb5 (List.mem_of_getElem? (i := 127) rfl)) rfl), (lwg_of (tb1 (List.mem_of_getElem? (i := 8) rfl)) rfl), ⟨_, _, rfl⟩, ⟨by decide, by decide, rfl⟩⟩
theorem lk_L_156 : qcV RL 156 yX6_trace 6 1 := ⟨(lwg_of (tb3 (List.mem_of_getElem? (i := 211) rfl)) rfl), (lwg_of (tb3 (List.mem_of_getElem? (i := 212) rfl)) rfl), (lwg_of (tb3 (List.mem_of_getElem? (i := 213) rfl)) rfl), (lwg_of (tb1 (List.mem_of_getElem? (i := 1) rfl)) rfl), ⟨_, _, rfl⟩, ⟨by decide, by decide, rfl⟩⟩
theorem lk_L_159 : qcV RL 159 yX7_trace 7 1 := ⟨(lwg_of (tb5 (List.mem_of_getElem? (i := 161) rfl)) rfl), (lwg_of (tb5 (List.mem_of_getElem? (i := 162) rfl)) rfl), (lwg_of (tb5 (List.mem_of_getElem? (i := 163) rfl)) rfl), (lwg_of (tb1 (List.mem_of_getElem? (i := 8) rfl)) rfl), ⟨_, _, rfl⟩, ⟨by decide, by decide, rfl⟩⟩
theorem lk_L_160 : qcV RL 160 yX6_count 6 1 := ⟨(lwg_of (tb3 (List.mem_of_getElem? (i := 215) rfl)) rfl), (lwg_of (tb3 (List.mem_of_getElem? (i := 216) rfl)) rfl), (lwg_of (tb3 (List.mem_of_getElem? (i := 217) rfl)) rfl), (lwg_of (tb1 (List.mem_of_getElem? (i := 1) rfl)) rfl), ⟨_, _, rfl⟩, ⟨by decide, by decide, rfl⟩⟩
theorem lk_L_163 : qcV RL 163 yX7_count 7 1 := ⟨(lwg_of (tb5 (List.mem_of_getElem? (i := 165) rfl)) rfl), (lwg_of (tb5 (List.mem_of_getElem? (i := 166) rfl)) rfl), (lwg_of (tb5 (List.mem_of_getElem? (i := 167) rfl)) rfl), (lwg_of (tb1 (List.mem_of_getElem? (i := 8) rfl)) rfl), ⟨_, _, rfl⟩, ⟨by decide, by decide, rfl⟩⟩
theorem lk_L_164 : qcV RL 164 yX6_status 6 0 := ⟨(lwg_of (tb3 (List.mem_of_getElem? (i := 223) rfl)) rfl), (lwg_of (tb3 (List.mem_of_getElem? (i := 224) rfl)) rfl), (lwg_of (tb3 (List.mem_of_getElem? (i := 225) rfl)) rfl), (lwg_of (tb1 (List.mem_of_getElem? (i := 1) rfl)) rfl), ⟨_, _, rfl⟩, ⟨by decide, by decide, rfl⟩⟩
theorem lk_L_167 : qcV RL 167 yX7_status 7 0 := ⟨(lwg_of (tb5 (List.mem_of_getElem? (i := 169) rfl)) rfl), (lwg_of (tb5 (List.mem_of_getElem? (i := 170) rfl)) rfl), (lwg_of (tb5 (List.mem_of_getElem? (i := 171) rfl)) rfl), (lwg_of (tb1 (List.mem_of_getElem? (i := 8) rfl)) rfl), ⟨_, _, rfl⟩, ⟨by decide, by decide, rfl⟩⟩
theorem fl_X0_9 : qfl RX0 9 0 1 (.array .int) true := ⟨RX0, TX0, 2, tyX0, rfl, by decide, iw_X0, tyX0_ok, nmX0, (lwg_of (tb1 (List.mem_of_getElem? (i := 170) rfl)) rfl), rfl, rfl, rfl⟩
theorem fl_X0_15 : qfl RX0 15 0 0 .int false := ⟨RX0, TX0, 2, tyX0, rfl, by decide, iw_X0, tyX0_ok, nmX0, (lwg_of (tb1 (List.mem_of_getElem? (i := 168) rfl)) rfl), rfl, rfl, rfl⟩
theorem lk_X0_19 : qcV RX0 19 yX0_sizeOf 0 3 := ⟨(lwg_of (tb3 (List.mem_of_getElem? (i := 186) rfl)) rfl), (lwg_of (tb3 (List.mem_of_getElem? (i := 188) rfl)) rfl), (lwg_of (tb0 (List.mem_of_getElem? (i := 20) rfl)) rfl), (lwg_of (tb1 (List.mem_of_getElem? (i := 6) rfl)) rfl), ⟨_, _, rfl⟩, ⟨by decide, by decide, rfl⟩⟩
theorem lk_X0_23 : qcV RX0 23 yX0_markOf 0 3 := ⟨(lwg_of (tb3 (List.mem_of_getElem? (i := 204) rfl)) rfl), (lwg_of (tb3 (List.mem_of_getElem? (i := 206) rfl)) rfl), (lwg_of (tb0 (List.mem_of_getElem? (i := 23) rfl)) rfl), (lwg_of (tb1 (List.mem_of_getElem? (i := 6) rfl)) rfl), ⟨_, _, rfl⟩, ⟨by decide, by decide, rfl⟩⟩
theorem fs_X0_26 : Cond.fieldLink RX0 26 "DreamGraves$Asker" "SIZE_BODIES" "[I" ∈ lwg := (lwg_of (tb3 (List.mem_of_getElem? (i := 190) rfl)) rfl)
theorem lk_X0_29 : qcS RX0 29 yX0_kindOf 2 := ⟨(lwg_of (tb3 (List.mem_of_getElem? (i := 192) rfl)) rfl), (lwg_of (tb3 (List.mem_of_getElem? (i := 193) rfl)) rfl), (lwg_of (tb1 (List.mem_of_getElem? (i := 6) rfl)) rfl), ⟨by decide, by decide, rfl⟩⟩
theorem lk_X0_33 : qcV RX0 33 yX0_give 0 4 := ⟨(lwg_of (tb3 (List.mem_of_getElem? (i := 195) rfl)) rfl), (lwg_of (tb3 (List.mem_of_getElem? (i := 197) rfl)) rfl), (lwg_of (tb0 (List.mem_of_getElem? (i := 21) rfl)) rfl), (lwg_of (tb1 (List.mem_of_getElem? (i := 6) rfl)) rfl), ⟨_, _, rfl⟩, ⟨by decide, by decide, rfl⟩⟩
theorem fs_X0_37 : Cond.fieldLink RX0 37 "DreamGraves$Asker" "MARK_BODIES" "[I" ∈ lwg := (lwg_of (tb3 (List.mem_of_getElem? (i := 208) rfl)) rfl)
theorem fl_X0_40 : qfl RX0 40 5 8 (.array .int) true := ⟨RX5, TX5, 10, tyX5, rfl, by decide, iw_X5, tyX5_ok, nmX5, (lwg_of (tb1 (List.mem_of_getElem? (i := 59) rfl)) rfl), rfl, rfl, rfl⟩
theorem lk_X0_45 : qcV RX0 45 yX0_leave 0 1 := ⟨(lwg_of (tb3 (List.mem_of_getElem? (i := 199) rfl)) rfl), (lwg_of (tb3 (List.mem_of_getElem? (i := 201) rfl)) rfl), (lwg_of (tb0 (List.mem_of_getElem? (i := 22) rfl)) rfl), (lwg_of (tb1 (List.mem_of_getElem? (i := 6) rfl)) rfl), ⟨_, _, rfl⟩, ⟨by decide, by decide, rfl⟩⟩
theorem lk_X0_49 : qcV RX0 49 yX5_allMemoryOf 5 1 := ⟨(lwg_of (tb3 (List.mem_of_getElem? (i := 203) rfl)) rfl), (lwg_of (tb3 (List.mem_of_getElem? (i := 1) rfl)) rfl), (lwg_of (tb3 (List.mem_of_getElem? (i := 2) rfl)) rfl), (lwg_of (tb1 (List.mem_of_getElem? (i := 3) rfl)) rfl), ⟨_, _, rfl⟩, ⟨by decide, by decide, rfl⟩⟩
theorem lk_X0_53 : qcV RX0 53 yX5_memoryOf 5 2 := ⟨(lwg_of (tb3 (List.mem_of_getElem? (i := 210) rfl)) rfl), (lwg_of (tb2 (List.mem_of_getElem? (i := 228) rfl)) rfl), (lwg_of (tb2 (List.mem_of_getElem? (i := 229) rfl)) rfl), (lwg_of (tb1 (List.mem_of_getElem? (i := 3) rfl)) rfl), ⟨_, _, rfl⟩, ⟨by decide, by decide, rfl⟩⟩
theorem fl_X1_11 : qfl RX1 11 1 2 (.array (.object "DreamGraves$Yard")) true := ⟨RX1, TX1, 3, tyX1, rfl, by decide, iw_X1, tyX1_ok, nmX1, (lwg_of (tb1 (List.mem_of_getElem? (i := 131) rfl)) rfl), rfl, rfl, rfl⟩
theorem lk_X1_17 : qcIN RX1 17 yX5_init 0 := ⟨⟨"DreamGraves", List.mem_filter.mpr ⟨tc1 (List.mem_of_getElem? (i := 127) rfl), rfl⟩⟩, (lwg_of (tb1 (List.mem_of_getElem? (i := 31) rfl)) rfl), (lwg_of (tb1 (List.mem_of_getElem? (i := 3) rfl)) rfl), rfl, ⟨by decide, by decide, rfl⟩⟩
theorem fl_X1_18 : qfl RX1 18 1 0 .int false := ⟨RX1, TX1, 3, tyX1, rfl, by decide, iw_X1, tyX1_ok, nmX1, (lwg_of (tb1 (List.mem_of_getElem? (i := 128) rfl)) rfl), rfl, rfl, rfl⟩
theorem fl_X1_22 : qfl RX1 22 1 1 .int false := ⟨RX1, TX1, 3, tyX1, rfl, by decide, iw_X1, tyX1_ok, nmX1, (lwg_of (tb1 (List.mem_of_getElem? (i := 130) rfl)) rfl), rfl, rfl, rfl⟩
theorem lk_X1_25 : qcV RX1 25 yX5_become 5 1 := ⟨(lwg_of (tb2 (List.mem_of_getElem? (i := 130) rfl)) rfl), (lwg_of (tb2 (List.mem_of_getElem? (i := 110) rfl)) rfl), (lwg_of (tb2 (List.mem_of_getElem? (i := 111) rfl)) rfl), (lwg_of (tb1 (List.mem_of_getElem? (i := 3) rfl)) rfl), ⟨_, _, rfl⟩, ⟨by decide, by decide, rfl⟩⟩
theorem fl_X2_9 : qfl RX2 9 2 0 .int false := ⟨RX2, TX2, 3, tyX2, rfl, by decide, iw_X2, tyX2_ok, nmX2, (lwg_of (tb1 (List.mem_of_getElem? (i := 182) rfl)) rfl), rfl, rfl, rfl⟩
theorem fl_X2_15 : qfl RX2 15 2 2 (.array .int) true := ⟨RX2, TX2, 3, tyX2, rfl, by decide, iw_X2, tyX2_ok, nmX2, (lwg_of (tb1 (List.mem_of_getElem? (i := 186) rfl)) rfl), rfl, rfl, rfl⟩
theorem fl_X2_19 : qfl RX2 19 2 1 .int false := ⟨RX2, TX2, 3, tyX2, rfl, by decide, iw_X2, tyX2_ok, nmX2, (lwg_of (tb1 (List.mem_of_getElem? (i := 184) rfl)) rfl), rfl, rfl, rfl⟩
theorem lk_X2_22 : qcS RX2 22 yJ7_fill_53178 2 := ⟨(lwg_of (tb1 (List.mem_of_getElem? (i := 238) rfl)) rfl), (lwg_of (tb1 (List.mem_of_getElem? (i := 239) rfl)) rfl), (lwg_of (tb1 (List.mem_of_getElem? (i := 9) rfl)) rfl), ⟨by decide, by decide, rfl⟩⟩
theorem lk_X2_28 : qcV RX2 28 yX2_isMissing 2 0 := ⟨(lwg_of (tb2 (List.mem_of_getElem? (i := 13) rfl)) rfl), (lwg_of (tb2 (List.mem_of_getElem? (i := 14) rfl)) rfl), (lwg_of (tb2 (List.mem_of_getElem? (i := 15) rfl)) rfl), (lwg_of (tb1 (List.mem_of_getElem? (i := 7) rfl)) rfl), ⟨_, _, rfl⟩, ⟨by decide, by decide, rfl⟩⟩
theorem lk_X2_32 : qcV RX2 32 yX2_holds 2 2 := ⟨(lwg_of (tb2 (List.mem_of_getElem? (i := 17) rfl)) rfl), (lwg_of (tb2 (List.mem_of_getElem? (i := 18) rfl)) rfl), (lwg_of (tb2 (List.mem_of_getElem? (i := 19) rfl)) rfl), (lwg_of (tb1 (List.mem_of_getElem? (i := 7) rfl)) rfl), ⟨_, _, rfl⟩, ⟨by decide, by decide, rfl⟩⟩
theorem fl_X3_9 : qfl RX3 9 3 1 (.array .int) true := ⟨RX3, TX3, 4, tyX3, rfl, by decide, iw_X3, tyX3_ok, nmX3, (lwg_of (tb1 (List.mem_of_getElem? (i := 149) rfl)) rfl), rfl, rfl, rfl⟩
theorem fl_X3_15 : qfl RX3 15 3 2 (.array .int) true := ⟨RX3, TX3, 4, tyX3, rfl, by decide, iw_X3, tyX3_ok, nmX3, (lwg_of (tb1 (List.mem_of_getElem? (i := 151) rfl)) rfl), rfl, rfl, rfl⟩
theorem fl_X3_20 : qfl RX3 20 3 3 (.array (.object "DreamGraves$Yard")) true := ⟨RX3, TX3, 4, tyX3, rfl, by decide, iw_X3, tyX3_ok, nmX3, (lwg_of (tb1 (List.mem_of_getElem? (i := 152) rfl)) rfl), rfl, rfl, rfl⟩
theorem lk_X3_24 : qcIN RX3 24 yX5_init 0 := ⟨⟨"DreamGraves", List.mem_filter.mpr ⟨tc1 (List.mem_of_getElem? (i := 146) rfl), rfl⟩⟩, (lwg_of (tb1 (List.mem_of_getElem? (i := 31) rfl)) rfl), (lwg_of (tb1 (List.mem_of_getElem? (i := 3) rfl)) rfl), rfl, ⟨by decide, by decide, rfl⟩⟩
theorem lk_X3_25 : qcV RX3 25 yX5_become 5 1 := ⟨(lwg_of (tb3 (List.mem_of_getElem? (i := 29) rfl)) rfl), (lwg_of (tb2 (List.mem_of_getElem? (i := 110) rfl)) rfl), (lwg_of (tb2 (List.mem_of_getElem? (i := 111) rfl)) rfl), (lwg_of (tb1 (List.mem_of_getElem? (i := 3) rfl)) rfl), ⟨_, _, rfl⟩, ⟨by decide, by decide, rfl⟩⟩
theorem lk_X3_29 : qcV RX3 29 yX3_copyOf 3 1 := ⟨(lwg_of (tb3 (List.mem_of_getElem? (i := 25) rfl)) rfl), (lwg_of (tb3 (List.mem_of_getElem? (i := 27) rfl)) rfl), (lwg_of (tb0 (List.mem_of_getElem? (i := 18) rfl)) rfl), (lwg_of (tb1 (List.mem_of_getElem? (i := 5) rfl)) rfl), ⟨_, _, rfl⟩, ⟨by decide, by decide, rfl⟩⟩
theorem lk_X3_33 : qcV RX3 33 yX5_pass 5 0 := ⟨(lwg_of (tb3 (List.mem_of_getElem? (i := 30) rfl)) rfl), (lwg_of (tb2 (List.mem_of_getElem? (i := 149) rfl)) rfl), (lwg_of (tb2 (List.mem_of_getElem? (i := 150) rfl)) rfl), (lwg_of (tb1 (List.mem_of_getElem? (i := 3) rfl)) rfl), ⟨_, _, rfl⟩, ⟨by decide, by decide, rfl⟩⟩
theorem fl_X3_36 : qfl RX3 36 5 5 .int false := ⟨RX5, TX5, 10, tyX5, rfl, by decide, iw_X5, tyX5_ok, nmX5, (lwg_of (tb1 (List.mem_of_getElem? (i := 48) rfl)) rfl), rfl, rfl, rfl⟩
theorem lk_X3_40 : qcSN RX3 40 yX6_hasBit 2 := ⟨⟨"DreamGraves", List.mem_filter.mpr ⟨tc3 (List.mem_of_getElem? (i := 39) rfl), rfl⟩⟩, (lwg_of (tb2 (List.mem_of_getElem? (i := 161) rfl)) rfl), (lwg_of (tb1 (List.mem_of_getElem? (i := 1) rfl)) rfl), ⟨by decide, by decide, rfl⟩⟩
theorem fl_X3_44 : qfl RX3 44 5 3 .int false := ⟨RX5, TX5, 10, tyX5, rfl, by decide, iw_X5, tyX5_ok, nmX5, (lwg_of (tb1 (List.mem_of_getElem? (i := 43) rfl)) rfl), rfl, rfl, rfl⟩
theorem lk_X3_47 : qcSN RX3 47 yX6_bit 1 := ⟨⟨"DreamGraves", List.mem_filter.mpr ⟨tc3 (List.mem_of_getElem? (i := 40) rfl), rfl⟩⟩, (lwg_of (tb2 (List.mem_of_getElem? (i := 88) rfl)) rfl), (lwg_of (tb1 (List.mem_of_getElem? (i := 1) rfl)) rfl), ⟨by decide, by decide, rfl⟩⟩
theorem fl_X3_51 : qfl RX3 51 5 6 .int false := ⟨RX5, TX5, 10, tyX5, rfl, by decide, iw_X5, tyX5_ok, nmX5, (lwg_of (tb1 (List.mem_of_getElem? (i := 53) rfl)) rfl), rfl, rfl, rfl⟩
theorem lk_X3_54 : Cond.constant RX3 54 (-1000000) ∈ lwg := (lwg_of (tb3 (List.mem_of_getElem? (i := 41) rfl)) rfl)
theorem lk_X3_55 : qcS RX3 55 yX3_firstOf 1 := ⟨(lwg_of (tb3 (List.mem_of_getElem? (i := 50) rfl)) rfl), (lwg_of (tb3 (List.mem_of_getElem? (i := 51) rfl)) rfl), (lwg_of (tb1 (List.mem_of_getElem? (i := 5) rfl)) rfl), ⟨by decide, by decide, rfl⟩⟩
theorem fl_X3_58 : qfl RX3 58 3 0 .int false := ⟨RX3, TX3, 4, tyX3, rfl, by decide, iw_X3, tyX3_ok, nmX3, (lwg_of (tb1 (List.mem_of_getElem? (i := 147) rfl)) rfl), rfl, rfl, rfl⟩
theorem lk_X3_61 : qcV RX3 61 yX3_tryYear 3 4 := ⟨(lwg_of (tb3 (List.mem_of_getElem? (i := 61) rfl)) rfl), (lwg_of (tb3 (List.mem_of_getElem? (i := 63) rfl)) rfl), (lwg_of (tb0 (List.mem_of_getElem? (i := 19) rfl)) rfl), (lwg_of (tb1 (List.mem_of_getElem? (i := 5) rfl)) rfl), ⟨_, _, rfl⟩, ⟨by decide, by decide, rfl⟩⟩
theorem lk_X3_65 : qcV RX3 65 yX5_digUndreamt 5 0 := ⟨(lwg_of (tb3 (List.mem_of_getElem? (i := 65) rfl)) rfl), (lwg_of (tb2 (List.mem_of_getElem? (i := 153) rfl)) rfl), (lwg_of (tb2 (List.mem_of_getElem? (i := 154) rfl)) rfl), (lwg_of (tb1 (List.mem_of_getElem? (i := 3) rfl)) rfl), ⟨_, _, rfl⟩, ⟨by decide, by decide, rfl⟩⟩
theorem lk_X3_68 : Cond.methodLink RX3 68 arraycopyName ∈ lwg := (lwg_of (tb3 (List.mem_of_getElem? (i := 66) rfl)) rfl)
theorem lk_X3_74 : qcS RX3 74 yJ6_bitCount_0f7a4 1 := ⟨(lwg_of (tb3 (List.mem_of_getElem? (i := 67) rfl)) rfl), (lwg_of (tb2 (List.mem_of_getElem? (i := 209) rfl)) rfl), (lwg_of (tb1 (List.mem_of_getElem? (i := 11) rfl)) rfl), ⟨by decide, by decide, rfl⟩⟩
theorem lk_X3_79 : qcV RX3 79 yX5_endYear 5 0 := ⟨(lwg_of (tb3 (List.mem_of_getElem? (i := 68) rfl)) rfl), (lwg_of (tb2 (List.mem_of_getElem? (i := 187) rfl)) rfl), (lwg_of (tb2 (List.mem_of_getElem? (i := 188) rfl)) rfl), (lwg_of (tb1 (List.mem_of_getElem? (i := 3) rfl)) rfl), ⟨_, _, rfl⟩, ⟨by decide, by decide, rfl⟩⟩
theorem lk_X3_82 : qcV RX3 82 yX5_memoryOf 5 2 := ⟨(lwg_of (tb3 (List.mem_of_getElem? (i := 82) rfl)) rfl), (lwg_of (tb2 (List.mem_of_getElem? (i := 228) rfl)) rfl), (lwg_of (tb2 (List.mem_of_getElem? (i := 229) rfl)) rfl), (lwg_of (tb1 (List.mem_of_getElem? (i := 3) rfl)) rfl), ⟨_, _, rfl⟩, ⟨by decide, by decide, rfl⟩⟩
theorem fl_X3_86 : qfl RX3 86 5 1 .int false := ⟨RX5, TX5, 10, tyX5, rfl, by decide, iw_X5, tyX5_ok, nmX5, (lwg_of (tb1 (List.mem_of_getElem? (i := 39) rfl)) rfl), rfl, rfl, rfl⟩
theorem lk_X3_89 : qcV RX3 89 yX5_faded 5 1 := ⟨(lwg_of (tb3 (List.mem_of_getElem? (i := 83) rfl)) rfl), (lwg_of (tb2 (List.mem_of_getElem? (i := 195) rfl)) rfl), (lwg_of (tb2 (List.mem_of_getElem? (i := 196) rfl)) rfl), (lwg_of (tb1 (List.mem_of_getElem? (i := 3) rfl)) rfl), ⟨_, _, rfl⟩, ⟨by decide, by decide, rfl⟩⟩
theorem fl_X3_92 : qfl RX3 92 5 8 (.array .int) true := ⟨RX5, TX5, 10, tyX5, rfl, by decide, iw_X5, tyX5_ok, nmX5, (lwg_of (tb1 (List.mem_of_getElem? (i := 61) rfl)) rfl), rfl, rfl, rfl⟩
theorem lk_X3_95 : qcS RX3 95 yX3_goesAsTold 4 := ⟨(lwg_of (tb3 (List.mem_of_getElem? (i := 101) rfl)) rfl), (lwg_of (tb3 (List.mem_of_getElem? (i := 102) rfl)) rfl), (lwg_of (tb1 (List.mem_of_getElem? (i := 5) rfl)) rfl), ⟨by decide, by decide, rfl⟩⟩
theorem lk_X3_99 : qcV RX3 99 yX5_remember 5 3 := ⟨(lwg_of (tb3 (List.mem_of_getElem? (i := 113) rfl)) rfl), (lwg_of (tb2 (List.mem_of_getElem? (i := 102) rfl)) rfl), (lwg_of (tb2 (List.mem_of_getElem? (i := 103) rfl)) rfl), (lwg_of (tb1 (List.mem_of_getElem? (i := 3) rfl)) rfl), ⟨_, _, rfl⟩, ⟨by decide, by decide, rfl⟩⟩
theorem lk_X3_103 : qcV RX3 103 yX2_holds 2 2 := ⟨(lwg_of (tb3 (List.mem_of_getElem? (i := 104) rfl)) rfl), (lwg_of (tb2 (List.mem_of_getElem? (i := 18) rfl)) rfl), (lwg_of (tb2 (List.mem_of_getElem? (i := 19) rfl)) rfl), (lwg_of (tb1 (List.mem_of_getElem? (i := 7) rfl)) rfl), ⟨_, _, rfl⟩, ⟨by decide, by decide, rfl⟩⟩
theorem fl_X3_108 : qfl RX3 108 2 2 (.array .int) true := ⟨RX2, TX2, 3, tyX2, rfl, by decide, iw_X2, tyX2_ok, nmX2, (lwg_of (tb1 (List.mem_of_getElem? (i := 188) rfl)) rfl), rfl, rfl, rfl⟩
theorem lk_X3_111 : qcV RX3 111 yX5_inNeed 5 0 := ⟨(lwg_of (tb3 (List.mem_of_getElem? (i := 122) rfl)) rfl), (lwg_of (tb3 (List.mem_of_getElem? (i := 123) rfl)) rfl), (lwg_of (tb3 (List.mem_of_getElem? (i := 124) rfl)) rfl), (lwg_of (tb1 (List.mem_of_getElem? (i := 3) rfl)) rfl), ⟨_, _, rfl⟩, ⟨by decide, by decide, rfl⟩⟩
theorem lk_X3_115 : qcV RX3 115 yX5_dreamersOf 5 1 := ⟨(lwg_of (tb3 (List.mem_of_getElem? (i := 136) rfl)) rfl), (lwg_of (tb3 (List.mem_of_getElem? (i := 14) rfl)) rfl), (lwg_of (tb3 (List.mem_of_getElem? (i := 15) rfl)) rfl), (lwg_of (tb1 (List.mem_of_getElem? (i := 3) rfl)) rfl), ⟨_, _, rfl⟩, ⟨by decide, by decide, rfl⟩⟩
theorem lk_X3_118 : Cond.constantLong RX3 118 (10) ∈ lwg := (lwg_of (tb3 (List.mem_of_getElem? (i := 137) rfl)) rfl)
theorem lk_X3_120 : qcS RX3 120 yX3_commonDivisor 2 := ⟨(lwg_of (tb3 (List.mem_of_getElem? (i := 138) rfl)) rfl), (lwg_of (tb3 (List.mem_of_getElem? (i := 139) rfl)) rfl), (lwg_of (tb1 (List.mem_of_getElem? (i := 5) rfl)) rfl), ⟨by decide, by decide, rfl⟩⟩
theorem lk_X3_124 : Cond.constantLong RX3 124 (16807) ∈ lwg := (lwg_of (tb3 (List.mem_of_getElem? (i := 150) rfl)) rfl)
theorem lk_X3_126 : Cond.constantLong RX3 126 (2147483647) ∈ lwg := (lwg_of (tb3 (List.mem_of_getElem? (i := 151) rfl)) rfl)
theorem lk_X3_128 : Cond.constantLong RX3 128 (5) ∈ lwg := (lwg_of (tb3 (List.mem_of_getElem? (i := 152) rfl)) rfl)
theorem lk_X3_130 : Cond.constantLong RX3 130 (3) ∈ lwg := (lwg_of (tb3 (List.mem_of_getElem? (i := 153) rfl)) rfl)
theorem fl_X3_132 : qfl RX3 132 5 7 .int false := ⟨RX5, TX5, 10, tyX5, rfl, by decide, iw_X5, tyX5_ok, nmX5, (lwg_of (tb1 (List.mem_of_getElem? (i := 57) rfl)) rfl), rfl, rfl, rfl⟩
theorem lk_X4_11 : qcIN RX4 11 yX5_init 0 := ⟨⟨"DreamGraves", List.mem_filter.mpr ⟨tc1 (List.mem_of_getElem? (i := 30) rfl), rfl⟩⟩, (lwg_of (tb1 (List.mem_of_getElem? (i := 31) rfl)) rfl), (lwg_of (tb1 (List.mem_of_getElem? (i := 3) rfl)) rfl), rfl, ⟨by decide, by decide, rfl⟩⟩
theorem fl_X4_12 : qfl RX4 12 4 0 (.object "DreamGraves$Yard") true := ⟨RX4, TX4, 9, tyX4, rfl, by decide, iw_X4, tyX4_ok, nmX4, (lwg_of (tb1 (List.mem_of_getElem? (i := 86) rfl)) rfl), rfl, rfl, rfl⟩
theorem fl_X4_18 : qfl RX4 18 4 3 (.array .int) true := ⟨RX4, TX4, 9, tyX4, rfl, by decide, iw_X4, tyX4_ok, nmX4, (lwg_of (tb1 (List.mem_of_getElem? (i := 92) rfl)) rfl), rfl, rfl, rfl⟩
theorem fl_X4_22 : qfl RX4 22 4 1 .int false := ⟨RX4, TX4, 9, tyX4, rfl, by decide, iw_X4, tyX4_ok, nmX4, (lwg_of (tb1 (List.mem_of_getElem? (i := 88) rfl)) rfl), rfl, rfl, rfl⟩
theorem lk_X4_26 : qcV RX4 26 yX5_clear 5 0 := ⟨(lwg_of (tb2 (List.mem_of_getElem? (i := 55) rfl)) rfl), (lwg_of (tb2 (List.mem_of_getElem? (i := 56) rfl)) rfl), (lwg_of (tb2 (List.mem_of_getElem? (i := 57) rfl)) rfl), (lwg_of (tb1 (List.mem_of_getElem? (i := 3) rfl)) rfl), ⟨_, _, rfl⟩, ⟨by decide, by decide, rfl⟩⟩
theorem fl_X4_29 : qfl RX4 29 4 5 .int false := ⟨RX4, TX4, 9, tyX4, rfl, by decide, iw_X4, tyX4_ok, nmX4, (lwg_of (tb1 (List.mem_of_getElem? (i := 94) rfl)) rfl), rfl, rfl, rfl⟩
theorem lk_X4_32 : qcV RX4 32 yX4_nextToken 4 0 := ⟨(lwg_of (tb2 (List.mem_of_getElem? (i := 60) rfl)) rfl), (lwg_of (tb2 (List.mem_of_getElem? (i := 62) rfl)) rfl), (lwg_of (tb0 (List.mem_of_getElem? (i := 2) rfl)) rfl), (lwg_of (tb1 (List.mem_of_getElem? (i := 2) rfl)) rfl), ⟨_, _, rfl⟩, ⟨by decide, by decide, rfl⟩⟩
theorem lk_X4_35 : qcV RX4 35 yX4_readLaw 4 0 := ⟨(lwg_of (tb2 (List.mem_of_getElem? (i := 71) rfl)) rfl), (lwg_of (tb2 (List.mem_of_getElem? (i := 73) rfl)) rfl), (lwg_of (tb0 (List.mem_of_getElem? (i := 4) rfl)) rfl), (lwg_of (tb1 (List.mem_of_getElem? (i := 2) rfl)) rfl), ⟨_, _, rfl⟩, ⟨by decide, by decide, rfl⟩⟩
theorem lk_X4_39 : qcV RX4 39 yX4_readSleepers 4 0 := ⟨(lwg_of (tb2 (List.mem_of_getElem? (i := 90) rfl)) rfl), (lwg_of (tb2 (List.mem_of_getElem? (i := 92) rfl)) rfl), (lwg_of (tb0 (List.mem_of_getElem? (i := 8) rfl)) rfl), (lwg_of (tb1 (List.mem_of_getElem? (i := 2) rfl)) rfl), ⟨_, _, rfl⟩, ⟨by decide, by decide, rfl⟩⟩
theorem fl_X4_42 : qfl RX4 42 4 4 .int false := ⟨RX4, TX4, 9, tyX4, rfl, by decide, iw_X4, tyX4_ok, nmX4, (lwg_of (tb1 (List.mem_of_getElem? (i := 93) rfl)) rfl), rfl, rfl, rfl⟩
theorem lk_X4_45 : qcV RX4 45 yX4_takeSign 4 1 := ⟨(lwg_of (tb2 (List.mem_of_getElem? (i := 75) rfl)) rfl), (lwg_of (tb2 (List.mem_of_getElem? (i := 77) rfl)) rfl), (lwg_of (tb0 (List.mem_of_getElem? (i := 5) rfl)) rfl), (lwg_of (tb1 (List.mem_of_getElem? (i := 2) rfl)) rfl), ⟨_, _, rfl⟩, ⟨by decide, by decide, rfl⟩⟩
theorem lk_X4_49 : qcV RX4 49 yX4_takeNumber 4 2 := ⟨(lwg_of (tb2 (List.mem_of_getElem? (i := 83) rfl)) rfl), (lwg_of (tb2 (List.mem_of_getElem? (i := 85) rfl)) rfl), (lwg_of (tb0 (List.mem_of_getElem? (i := 7) rfl)) rfl), (lwg_of (tb1 (List.mem_of_getElem? (i := 2) rfl)) rfl), ⟨_, _, rfl⟩, ⟨by decide, by decide, rfl⟩⟩
theorem fl_X4_53 : qfl RX4 53 4 8 .int false := ⟨RX4, TX4, 9, tyX4, rfl, by decide, iw_X4, tyX4_ok, nmX4, (lwg_of (tb1 (List.mem_of_getElem? (i := 97) rfl)) rfl), rfl, rfl, rfl⟩
theorem fl_X4_56 : qfl RX4 56 5 0 .int false := ⟨RX5, TX5, 10, tyX5, rfl, by decide, iw_X5, tyX5_ok, nmX5, (lwg_of (tb1 (List.mem_of_getElem? (i := 35) rfl)) rfl), rfl, rfl, rfl⟩
theorem lk_X4_59 : qcSN RX4 59 yX6_bit 1 := ⟨⟨"DreamGraves", List.mem_filter.mpr ⟨tc2 (List.mem_of_getElem? (i := 87) rfl), rfl⟩⟩, (lwg_of (tb2 (List.mem_of_getElem? (i := 88) rfl)) rfl), (lwg_of (tb1 (List.mem_of_getElem? (i := 1) rfl)) rfl), ⟨by decide, by decide, rfl⟩⟩
theorem fl_X4_63 : qfl RX4 63 5 5 .int false := ⟨RX5, TX5, 10, tyX5, rfl, by decide, iw_X5, tyX5_ok, nmX5, (lwg_of (tb1 (List.mem_of_getElem? (i := 50) rfl)) rfl), rfl, rfl, rfl⟩
theorem fl_X4_66 : qfl RX4 66 5 1 .int false := ⟨RX5, TX5, 10, tyX5, rfl, by decide, iw_X5, tyX5_ok, nmX5, (lwg_of (tb1 (List.mem_of_getElem? (i := 38) rfl)) rfl), rfl, rfl, rfl⟩
theorem fl_X4_69 : qfl RX4 69 5 2 .int false := ⟨RX5, TX5, 10, tyX5, rfl, by decide, iw_X5, tyX5_ok, nmX5, (lwg_of (tb1 (List.mem_of_getElem? (i := 41) rfl)) rfl), rfl, rfl, rfl⟩
theorem fl_X4_72 : qfl RX4 72 4 6 .int false := ⟨RX4, TX4, 9, tyX4, rfl, by decide, iw_X4, tyX4_ok, nmX4, (lwg_of (tb1 (List.mem_of_getElem? (i := 95) rfl)) rfl), rfl, rfl, rfl⟩
theorem lk_X4_75 : qcV RX4 75 yX4_readSleeper 4 1 := ⟨(lwg_of (tb2 (List.mem_of_getElem? (i := 94) rfl)) rfl), (lwg_of (tb2 (List.mem_of_getElem? (i := 96) rfl)) rfl), (lwg_of (tb0 (List.mem_of_getElem? (i := 9) rfl)) rfl), (lwg_of (tb1 (List.mem_of_getElem? (i := 2) rfl)) rfl), ⟨_, _, rfl⟩, ⟨by decide, by decide, rfl⟩⟩
theorem lk_X4_78 : qcS RX4 78 yX4_kindTold 1 := ⟨(lwg_of (tb2 (List.mem_of_getElem? (i := 98) rfl)) rfl), (lwg_of (tb2 (List.mem_of_getElem? (i := 99) rfl)) rfl), (lwg_of (tb1 (List.mem_of_getElem? (i := 2) rfl)) rfl), ⟨by decide, by decide, rfl⟩⟩
theorem lk_X4_81 : qcV RX4 81 yX4_fail 4 1 := ⟨(lwg_of (tb2 (List.mem_of_getElem? (i := 79) rfl)) rfl), (lwg_of (tb2 (List.mem_of_getElem? (i := 81) rfl)) rfl), (lwg_of (tb0 (List.mem_of_getElem? (i := 6) rfl)) rfl), (lwg_of (tb1 (List.mem_of_getElem? (i := 2) rfl)) rfl), ⟨_, _, rfl⟩, ⟨by decide, by decide, rfl⟩⟩
theorem fl_X4_84 : qfl RX4 84 5 8 (.array .int) true := ⟨RX5, TX5, 10, tyX5, rfl, by decide, iw_X5, tyX5_ok, nmX5, (lwg_of (tb1 (List.mem_of_getElem? (i := 60) rfl)) rfl), rfl, rfl, rfl⟩
theorem fl_X4_87 : qfl RX4 87 5 3 .int false := ⟨RX5, TX5, 10, tyX5, rfl, by decide, iw_X5, tyX5_ok, nmX5, (lwg_of (tb1 (List.mem_of_getElem? (i := 44) rfl)) rfl), rfl, rfl, rfl⟩
theorem lk_X4_90 : qcV RX4 90 yX5_remember 5 3 := ⟨(lwg_of (tb2 (List.mem_of_getElem? (i := 101) rfl)) rfl), (lwg_of (tb2 (List.mem_of_getElem? (i := 102) rfl)) rfl), (lwg_of (tb2 (List.mem_of_getElem? (i := 103) rfl)) rfl), (lwg_of (tb1 (List.mem_of_getElem? (i := 3) rfl)) rfl), ⟨_, _, rfl⟩, ⟨by decide, by decide, rfl⟩⟩
theorem fl_X4_94 : qfl RX4 94 4 2 .int false := ⟨RX4, TX4, 9, tyX4, rfl, by decide, iw_X4, tyX4_ok, nmX4, (lwg_of (tb1 (List.mem_of_getElem? (i := 90) rfl)) rfl), rfl, rfl, rfl⟩
theorem fl_X4_97 : qfl RX4 97 4 7 .int false := ⟨RX4, TX4, 9, tyX4, rfl, by decide, iw_X4, tyX4_ok, nmX4, (lwg_of (tb1 (List.mem_of_getElem? (i := 96) rfl)) rfl), rfl, rfl, rfl⟩
theorem lk_X4_100 : qcS RX4 100 yX4_isFigure 1 := ⟨(lwg_of (tb2 (List.mem_of_getElem? (i := 64) rfl)) rfl), (lwg_of (tb2 (List.mem_of_getElem? (i := 65) rfl)) rfl), (lwg_of (tb1 (List.mem_of_getElem? (i := 2) rfl)) rfl), ⟨by decide, by decide, rfl⟩⟩
theorem lk_X4_103 : qcV RX4 103 yX4_takeFigures 4 0 := ⟨(lwg_of (tb2 (List.mem_of_getElem? (i := 67) rfl)) rfl), (lwg_of (tb2 (List.mem_of_getElem? (i := 69) rfl)) rfl), (lwg_of (tb0 (List.mem_of_getElem? (i := 3) rfl)) rfl), (lwg_of (tb1 (List.mem_of_getElem? (i := 2) rfl)) rfl), ⟨_, _, rfl⟩, ⟨by decide, by decide, rfl⟩⟩
theorem fl_X5_9 : qfl RX5 9 5 8 (.array .int) true := ⟨RX5, TX5, 10, tyX5, rfl, by decide, iw_X5, tyX5_ok, nmX5, (lwg_of (tb1 (List.mem_of_getElem? (i := 58) rfl)) rfl), rfl, rfl, rfl⟩
theorem fl_X5_15 : qfl RX5 15 5 9 (.array .int) true := ⟨RX5, TX5, 10, tyX5, rfl, by decide, iw_X5, tyX5_ok, nmX5, (lwg_of (tb1 (List.mem_of_getElem? (i := 63) rfl)) rfl), rfl, rfl, rfl⟩
theorem fl_X5_18 : qfl RX5 18 5 0 .int false := ⟨RX5, TX5, 10, tyX5, rfl, by decide, iw_X5, tyX5_ok, nmX5, (lwg_of (tb1 (List.mem_of_getElem? (i := 34) rfl)) rfl), rfl, rfl, rfl⟩
theorem fl_X5_22 : qfl RX5 22 5 1 .int false := ⟨RX5, TX5, 10, tyX5, rfl, by decide, iw_X5, tyX5_ok, nmX5, (lwg_of (tb1 (List.mem_of_getElem? (i := 37) rfl)) rfl), rfl, rfl, rfl⟩
theorem fl_X5_25 : qfl RX5 25 5 2 .int false := ⟨RX5, TX5, 10, tyX5, rfl, by decide, iw_X5, tyX5_ok, nmX5, (lwg_of (tb1 (List.mem_of_getElem? (i := 40) rfl)) rfl), rfl, rfl, rfl⟩
theorem fl_X5_28 : qfl RX5 28 5 3 .int false := ⟨RX5, TX5, 10, tyX5, rfl, by decide, iw_X5, tyX5_ok, nmX5, (lwg_of (tb1 (List.mem_of_getElem? (i := 42) rfl)) rfl), rfl, rfl, rfl⟩
theorem fl_X5_31 : qfl RX5 31 5 4 .int false := ⟨RX5, TX5, 10, tyX5, rfl, by decide, iw_X5, tyX5_ok, nmX5, (lwg_of (tb1 (List.mem_of_getElem? (i := 46) rfl)) rfl), rfl, rfl, rfl⟩
theorem fl_X5_34 : qfl RX5 34 5 5 .int false := ⟨RX5, TX5, 10, tyX5, rfl, by decide, iw_X5, tyX5_ok, nmX5, (lwg_of (tb1 (List.mem_of_getElem? (i := 49) rfl)) rfl), rfl, rfl, rfl⟩
theorem fl_X5_37 : qfl RX5 37 5 6 .int false := ⟨RX5, TX5, 10, tyX5, rfl, by decide, iw_X5, tyX5_ok, nmX5, (lwg_of (tb1 (List.mem_of_getElem? (i := 52) rfl)) rfl), rfl, rfl, rfl⟩
theorem fl_X5_40 : qfl RX5 40 5 7 .int false := ⟨RX5, TX5, 10, tyX5, rfl, by decide, iw_X5, tyX5_ok, nmX5, (lwg_of (tb1 (List.mem_of_getElem? (i := 55) rfl)) rfl), rfl, rfl, rfl⟩
theorem lk_X5_43 : qcS RX5 43 yJ7_fill_53178 2 := ⟨(lwg_of (tb2 (List.mem_of_getElem? (i := 59) rfl)) rfl), (lwg_of (tb1 (List.mem_of_getElem? (i := 239) rfl)) rfl), (lwg_of (tb1 (List.mem_of_getElem? (i := 9) rfl)) rfl), ⟨by decide, by decide, rfl⟩⟩
theorem lk_X5_49 : Cond.methodLink RX5 49 arraycopyName ∈ lwg := (lwg_of (tb2 (List.mem_of_getElem? (i := 113) rfl)) rfl)
theorem lk_X5_55 : qcS RX5 55 yX5_hasRoom 2 := ⟨(lwg_of (tb2 (List.mem_of_getElem? (i := 105) rfl)) rfl), (lwg_of (tb2 (List.mem_of_getElem? (i := 106) rfl)) rfl), (lwg_of (tb1 (List.mem_of_getElem? (i := 3) rfl)) rfl), ⟨by decide, by decide, rfl⟩⟩
theorem lk_X5_59 : qcV RX5 59 yX5_memoryOf 5 2 := ⟨(lwg_of (tb3 (List.mem_of_getElem? (i := 4) rfl)) rfl), (lwg_of (tb2 (List.mem_of_getElem? (i := 228) rfl)) rfl), (lwg_of (tb2 (List.mem_of_getElem? (i := 229) rfl)) rfl), (lwg_of (tb1 (List.mem_of_getElem? (i := 3) rfl)) rfl), ⟨_, _, rfl⟩, ⟨by decide, by decide, rfl⟩⟩
theorem lk_X5_63 : qcV RX5 63 yX5_allMemoryOf 5 1 := ⟨(lwg_of (tb3 (List.mem_of_getElem? (i := 158) rfl)) rfl), (lwg_of (tb3 (List.mem_of_getElem? (i := 1) rfl)) rfl), (lwg_of (tb3 (List.mem_of_getElem? (i := 2) rfl)) rfl), (lwg_of (tb1 (List.mem_of_getElem? (i := 3) rfl)) rfl), ⟨_, _, rfl⟩, ⟨by decide, by decide, rfl⟩⟩
theorem lk_X5_67 : Cond.constant RX5 67 (-1000000) ∈ lwg := (lwg_of (tb2 (List.mem_of_getElem? (i := 172) rfl)) rfl)
theorem lk_X5_68 : qcSN RX5 68 yX6_hasBit 2 := ⟨⟨"DreamGraves", List.mem_filter.mpr ⟨tc2 (List.mem_of_getElem? (i := 160) rfl), rfl⟩⟩, (lwg_of (tb2 (List.mem_of_getElem? (i := 161) rfl)) rfl), (lwg_of (tb1 (List.mem_of_getElem? (i := 1) rfl)) rfl), ⟨by decide, by decide, rfl⟩⟩
theorem lk_X5_71 : qcV RX5 71 yX5_rememberedBy 5 1 := ⟨(lwg_of (tb2 (List.mem_of_getElem? (i := 163) rfl)) rfl), (lwg_of (tb2 (List.mem_of_getElem? (i := 165) rfl)) rfl), (lwg_of (tb0 (List.mem_of_getElem? (i := 11) rfl)) rfl), (lwg_of (tb1 (List.mem_of_getElem? (i := 3) rfl)) rfl), ⟨_, _, rfl⟩, ⟨by decide, by decide, rfl⟩⟩
theorem lk_X5_74 : qcV RX5 74 yX5_clearest 5 3 := ⟨(lwg_of (tb2 (List.mem_of_getElem? (i := 168) rfl)) rfl), (lwg_of (tb2 (List.mem_of_getElem? (i := 169) rfl)) rfl), (lwg_of (tb2 (List.mem_of_getElem? (i := 170) rfl)) rfl), (lwg_of (tb1 (List.mem_of_getElem? (i := 3) rfl)) rfl), ⟨_, _, rfl⟩, ⟨by decide, by decide, rfl⟩⟩
theorem lk_X5_78 : qcSN RX5 78 yX6_bit 1 := ⟨⟨"DreamGraves", List.mem_filter.mpr ⟨tc2 (List.mem_of_getElem? (i := 167) rfl), rfl⟩⟩, (lwg_of (tb2 (List.mem_of_getElem? (i := 88) rfl)) rfl), (lwg_of (tb1 (List.mem_of_getElem? (i := 1) rfl)) rfl), ⟨by decide, by decide, rfl⟩⟩
theorem lk_X5_81 : qcV RX5 81 yX5_nextBehind 5 1 := ⟨(lwg_of (tb2 (List.mem_of_getElem? (i := 173) rfl)) rfl), (lwg_of (tb2 (List.mem_of_getElem? (i := 175) rfl)) rfl), (lwg_of (tb0 (List.mem_of_getElem? (i := 12) rfl)) rfl), (lwg_of (tb1 (List.mem_of_getElem? (i := 3) rfl)) rfl), ⟨_, _, rfl⟩, ⟨by decide, by decide, rfl⟩⟩
theorem lk_X5_84 : qcV RX5 84 yX5_graveOfYear 5 0 := ⟨(lwg_of (tb2 (List.mem_of_getElem? (i := 177) rfl)) rfl), (lwg_of (tb2 (List.mem_of_getElem? (i := 179) rfl)) rfl), (lwg_of (tb0 (List.mem_of_getElem? (i := 13) rfl)) rfl), (lwg_of (tb1 (List.mem_of_getElem? (i := 3) rfl)) rfl), ⟨_, _, rfl⟩, ⟨by decide, by decide, rfl⟩⟩
theorem lk_X5_88 : qcV RX5 88 yX5_dreamsOf 5 1 := ⟨(lwg_of (tb2 (List.mem_of_getElem? (i := 156) rfl)) rfl), (lwg_of (tb2 (List.mem_of_getElem? (i := 157) rfl)) rfl), (lwg_of (tb2 (List.mem_of_getElem? (i := 158) rfl)) rfl), (lwg_of (tb1 (List.mem_of_getElem? (i := 3) rfl)) rfl), ⟨_, _, rfl⟩, ⟨by decide, by decide, rfl⟩⟩
theorem lk_X5_91 : qcV RX5 91 yX5_digUndreamt 5 0 := ⟨(lwg_of (tb2 (List.mem_of_getElem? (i := 152) rfl)) rfl), (lwg_of (tb2 (List.mem_of_getElem? (i := 153) rfl)) rfl), (lwg_of (tb2 (List.mem_of_getElem? (i := 154) rfl)) rfl), (lwg_of (tb1 (List.mem_of_getElem? (i := 3) rfl)) rfl), ⟨_, _, rfl⟩, ⟨by decide, by decide, rfl⟩⟩
theorem lk_X5_94 : qcV RX5 94 yX5_endYear 5 0 := ⟨(lwg_of (tb2 (List.mem_of_getElem? (i := 186) rfl)) rfl), (lwg_of (tb2 (List.mem_of_getElem? (i := 187) rfl)) rfl), (lwg_of (tb2 (List.mem_of_getElem? (i := 188) rfl)) rfl), (lwg_of (tb1 (List.mem_of_getElem? (i := 3) rfl)) rfl), ⟨_, _, rfl⟩, ⟨by decide, by decide, rfl⟩⟩
theorem lk_X5_97 : qcV RX5 97 yX5_forgetByAll 5 1 := ⟨(lwg_of (tb2 (List.mem_of_getElem? (i := 181) rfl)) rfl), (lwg_of (tb2 (List.mem_of_getElem? (i := 183) rfl)) rfl), (lwg_of (tb0 (List.mem_of_getElem? (i := 14) rfl)) rfl), (lwg_of (tb1 (List.mem_of_getElem? (i := 3) rfl)) rfl), ⟨_, _, rfl⟩, ⟨by decide, by decide, rfl⟩⟩
theorem lk_X5_101 : qcV RX5 101 yX5_remember 5 3 := ⟨(lwg_of (tb2 (List.mem_of_getElem? (i := 185) rfl)) rfl), (lwg_of (tb2 (List.mem_of_getElem? (i := 102) rfl)) rfl), (lwg_of (tb2 (List.mem_of_getElem? (i := 103) rfl)) rfl), (lwg_of (tb1 (List.mem_of_getElem? (i := 3) rfl)) rfl), ⟨_, _, rfl⟩, ⟨by decide, by decide, rfl⟩⟩
theorem lk_X5_105 : qcV RX5 105 yX5_fadeFor 5 1 := ⟨(lwg_of (tb2 (List.mem_of_getElem? (i := 190) rfl)) rfl), (lwg_of (tb2 (List.mem_of_getElem? (i := 192) rfl)) rfl), (lwg_of (tb0 (List.mem_of_getElem? (i := 15) rfl)) rfl), (lwg_of (tb1 (List.mem_of_getElem? (i := 3) rfl)) rfl), ⟨_, _, rfl⟩, ⟨by decide, by decide, rfl⟩⟩
theorem lk_X5_108 : qcV RX5 108 yX5_faded 5 1 := ⟨(lwg_of (tb2 (List.mem_of_getElem? (i := 194) rfl)) rfl), (lwg_of (tb2 (List.mem_of_getElem? (i := 195) rfl)) rfl), (lwg_of (tb2 (List.mem_of_getElem? (i := 196) rfl)) rfl), (lwg_of (tb1 (List.mem_of_getElem? (i := 3) rfl)) rfl), ⟨_, _, rfl⟩, ⟨by decide, by decide, rfl⟩⟩
theorem fl_X6_11 : qfl RX6 11 6 0 (.array (.object "DreamGraves$Row")) true := ⟨RX6, TX6, 8, tyX6, rfl, by decide, iw_X6, tyX6_ok, nmX6, (lwg_of (tb1 (List.mem_of_getElem? (i := 196) rfl)) rfl), rfl, rfl, rfl⟩
theorem lk_X6_17 : qcIN RX6 17 yX4_init 0 := ⟨⟨"DreamGraves", List.mem_filter.mpr ⟨tc1 (List.mem_of_getElem? (i := 24) rfl), rfl⟩⟩, (lwg_of (tb1 (List.mem_of_getElem? (i := 25) rfl)) rfl), (lwg_of (tb1 (List.mem_of_getElem? (i := 2) rfl)) rfl), rfl, ⟨by decide, by decide, rfl⟩⟩
theorem fl_X6_18 : qfl RX6 18 6 1 (.object "DreamGraves$Tape") true := ⟨RX6, TX6, 8, tyX6, rfl, by decide, iw_X6, tyX6_ok, nmX6, (lwg_of (tb1 (List.mem_of_getElem? (i := 197) rfl)) rfl), rfl, rfl, rfl⟩
theorem lk_X6_24 : qcIN RX6 24 yX5_init 0 := ⟨⟨"DreamGraves", List.mem_filter.mpr ⟨tc1 (List.mem_of_getElem? (i := 118) rfl), rfl⟩⟩, (lwg_of (tb1 (List.mem_of_getElem? (i := 31) rfl)) rfl), (lwg_of (tb1 (List.mem_of_getElem? (i := 3) rfl)) rfl), rfl, ⟨by decide, by decide, rfl⟩⟩
theorem fl_X6_25 : qfl RX6 25 6 2 (.object "DreamGraves$Yard") true := ⟨RX6, TX6, 8, tyX6, rfl, by decide, iw_X6, tyX6_ok, nmX6, (lwg_of (tb1 (List.mem_of_getElem? (i := 198) rfl)) rfl), rfl, rfl, rfl⟩
theorem lk_X6_31 : qcI RX6 31 yX1_init 0 := ⟨(lwg_of (tb1 (List.mem_of_getElem? (i := 121) rfl)) rfl), (lwg_of (tb1 (List.mem_of_getElem? (i := 122) rfl)) rfl), (lwg_of (tb1 (List.mem_of_getElem? (i := 4) rfl)) rfl), rfl, ⟨by decide, by decide, rfl⟩⟩
theorem fl_X6_32 : qfl RX6 32 6 3 (.object "DreamGraves$Past") true := ⟨RX6, TX6, 8, tyX6, rfl, by decide, iw_X6, tyX6_ok, nmX6, (lwg_of (tb1 (List.mem_of_getElem? (i := 199) rfl)) rfl), rfl, rfl, rfl⟩
theorem fl_X6_36 : qfl RX6 36 6 4 (.array (.object "DreamGraves$Yard")) true := ⟨RX6, TX6, 8, tyX6, rfl, by decide, iw_X6, tyX6_ok, nmX6, (lwg_of (tb1 (List.mem_of_getElem? (i := 200) rfl)) rfl), rfl, rfl, rfl⟩
theorem lk_X6_42 : qcI RX6 42 yX3_init 0 := ⟨(lwg_of (tb1 (List.mem_of_getElem? (i := 141) rfl)) rfl), (lwg_of (tb1 (List.mem_of_getElem? (i := 142) rfl)) rfl), (lwg_of (tb1 (List.mem_of_getElem? (i := 5) rfl)) rfl), rfl, ⟨by decide, by decide, rfl⟩⟩
theorem fl_X6_43 : qfl RX6 43 6 5 (.object "DreamGraves$Seer") true := ⟨RX6, TX6, 8, tyX6, rfl, by decide, iw_X6, tyX6_ok, nmX6, (lwg_of (tb1 (List.mem_of_getElem? (i := 201) rfl)) rfl), rfl, rfl, rfl⟩
theorem lk_X6_49 : qcIN RX6 49 yX0_init 0 := ⟨⟨"DreamGraves", List.mem_filter.mpr ⟨tc1 (List.mem_of_getElem? (i := 164) rfl), rfl⟩⟩, (lwg_of (tb1 (List.mem_of_getElem? (i := 165) rfl)) rfl), (lwg_of (tb1 (List.mem_of_getElem? (i := 6) rfl)) rfl), rfl, ⟨by decide, by decide, rfl⟩⟩
theorem fl_X6_50 : qfl RX6 50 6 6 (.object "DreamGraves$Asker") true := ⟨RX6, TX6, 8, tyX6, rfl, by decide, iw_X6, tyX6_ok, nmX6, (lwg_of (tb1 (List.mem_of_getElem? (i := 202) rfl)) rfl), rfl, rfl, rfl⟩
theorem lk_X6_54 : qcIN RX6 54 yX2_init 0 := ⟨⟨"DreamGraves", List.mem_filter.mpr ⟨tc1 (List.mem_of_getElem? (i := 178) rfl), rfl⟩⟩, (lwg_of (tb1 (List.mem_of_getElem? (i := 179) rfl)) rfl), (lwg_of (tb1 (List.mem_of_getElem? (i := 7) rfl)) rfl), rfl, ⟨by decide, by decide, rfl⟩⟩
theorem lk_X6_55 : qcS RX6 55 yX6_isRow 1 := ⟨(lwg_of (tb1 (List.mem_of_getElem? (i := 225) rfl)) rfl), (lwg_of (tb1 (List.mem_of_getElem? (i := 226) rfl)) rfl), (lwg_of (tb1 (List.mem_of_getElem? (i := 1) rfl)) rfl), ⟨by decide, by decide, rfl⟩⟩
theorem lk_X6_59 : Cond.constant RX6 59 (-1000001) ∈ lwg := (lwg_of (tb1 (List.mem_of_getElem? (i := 228) rfl)) rfl)
theorem lk_X6_60 : qcV RX6 60 yX6_found 6 1 := ⟨(lwg_of (tb1 (List.mem_of_getElem? (i := 229) rfl)) rfl), (lwg_of (tb1 (List.mem_of_getElem? (i := 231) rfl)) rfl), (lwg_of (tb0 (List.mem_of_getElem? (i := 0) rfl)) rfl), (lwg_of (tb1 (List.mem_of_getElem? (i := 1) rfl)) rfl), ⟨_, _, rfl⟩, ⟨by decide, by decide, rfl⟩⟩
theorem lk_X6_64 : qcV RX6 64 yX2_lay 2 2 := ⟨(lwg_of (tb1 (List.mem_of_getElem? (i := 234) rfl)) rfl), (lwg_of (tb1 (List.mem_of_getElem? (i := 235) rfl)) rfl), (lwg_of (tb1 (List.mem_of_getElem? (i := 236) rfl)) rfl), (lwg_of (tb1 (List.mem_of_getElem? (i := 7) rfl)) rfl), ⟨_, _, rfl⟩, ⟨by decide, by decide, rfl⟩⟩
theorem lk_X6_68 : qcV RX6 68 yX6_sound 6 1 := ⟨(lwg_of (tb2 (List.mem_of_getElem? (i := 1) rfl)) rfl), (lwg_of (tb2 (List.mem_of_getElem? (i := 3) rfl)) rfl), (lwg_of (tb0 (List.mem_of_getElem? (i := 1) rfl)) rfl), (lwg_of (tb1 (List.mem_of_getElem? (i := 1) rfl)) rfl), ⟨_, _, rfl⟩, ⟨by decide, by decide, rfl⟩⟩
theorem lk_X6_71 : qcV RX6 71 yX2_findingAt 2 2 := ⟨(lwg_of (tb2 (List.mem_of_getElem? (i := 9) rfl)) rfl), (lwg_of (tb2 (List.mem_of_getElem? (i := 10) rfl)) rfl), (lwg_of (tb2 (List.mem_of_getElem? (i := 11) rfl)) rfl), (lwg_of (tb1 (List.mem_of_getElem? (i := 7) rfl)) rfl), ⟨_, _, rfl⟩, ⟨by decide, by decide, rfl⟩⟩
theorem lk_X6_75 : qcV RX6 75 yX2_put 2 2 := ⟨(lwg_of (tb2 (List.mem_of_getElem? (i := 21) rfl)) rfl), (lwg_of (tb2 (List.mem_of_getElem? (i := 22) rfl)) rfl), (lwg_of (tb2 (List.mem_of_getElem? (i := 23) rfl)) rfl), (lwg_of (tb1 (List.mem_of_getElem? (i := 7) rfl)) rfl), ⟨_, _, rfl⟩, ⟨by decide, by decide, rfl⟩⟩
theorem lk_X6_78 : qcV RX6 78 yX2_isMissing 2 0 := ⟨(lwg_of (tb2 (List.mem_of_getElem? (i := 29) rfl)) rfl), (lwg_of (tb2 (List.mem_of_getElem? (i := 14) rfl)) rfl), (lwg_of (tb2 (List.mem_of_getElem? (i := 15) rfl)) rfl), (lwg_of (tb1 (List.mem_of_getElem? (i := 7) rfl)) rfl), ⟨_, _, rfl⟩, ⟨by decide, by decide, rfl⟩⟩
theorem fl_X6_82 : qfl RX6 82 2 0 .int false := ⟨RX2, TX2, 3, tyX2, rfl, by decide, iw_X2, tyX2_ok, nmX2, (lwg_of (tb1 (List.mem_of_getElem? (i := 183) rfl)) rfl), rfl, rfl, rfl⟩
theorem lk_X6_86 : qcV RX6 86 yX2_holds 2 2 := ⟨(lwg_of (tb2 (List.mem_of_getElem? (i := 30) rfl)) rfl), (lwg_of (tb2 (List.mem_of_getElem? (i := 18) rfl)) rfl), (lwg_of (tb2 (List.mem_of_getElem? (i := 19) rfl)) rfl), (lwg_of (tb1 (List.mem_of_getElem? (i := 7) rfl)) rfl), ⟨_, _, rfl⟩, ⟨by decide, by decide, rfl⟩⟩
theorem fl_X6_90 : qfl RX6 90 2 2 (.array .int) true := ⟨RX2, TX2, 3, tyX2, rfl, by decide, iw_X2, tyX2_ok, nmX2, (lwg_of (tb1 (List.mem_of_getElem? (i := 187) rfl)) rfl), rfl, rfl, rfl⟩
theorem lk_X6_94 : Cond.methodLink RX6 94 arraycopyName ∈ lwg := (lwg_of (tb2 (List.mem_of_getElem? (i := 31) rfl)) rfl)
theorem fl_X6_100 : qfl RX6 100 2 1 .int false := ⟨RX2, TX2, 3, tyX2, rfl, by decide, iw_X2, tyX2_ok, nmX2, (lwg_of (tb1 (List.mem_of_getElem? (i := 185) rfl)) rfl), rfl, rfl, rfl⟩
theorem lk_X6_103 : qcV RX6 103 yX4_add 4 1 := ⟨(lwg_of (tb2 (List.mem_of_getElem? (i := 42) rfl)) rfl), (lwg_of (tb2 (List.mem_of_getElem? (i := 43) rfl)) rfl), (lwg_of (tb2 (List.mem_of_getElem? (i := 44) rfl)) rfl), (lwg_of (tb1 (List.mem_of_getElem? (i := 2) rfl)) rfl), ⟨_, _, rfl⟩, ⟨by decide, by decide, rfl⟩⟩
theorem fl_X6_106 : qfl RX6 106 4 1 .int false := ⟨RX4, TX4, 9, tyX4, rfl, by decide, iw_X4, tyX4_ok, nmX4, (lwg_of (tb1 (List.mem_of_getElem? (i := 89) rfl)) rfl), rfl, rfl, rfl⟩
theorem lk_X6_107 : Cond.constant RX6 107 (-1000003) ∈ lwg := (lwg_of (tb2 (List.mem_of_getElem? (i := 46) rfl)) rfl)
theorem lk_X6_108 : qcV RX6 108 yX4_read 4 0 := ⟨(lwg_of (tb2 (List.mem_of_getElem? (i := 51) rfl)) rfl), (lwg_of (tb2 (List.mem_of_getElem? (i := 52) rfl)) rfl), (lwg_of (tb2 (List.mem_of_getElem? (i := 53) rfl)) rfl), (lwg_of (tb1 (List.mem_of_getElem? (i := 2) rfl)) rfl), ⟨_, _, rfl⟩, ⟨by decide, by decide, rfl⟩⟩
theorem lk_X6_112 : Cond.constant RX6 112 (-1000100) ∈ lwg := (lwg_of (tb2 (List.mem_of_getElem? (i := 108) rfl)) rfl)
theorem fl_X6_113 : qfl RX6 113 4 0 (.object "DreamGraves$Yard") true := ⟨RX4, TX4, 9, tyX4, rfl, by decide, iw_X4, tyX4_ok, nmX4, (lwg_of (tb1 (List.mem_of_getElem? (i := 87) rfl)) rfl), rfl, rfl, rfl⟩
theorem lk_X6_116 : qcV RX6 116 yX5_become 5 1 := ⟨(lwg_of (tb2 (List.mem_of_getElem? (i := 109) rfl)) rfl), (lwg_of (tb2 (List.mem_of_getElem? (i := 110) rfl)) rfl), (lwg_of (tb2 (List.mem_of_getElem? (i := 111) rfl)) rfl), (lwg_of (tb1 (List.mem_of_getElem? (i := 3) rfl)) rfl), ⟨_, _, rfl⟩, ⟨by decide, by decide, rfl⟩⟩
theorem lk_X6_120 : qcV RX6 120 yX1_clear 1 0 := ⟨(lwg_of (tb2 (List.mem_of_getElem? (i := 114) rfl)) rfl), (lwg_of (tb2 (List.mem_of_getElem? (i := 115) rfl)) rfl), (lwg_of (tb2 (List.mem_of_getElem? (i := 116) rfl)) rfl), (lwg_of (tb1 (List.mem_of_getElem? (i := 4) rfl)) rfl), ⟨_, _, rfl⟩, ⟨by decide, by decide, rfl⟩⟩
theorem fl_X6_123 : qfl RX6 123 5 3 .int false := ⟨RX5, TX5, 10, tyX5, rfl, by decide, iw_X5, tyX5_ok, nmX5, (lwg_of (tb1 (List.mem_of_getElem? (i := 45) rfl)) rfl), rfl, rfl, rfl⟩
theorem fl_X6_126 : qfl RX6 126 4 2 .int false := ⟨RX4, TX4, 9, tyX4, rfl, by decide, iw_X4, tyX4_ok, nmX4, (lwg_of (tb1 (List.mem_of_getElem? (i := 91) rfl)) rfl), rfl, rfl, rfl⟩
theorem lk_X6_129 : qcV RX6 129 yX1_giveBack 1 1 := ⟨(lwg_of (tb2 (List.mem_of_getElem? (i := 126) rfl)) rfl), (lwg_of (tb2 (List.mem_of_getElem? (i := 127) rfl)) rfl), (lwg_of (tb2 (List.mem_of_getElem? (i := 128) rfl)) rfl), (lwg_of (tb1 (List.mem_of_getElem? (i := 4) rfl)) rfl), ⟨_, _, rfl⟩, ⟨by decide, by decide, rfl⟩⟩
theorem fl_X6_133 : qfl RX6 133 1 0 .int false := ⟨RX1, TX1, 3, tyX1, rfl, by decide, iw_X1, tyX1_ok, nmX1, (lwg_of (tb1 (List.mem_of_getElem? (i := 129) rfl)) rfl), rfl, rfl, rfl⟩
theorem lk_X6_134 : Cond.constant RX6 134 (-1000002) ∈ lwg := (lwg_of (tb2 (List.mem_of_getElem? (i := 131) rfl)) rfl)
theorem lk_X6_135 : qcV RX6 135 yX6_noYard 6 0 := ⟨(lwg_of (tb2 (List.mem_of_getElem? (i := 136) rfl)) rfl), (lwg_of (tb2 (List.mem_of_getElem? (i := 138) rfl)) rfl), (lwg_of (tb0 (List.mem_of_getElem? (i := 10) rfl)) rfl), (lwg_of (tb1 (List.mem_of_getElem? (i := 1) rfl)) rfl), ⟨_, _, rfl⟩, ⟨by decide, by decide, rfl⟩⟩
theorem fl_X6_138 : qfl RX6 138 5 4 .int false := ⟨RX5, TX5, 10, tyX5, rfl, by decide, iw_X5, tyX5_ok, nmX5, (lwg_of (tb1 (List.mem_of_getElem? (i := 47) rfl)) rfl), rfl, rfl, rfl⟩
theorem lk_X6_141 : qcV RX6 141 yX1_keep 1 1 := ⟨(lwg_of (tb2 (List.mem_of_getElem? (i := 144) rfl)) rfl), (lwg_of (tb2 (List.mem_of_getElem? (i := 145) rfl)) rfl), (lwg_of (tb2 (List.mem_of_getElem? (i := 146) rfl)) rfl), (lwg_of (tb1 (List.mem_of_getElem? (i := 4) rfl)) rfl), ⟨_, _, rfl⟩, ⟨by decide, by decide, rfl⟩⟩
theorem lk_X6_144 : qcV RX6 144 yX5_pass 5 0 := ⟨(lwg_of (tb2 (List.mem_of_getElem? (i := 148) rfl)) rfl), (lwg_of (tb2 (List.mem_of_getElem? (i := 149) rfl)) rfl), (lwg_of (tb2 (List.mem_of_getElem? (i := 150) rfl)) rfl), (lwg_of (tb1 (List.mem_of_getElem? (i := 3) rfl)) rfl), ⟨_, _, rfl⟩, ⟨by decide, by decide, rfl⟩⟩
theorem fl_X6_147 : qfl RX6 147 5 5 .int false := ⟨RX5, TX5, 10, tyX5, rfl, by decide, iw_X5, tyX5_ok, nmX5, (lwg_of (tb1 (List.mem_of_getElem? (i := 51) rfl)) rfl), rfl, rfl, rfl⟩
theorem lk_X6_150 : qcV RX6 150 yX6_isSleeper 6 1 := ⟨(lwg_of (tb2 (List.mem_of_getElem? (i := 202) rfl)) rfl), (lwg_of (tb2 (List.mem_of_getElem? (i := 204) rfl)) rfl), (lwg_of (tb0 (List.mem_of_getElem? (i := 16) rfl)) rfl), (lwg_of (tb1 (List.mem_of_getElem? (i := 1) rfl)) rfl), ⟨_, _, rfl⟩, ⟨by decide, by decide, rfl⟩⟩
theorem fl_X6_153 : qfl RX6 153 5 6 .int false := ⟨RX5, TX5, 10, tyX5, rfl, by decide, iw_X5, tyX5_ok, nmX5, (lwg_of (tb1 (List.mem_of_getElem? (i := 54) rfl)) rfl), rfl, rfl, rfl⟩
theorem lk_X6_156 : qcS RX6 156 yX6_hasBit 2 := ⟨(lwg_of (tb2 (List.mem_of_getElem? (i := 206) rfl)) rfl), (lwg_of (tb2 (List.mem_of_getElem? (i := 161) rfl)) rfl), (lwg_of (tb1 (List.mem_of_getElem? (i := 1) rfl)) rfl), ⟨by decide, by decide, rfl⟩⟩
theorem lk_X6_159 : qcS RX6 159 yX6_bit 1 := ⟨(lwg_of (tb2 (List.mem_of_getElem? (i := 207) rfl)) rfl), (lwg_of (tb2 (List.mem_of_getElem? (i := 88) rfl)) rfl), (lwg_of (tb1 (List.mem_of_getElem? (i := 1) rfl)) rfl), ⟨by decide, by decide, rfl⟩⟩
theorem lk_X6_162 : qcS RX6 162 yJ6_bitCount_0f7a4 1 := ⟨(lwg_of (tb2 (List.mem_of_getElem? (i := 208) rfl)) rfl), (lwg_of (tb2 (List.mem_of_getElem? (i := 209) rfl)) rfl), (lwg_of (tb1 (List.mem_of_getElem? (i := 11) rfl)) rfl), ⟨by decide, by decide, rfl⟩⟩
theorem fl_X6_167 : qfl RX6 167 5 7 .int false := ⟨RX5, TX5, 10, tyX5, rfl, by decide, iw_X5, tyX5_ok, nmX5, (lwg_of (tb1 (List.mem_of_getElem? (i := 56) rfl)) rfl), rfl, rfl, rfl⟩
theorem lk_X6_170 : qcV RX6 170 yX5_dreamsOf 5 1 := ⟨(lwg_of (tb2 (List.mem_of_getElem? (i := 218) rfl)) rfl), (lwg_of (tb2 (List.mem_of_getElem? (i := 157) rfl)) rfl), (lwg_of (tb2 (List.mem_of_getElem? (i := 158) rfl)) rfl), (lwg_of (tb1 (List.mem_of_getElem? (i := 3) rfl)) rfl), ⟨_, _, rfl⟩, ⟨by decide, by decide, rfl⟩⟩
theorem lk_X6_173 : qcV RX6 173 yX6_isGrave 6 1 := ⟨(lwg_of (tb2 (List.mem_of_getElem? (i := 223) rfl)) rfl), (lwg_of (tb2 (List.mem_of_getElem? (i := 225) rfl)) rfl), (lwg_of (tb0 (List.mem_of_getElem? (i := 17) rfl)) rfl), (lwg_of (tb1 (List.mem_of_getElem? (i := 1) rfl)) rfl), ⟨_, _, rfl⟩, ⟨by decide, by decide, rfl⟩⟩
theorem lk_X6_176 : qcV RX6 176 yX5_memoryOf 5 2 := ⟨(lwg_of (tb2 (List.mem_of_getElem? (i := 227) rfl)) rfl), (lwg_of (tb2 (List.mem_of_getElem? (i := 228) rfl)) rfl), (lwg_of (tb2 (List.mem_of_getElem? (i := 229) rfl)) rfl), (lwg_of (tb1 (List.mem_of_getElem? (i := 3) rfl)) rfl), ⟨_, _, rfl⟩, ⟨by decide, by decide, rfl⟩⟩
theorem lk_X6_179 : qcV RX6 179 yX5_remember 5 3 := ⟨(lwg_of (tb2 (List.mem_of_getElem? (i := 231) rfl)) rfl), (lwg_of (tb2 (List.mem_of_getElem? (i := 102) rfl)) rfl), (lwg_of (tb2 (List.mem_of_getElem? (i := 103) rfl)) rfl), (lwg_of (tb1 (List.mem_of_getElem? (i := 3) rfl)) rfl), ⟨_, _, rfl⟩, ⟨by decide, by decide, rfl⟩⟩
theorem lk_X6_183 : qcV RX6 183 yX5_allMemoryOf 5 1 := ⟨(lwg_of (tb3 (List.mem_of_getElem? (i := 0) rfl)) rfl), (lwg_of (tb3 (List.mem_of_getElem? (i := 1) rfl)) rfl), (lwg_of (tb3 (List.mem_of_getElem? (i := 2) rfl)) rfl), (lwg_of (tb1 (List.mem_of_getElem? (i := 3) rfl)) rfl), ⟨_, _, rfl⟩, ⟨by decide, by decide, rfl⟩⟩
theorem lk_X6_186 : qcV RX6 186 yX5_dreamersOf 5 1 := ⟨(lwg_of (tb3 (List.mem_of_getElem? (i := 13) rfl)) rfl), (lwg_of (tb3 (List.mem_of_getElem? (i := 14) rfl)) rfl), (lwg_of (tb3 (List.mem_of_getElem? (i := 15) rfl)) rfl), (lwg_of (tb1 (List.mem_of_getElem? (i := 3) rfl)) rfl), ⟨_, _, rfl⟩, ⟨by decide, by decide, rfl⟩⟩
theorem lk_X6_189 : qcV RX6 189 yX3_keptBehind 3 2 := ⟨(lwg_of (tb3 (List.mem_of_getElem? (i := 21) rfl)) rfl), (lwg_of (tb3 (List.mem_of_getElem? (i := 22) rfl)) rfl), (lwg_of (tb3 (List.mem_of_getElem? (i := 23) rfl)) rfl), (lwg_of (tb1 (List.mem_of_getElem? (i := 5) rfl)) rfl), ⟨_, _, rfl⟩, ⟨by decide, by decide, rfl⟩⟩
theorem lk_X6_193 : qcV RX6 193 yX3_yearsTillDug 3 3 := ⟨(lwg_of (tb3 (List.mem_of_getElem? (i := 35) rfl)) rfl), (lwg_of (tb3 (List.mem_of_getElem? (i := 36) rfl)) rfl), (lwg_of (tb3 (List.mem_of_getElem? (i := 37) rfl)) rfl), (lwg_of (tb1 (List.mem_of_getElem? (i := 5) rfl)) rfl), ⟨_, _, rfl⟩, ⟨by decide, by decide, rfl⟩⟩
theorem lk_X6_197 : qcV RX6 197 yX3_graveDugFirst 3 1 := ⟨(lwg_of (tb3 (List.mem_of_getElem? (i := 46) rfl)) rfl), (lwg_of (tb3 (List.mem_of_getElem? (i := 47) rfl)) rfl), (lwg_of (tb3 (List.mem_of_getElem? (i := 48) rfl)) rfl), (lwg_of (tb1 (List.mem_of_getElem? (i := 5) rfl)) rfl), ⟨_, _, rfl⟩, ⟨by decide, by decide, rfl⟩⟩
theorem fl_X6_201 : qfl RX6 201 5 0 .int false := ⟨RX5, TX5, 10, tyX5, rfl, by decide, iw_X5, tyX5_ok, nmX5, (lwg_of (tb1 (List.mem_of_getElem? (i := 36) rfl)) rfl), rfl, rfl, rfl⟩
theorem lk_X6_204 : qcV RX6 204 yX3_findFewestSuppers 3 3 := ⟨(lwg_of (tb3 (List.mem_of_getElem? (i := 57) rfl)) rfl), (lwg_of (tb3 (List.mem_of_getElem? (i := 58) rfl)) rfl), (lwg_of (tb3 (List.mem_of_getElem? (i := 59) rfl)) rfl), (lwg_of (tb1 (List.mem_of_getElem? (i := 5) rfl)) rfl), ⟨_, _, rfl⟩, ⟨by decide, by decide, rfl⟩⟩
theorem lk_X6_208 : Cond.constant RX6 208 (-1000000) ∈ lwg := (lwg_of (tb3 (List.mem_of_getElem? (i := 69) rfl)) rfl)
theorem fl_X6_209 : qfl RX6 209 3 0 .int false := ⟨RX3, TX3, 4, tyX3, rfl, by decide, iw_X3, tyX3_ok, nmX3, (lwg_of (tb1 (List.mem_of_getElem? (i := 148) rfl)) rfl), rfl, rfl, rfl⟩
theorem fl_X6_212 : qfl RX6 212 3 1 (.array .int) true := ⟨RX3, TX3, 4, tyX3, rfl, by decide, iw_X3, tyX3_ok, nmX3, (lwg_of (tb1 (List.mem_of_getElem? (i := 150) rfl)) rfl), rfl, rfl, rfl⟩
theorem lk_X6_215 : qcV RX6 215 yX3_yearsTillForgotten 3 3 := ⟨(lwg_of (tb3 (List.mem_of_getElem? (i := 78) rfl)) rfl), (lwg_of (tb3 (List.mem_of_getElem? (i := 79) rfl)) rfl), (lwg_of (tb3 (List.mem_of_getElem? (i := 80) rfl)) rfl), (lwg_of (tb1 (List.mem_of_getElem? (i := 5) rfl)) rfl), ⟨_, _, rfl⟩, ⟨by decide, by decide, rfl⟩⟩
theorem lk_X6_219 : qcV RX6 219 yX5_clearest 5 3 := ⟨(lwg_of (tb3 (List.mem_of_getElem? (i := 88) rfl)) rfl), (lwg_of (tb2 (List.mem_of_getElem? (i := 169) rfl)) rfl), (lwg_of (tb2 (List.mem_of_getElem? (i := 170) rfl)) rfl), (lwg_of (tb1 (List.mem_of_getElem? (i := 3) rfl)) rfl), ⟨_, _, rfl⟩, ⟨by decide, by decide, rfl⟩⟩
theorem lk_X6_223 : qcV RX6 223 yX3_kindsBy 3 5 := ⟨(lwg_of (tb3 (List.mem_of_getElem? (i := 97) rfl)) rfl), (lwg_of (tb3 (List.mem_of_getElem? (i := 98) rfl)) rfl), (lwg_of (tb3 (List.mem_of_getElem? (i := 99) rfl)) rfl), (lwg_of (tb1 (List.mem_of_getElem? (i := 5) rfl)) rfl), ⟨_, _, rfl⟩, ⟨by decide, by decide, rfl⟩⟩
theorem lk_X6_227 : qcV RX6 227 yX3_whisperersBy 3 5 := ⟨(lwg_of (tb3 (List.mem_of_getElem? (i := 109) rfl)) rfl), (lwg_of (tb3 (List.mem_of_getElem? (i := 110) rfl)) rfl), (lwg_of (tb3 (List.mem_of_getElem? (i := 111) rfl)) rfl), (lwg_of (tb1 (List.mem_of_getElem? (i := 5) rfl)) rfl), ⟨_, _, rfl⟩, ⟨by decide, by decide, rfl⟩⟩
theorem lk_X6_230 : qcV RX6 230 yX3_suppersNeeded 3 2 := ⟨(lwg_of (tb3 (List.mem_of_getElem? (i := 118) rfl)) rfl), (lwg_of (tb3 (List.mem_of_getElem? (i := 119) rfl)) rfl), (lwg_of (tb3 (List.mem_of_getElem? (i := 120) rfl)) rfl), (lwg_of (tb1 (List.mem_of_getElem? (i := 5) rfl)) rfl), ⟨_, _, rfl⟩, ⟨by decide, by decide, rfl⟩⟩
theorem lk_X6_233 : Cond.constantLong RX6 233 (-1000002) ∈ lwg := (lwg_of (tb3 (List.mem_of_getElem? (i := 130) rfl)) rfl)
theorem lk_X6_235 : Cond.constantLong RX6 235 (-1000001) ∈ lwg := (lwg_of (tb3 (List.mem_of_getElem? (i := 131) rfl)) rfl)
theorem lk_X6_237 : qcV RX6 237 yX3_chanceOfKeeping 3 4 := ⟨(lwg_of (tb3 (List.mem_of_getElem? (i := 132) rfl)) rfl), (lwg_of (tb3 (List.mem_of_getElem? (i := 133) rfl)) rfl), (lwg_of (tb3 (List.mem_of_getElem? (i := 134) rfl)) rfl), (lwg_of (tb1 (List.mem_of_getElem? (i := 5) rfl)) rfl), ⟨_, _, rfl⟩, ⟨by decide, by decide, rfl⟩⟩
theorem lk_X6_241 : Cond.constant RX6 241 (999999) ∈ lwg := (lwg_of (tb3 (List.mem_of_getElem? (i := 145) rfl)) rfl)
theorem lk_X6_242 : qcV RX6 242 yX3_yearsByDraws 3 3 := ⟨(lwg_of (tb3 (List.mem_of_getElem? (i := 146) rfl)) rfl), (lwg_of (tb3 (List.mem_of_getElem? (i := 147) rfl)) rfl), (lwg_of (tb3 (List.mem_of_getElem? (i := 148) rfl)) rfl), (lwg_of (tb1 (List.mem_of_getElem? (i := 5) rfl)) rfl), ⟨_, _, rfl⟩, ⟨by decide, by decide, rfl⟩⟩
theorem lk_X6_246 : qcV RX6 246 yX5_allMemory 5 0 := ⟨(lwg_of (tb3 (List.mem_of_getElem? (i := 154) rfl)) rfl), (lwg_of (tb3 (List.mem_of_getElem? (i := 155) rfl)) rfl), (lwg_of (tb3 (List.mem_of_getElem? (i := 156) rfl)) rfl), (lwg_of (tb1 (List.mem_of_getElem? (i := 3) rfl)) rfl), ⟨_, _, rfl⟩, ⟨by decide, by decide, rfl⟩⟩
theorem lk_X6_249 : qcV RX6 249 yX5_isNone 5 0 := ⟨(lwg_of (tb2 (List.mem_of_getElem? (i := 140) rfl)) rfl), (lwg_of (tb2 (List.mem_of_getElem? (i := 141) rfl)) rfl), (lwg_of (tb2 (List.mem_of_getElem? (i := 142) rfl)) rfl), (lwg_of (tb1 (List.mem_of_getElem? (i := 3) rfl)) rfl), ⟨_, _, rfl⟩, ⟨by decide, by decide, rfl⟩⟩
theorem fl_X6_252 : qfl RX6 252 5 8 (.array .int) true := ⟨RX5, TX5, 10, tyX5, rfl, by decide, iw_X5, tyX5_ok, nmX5, (lwg_of (tb1 (List.mem_of_getElem? (i := 62) rfl)) rfl), rfl, rfl, rfl⟩
theorem lk_X6_255 : qcS RX6 255 yX6_isOfKind 2 := ⟨(lwg_of (tb3 (List.mem_of_getElem? (i := 175) rfl)) rfl), (lwg_of (tb3 (List.mem_of_getElem? (i := 176) rfl)) rfl), (lwg_of (tb1 (List.mem_of_getElem? (i := 1) rfl)) rfl), ⟨by decide, by decide, rfl⟩⟩
theorem lk_X6_258 : qcV RX6 258 yX0_answer 0 3 := ⟨(lwg_of (tb3 (List.mem_of_getElem? (i := 182) rfl)) rfl), (lwg_of (tb3 (List.mem_of_getElem? (i := 183) rfl)) rfl), (lwg_of (tb3 (List.mem_of_getElem? (i := 184) rfl)) rfl), (lwg_of (tb1 (List.mem_of_getElem? (i := 6) rfl)) rfl), ⟨_, _, rfl⟩, ⟨by decide, by decide, rfl⟩⟩
theorem fl_X6_261 : qfl RX6 261 0 0 .int false := ⟨RX0, TX0, 2, tyX0, rfl, by decide, iw_X0, tyX0_ok, nmX0, (lwg_of (tb1 (List.mem_of_getElem? (i := 169) rfl)) rfl), rfl, rfl, rfl⟩
theorem fl_X6_264 : qfl RX6 264 0 1 (.array .int) true := ⟨RX0, TX0, 2, tyX0, rfl, by decide, iw_X0, tyX0_ok, nmX0, (lwg_of (tb1 (List.mem_of_getElem? (i := 171) rfl)) rfl), rfl, rfl, rfl⟩
theorem lk_X6_267 : qcV RX6 267 yX6_rowsThere 6 0 := ⟨(lwg_of (tb3 (List.mem_of_getElem? (i := 219) rfl)) rfl), (lwg_of (tb3 (List.mem_of_getElem? (i := 221) rfl)) rfl), (lwg_of (tb0 (List.mem_of_getElem? (i := 24) rfl)) rfl), (lwg_of (tb1 (List.mem_of_getElem? (i := 1) rfl)) rfl), ⟨_, _, rfl⟩, ⟨by decide, by decide, rfl⟩⟩
theorem fl_X6_270 : qfl RX6 270 6 7 .int false := ⟨RX6, TX6, 8, tyX6, rfl, by decide, iw_X6, tyX6_ok, nmX6, (lwg_of (tb1 (List.mem_of_getElem? (i := 203) rfl)) rfl), rfl, rfl, rfl⟩
theorem lk_X6_273 : Cond.constant RX6 273 (-1000010) ∈ lwg := (lwg_of (tb1 (List.mem_of_getElem? (i := 233) rfl)) rfl)
theorem fl_X7_7 : qfl RX7 7 7 0 (.array .int) true := ⟨RX7, TX7, 25, tyX7, rfl, by decide, iw_X7, tyX7_ok, nmX7, (lwg_of (tb3 (List.mem_of_getElem? (i := 233) rfl)) rfl), rfl, rfl, rfl⟩
theorem fl_X7_13 : qfl RX7 13 7 1 (.array .int) true := ⟨RX7, TX7, 25, tyX7, rfl, by decide, iw_X7, tyX7_ok, nmX7, (lwg_of (tb3 (List.mem_of_getElem? (i := 234) rfl)) rfl), rfl, rfl, rfl⟩
theorem fl_X7_16 : qfl RX7 16 7 2 (.array .int) true := ⟨RX7, TX7, 25, tyX7, rfl, by decide, iw_X7, tyX7_ok, nmX7, (lwg_of (tb3 (List.mem_of_getElem? (i := 235) rfl)) rfl), rfl, rfl, rfl⟩
theorem fl_X7_19 : qfl RX7 19 7 5 (.array .int) true := ⟨RX7, TX7, 25, tyX7, rfl, by decide, iw_X7, tyX7_ok, nmX7, (lwg_of (tb3 (List.mem_of_getElem? (i := 238) rfl)) rfl), rfl, rfl, rfl⟩
theorem fl_X7_22 : qfl RX7 22 7 6 (.array .int) true := ⟨RX7, TX7, 25, tyX7, rfl, by decide, iw_X7, tyX7_ok, nmX7, (lwg_of (tb3 (List.mem_of_getElem? (i := 239) rfl)) rfl), rfl, rfl, rfl⟩
theorem fl_X7_25 : qfl RX7 25 7 7 (.array .int) true := ⟨RX7, TX7, 25, tyX7, rfl, by decide, iw_X7, tyX7_ok, nmX7, (lwg_of (tb4 (List.mem_of_getElem? (i := 0) rfl)) rfl), rfl, rfl, rfl⟩
theorem fl_X7_28 : qfl RX7 28 7 15 (.array .int) true := ⟨RX7, TX7, 25, tyX7, rfl, by decide, iw_X7, tyX7_ok, nmX7, (lwg_of (tb4 (List.mem_of_getElem? (i := 8) rfl)) rfl), rfl, rfl, rfl⟩
theorem fl_X7_31 : qfl RX7 31 7 16 (.array .int) true := ⟨RX7, TX7, 25, tyX7, rfl, by decide, iw_X7, tyX7_ok, nmX7, (lwg_of (tb4 (List.mem_of_getElem? (i := 9) rfl)) rfl), rfl, rfl, rfl⟩
theorem fl_X7_34 : qfl RX7 34 7 18 (.array .int) true := ⟨RX7, TX7, 25, tyX7, rfl, by decide, iw_X7, tyX7_ok, nmX7, (lwg_of (tb4 (List.mem_of_getElem? (i := 11) rfl)) rfl), rfl, rfl, rfl⟩
theorem fl_X7_37 : qfl RX7 37 7 19 (.array .int) true := ⟨RX7, TX7, 25, tyX7, rfl, by decide, iw_X7, tyX7_ok, nmX7, (lwg_of (tb4 (List.mem_of_getElem? (i := 12) rfl)) rfl), rfl, rfl, rfl⟩
theorem fl_X7_40 : qfl RX7 40 7 21 (.array .boolean) true := ⟨RX7, TX7, 25, tyX7, rfl, by decide, iw_X7, tyX7_ok, nmX7, (lwg_of (tb4 (List.mem_of_getElem? (i := 14) rfl)) rfl), rfl, rfl, rfl⟩
theorem fl_X7_44 : qfl RX7 44 7 22 (.array .int) true := ⟨RX7, TX7, 25, tyX7, rfl, by decide, iw_X7, tyX7_ok, nmX7, (lwg_of (tb4 (List.mem_of_getElem? (i := 15) rfl)) rfl), rfl, rfl, rfl⟩
theorem fl_X7_47 : qfl RX7 47 7 23 (.array .int) true := ⟨RX7, TX7, 25, tyX7, rfl, by decide, iw_X7, tyX7_ok, nmX7, (lwg_of (tb4 (List.mem_of_getElem? (i := 16) rfl)) rfl), rfl, rfl, rfl⟩
theorem fl_X7_50 : qfl RX7 50 7 3 .int false := ⟨RX7, TX7, 25, tyX7, rfl, by decide, iw_X7, tyX7_ok, nmX7, (lwg_of (tb3 (List.mem_of_getElem? (i := 236) rfl)) rfl), rfl, rfl, rfl⟩
theorem lk_X7_54 : Cond.constant RX7 54 (-1000010) ∈ lwg := (lwg_of (tb4 (List.mem_of_getElem? (i := 87) rfl)) rfl)
theorem lk_X7_55 : Cond.constantLong RX7 55 (7) ∈ lwg := (lwg_of (tb4 (List.mem_of_getElem? (i := 77) rfl)) rfl)
theorem lk_X7_57 : qcS RX7 57 yX7_in 3 := ⟨(lwg_of (tb4 (List.mem_of_getElem? (i := 78) rfl)) rfl), (lwg_of (tb4 (List.mem_of_getElem? (i := 79) rfl)) rfl), (lwg_of (tb1 (List.mem_of_getElem? (i := 8) rfl)) rfl), ⟨by decide, by decide, rfl⟩⟩
theorem lk_X7_61 : qcS RX7 61 yX7_isRow 1 := ⟨(lwg_of (tb4 (List.mem_of_getElem? (i := 74) rfl)) rfl), (lwg_of (tb4 (List.mem_of_getElem? (i := 75) rfl)) rfl), (lwg_of (tb1 (List.mem_of_getElem? (i := 8) rfl)) rfl), ⟨by decide, by decide, rfl⟩⟩
theorem lk_X7_65 : Cond.constantLong RX7 65 (2) ∈ lwg := (lwg_of (tb4 (List.mem_of_getElem? (i := 81) rfl)) rfl)
theorem lk_X7_67 : Cond.constant RX7 67 (-1000001) ∈ lwg := (lwg_of (tb4 (List.mem_of_getElem? (i := 82) rfl)) rfl)
theorem lk_X7_68 : qcV RX7 68 yX7_find 7 1 := ⟨(lwg_of (tb4 (List.mem_of_getElem? (i := 83) rfl)) rfl), (lwg_of (tb4 (List.mem_of_getElem? (i := 85) rfl)) rfl), (lwg_of (tb0 (List.mem_of_getElem? (i := 25) rfl)) rfl), (lwg_of (tb1 (List.mem_of_getElem? (i := 8) rfl)) rfl), ⟨_, _, rfl⟩, ⟨by decide, by decide, rfl⟩⟩
theorem lk_X7_72 : qcV RX7 72 yX7_well 7 1 := ⟨(lwg_of (tb4 (List.mem_of_getElem? (i := 88) rfl)) rfl), (lwg_of (tb4 (List.mem_of_getElem? (i := 90) rfl)) rfl), (lwg_of (tb0 (List.mem_of_getElem? (i := 26) rfl)) rfl), (lwg_of (tb1 (List.mem_of_getElem? (i := 8) rfl)) rfl), ⟨_, _, rfl⟩, ⟨by decide, by decide, rfl⟩⟩
theorem lk_X7_75 : qcS RX7 75 yX7_asLane 2 := ⟨(lwg_of (tb4 (List.mem_of_getElem? (i := 96) rfl)) rfl), (lwg_of (tb4 (List.mem_of_getElem? (i := 97) rfl)) rfl), (lwg_of (tb1 (List.mem_of_getElem? (i := 8) rfl)) rfl), ⟨by decide, by decide, rfl⟩⟩
theorem lk_X7_79 : Cond.constantLong RX7 79 (255) ∈ lwg := (lwg_of (tb4 (List.mem_of_getElem? (i := 111) rfl)) rfl)
theorem fl_X7_81 : qfl RX7 81 7 8 .int false := ⟨RX7, TX7, 25, tyX7, rfl, by decide, iw_X7, tyX7_ok, nmX7, (lwg_of (tb4 (List.mem_of_getElem? (i := 1) rfl)) rfl), rfl, rfl, rfl⟩
theorem lk_X7_84 : Cond.constant RX7 84 (-1000003) ∈ lwg := (lwg_of (tb4 (List.mem_of_getElem? (i := 112) rfl)) rfl)
theorem fl_X7_85 : qfl RX7 85 7 10 .int false := ⟨RX7, TX7, 25, tyX7, rfl, by decide, iw_X7, tyX7_ok, nmX7, (lwg_of (tb4 (List.mem_of_getElem? (i := 3) rfl)) rfl), rfl, rfl, rfl⟩
theorem fl_X7_88 : qfl RX7 88 7 13 .int false := ⟨RX7, TX7, 25, tyX7, rfl, by decide, iw_X7, tyX7_ok, nmX7, (lwg_of (tb4 (List.mem_of_getElem? (i := 6) rfl)) rfl), rfl, rfl, rfl⟩
theorem fl_X7_91 : qfl RX7 91 7 11 .int false := ⟨RX7, TX7, 25, tyX7, rfl, by decide, iw_X7, tyX7_ok, nmX7, (lwg_of (tb4 (List.mem_of_getElem? (i := 4) rfl)) rfl), rfl, rfl, rfl⟩
theorem fl_X7_94 : qfl RX7 94 7 12 .int false := ⟨RX7, TX7, 25, tyX7, rfl, by decide, iw_X7, tyX7_ok, nmX7, (lwg_of (tb4 (List.mem_of_getElem? (i := 5) rfl)) rfl), rfl, rfl, rfl⟩
theorem lk_X7_97 : Cond.constantLong RX7 97 (48) ∈ lwg := (lwg_of (tb4 (List.mem_of_getElem? (i := 125) rfl)) rfl)
theorem lk_X7_99 : Cond.constantLong RX7 99 (57) ∈ lwg := (lwg_of (tb4 (List.mem_of_getElem? (i := 126) rfl)) rfl)
theorem lk_X7_101 : Cond.constantLong RX7 101 (97) ∈ lwg := (lwg_of (tb4 (List.mem_of_getElem? (i := 127) rfl)) rfl)
theorem lk_X7_103 : Cond.constantLong RX7 103 (122) ∈ lwg := (lwg_of (tb4 (List.mem_of_getElem? (i := 128) rfl)) rfl)
theorem fl_X7_105 : qfl RX7 105 7 14 .int false := ⟨RX7, TX7, 25, tyX7, rfl, by decide, iw_X7, tyX7_ok, nmX7, (lwg_of (tb4 (List.mem_of_getElem? (i := 7) rfl)) rfl), rfl, rfl, rfl⟩
theorem lk_X7_108 : qcV RX7 108 yX7_isLetter 7 1 := ⟨(lwg_of (tb4 (List.mem_of_getElem? (i := 133) rfl)) rfl), (lwg_of (tb4 (List.mem_of_getElem? (i := 135) rfl)) rfl), (lwg_of (tb0 (List.mem_of_getElem? (i := 30) rfl)) rfl), (lwg_of (tb1 (List.mem_of_getElem? (i := 8) rfl)) rfl), ⟨_, _, rfl⟩, ⟨by decide, by decide, rfl⟩⟩
theorem lk_X7_111 : qcV RX7 111 yX7_faults 7 1 := ⟨(lwg_of (tb4 (List.mem_of_getElem? (i := 137) rfl)) rfl), (lwg_of (tb4 (List.mem_of_getElem? (i := 139) rfl)) rfl), (lwg_of (tb0 (List.mem_of_getElem? (i := 31) rfl)) rfl), (lwg_of (tb1 (List.mem_of_getElem? (i := 8) rfl)) rfl), ⟨_, _, rfl⟩, ⟨by decide, by decide, rfl⟩⟩
theorem lk_X7_114 : qcV RX7 114 yX7_nextToken 7 0 := ⟨(lwg_of (tb4 (List.mem_of_getElem? (i := 121) rfl)) rfl), (lwg_of (tb4 (List.mem_of_getElem? (i := 123) rfl)) rfl), (lwg_of (tb0 (List.mem_of_getElem? (i := 28) rfl)) rfl), (lwg_of (tb1 (List.mem_of_getElem? (i := 8) rfl)) rfl), ⟨_, _, rfl⟩, ⟨by decide, by decide, rfl⟩⟩
theorem lk_X7_117 : qcV RX7 117 yX7_takes 7 1 := ⟨(lwg_of (tb4 (List.mem_of_getElem? (i := 129) rfl)) rfl), (lwg_of (tb4 (List.mem_of_getElem? (i := 131) rfl)) rfl), (lwg_of (tb0 (List.mem_of_getElem? (i := 29) rfl)) rfl), (lwg_of (tb1 (List.mem_of_getElem? (i := 8) rfl)) rfl), ⟨_, _, rfl⟩, ⟨by decide, by decide, rfl⟩⟩
theorem lk_X7_120 : qcV RX7 120 yX7_takesNumber 7 4 := ⟨(lwg_of (tb4 (List.mem_of_getElem? (i := 141) rfl)) rfl), (lwg_of (tb4 (List.mem_of_getElem? (i := 143) rfl)) rfl), (lwg_of (tb0 (List.mem_of_getElem? (i := 32) rfl)) rfl), (lwg_of (tb1 (List.mem_of_getElem? (i := 8) rfl)) rfl), ⟨_, _, rfl⟩, ⟨by decide, by decide, rfl⟩⟩
theorem lk_X7_124 : qcV RX7 124 yX7_readSleeper 7 1 := ⟨(lwg_of (tb4 (List.mem_of_getElem? (i := 145) rfl)) rfl), (lwg_of (tb4 (List.mem_of_getElem? (i := 147) rfl)) rfl), (lwg_of (tb0 (List.mem_of_getElem? (i := 33) rfl)) rfl), (lwg_of (tb1 (List.mem_of_getElem? (i := 8) rfl)) rfl), ⟨_, _, rfl⟩, ⟨by decide, by decide, rfl⟩⟩
theorem lk_X7_127 : qcV RX7 127 yX7_readYard 7 0 := ⟨(lwg_of (tb4 (List.mem_of_getElem? (i := 117) rfl)) rfl), (lwg_of (tb4 (List.mem_of_getElem? (i := 119) rfl)) rfl), (lwg_of (tb0 (List.mem_of_getElem? (i := 27) rfl)) rfl), (lwg_of (tb1 (List.mem_of_getElem? (i := 8) rfl)) rfl), ⟨_, _, rfl⟩, ⟨by decide, by decide, rfl⟩⟩
theorem fl_X7_131 : qfl RX7 131 7 9 .int false := ⟨RX7, TX7, 25, tyX7, rfl, by decide, iw_X7, tyX7_ok, nmX7, (lwg_of (tb4 (List.mem_of_getElem? (i := 2) rfl)) rfl), rfl, rfl, rfl⟩
theorem lk_X7_134 : Cond.constant RX7 134 (-1000100) ∈ lwg := (lwg_of (tb4 (List.mem_of_getElem? (i := 149) rfl)) rfl)
theorem fl_X7_135 : qfl RX7 135 7 4 .boolean false := ⟨RX7, TX7, 25, tyX7, rfl, by decide, iw_X7, tyX7_ok, nmX7, (lwg_of (tb3 (List.mem_of_getElem? (i := 237) rfl)) rfl), rfl, rfl, rfl⟩
theorem fl_X7_139 : qfl RX7 139 7 17 .int false := ⟨RX7, TX7, 25, tyX7, rfl, by decide, iw_X7, tyX7_ok, nmX7, (lwg_of (tb4 (List.mem_of_getElem? (i := 10) rfl)) rfl), rfl, rfl, rfl⟩
theorem lk_X7_142 : qcS RX7 142 yX7_has 2 := ⟨(lwg_of (tb4 (List.mem_of_getElem? (i := 184) rfl)) rfl), (lwg_of (tb4 (List.mem_of_getElem? (i := 185) rfl)) rfl), (lwg_of (tb1 (List.mem_of_getElem? (i := 8) rfl)) rfl), ⟨by decide, by decide, rfl⟩⟩
theorem lk_X7_146 : qcV RX7 146 yX7_memoryOf 7 2 := ⟨(lwg_of (tb4 (List.mem_of_getElem? (i := 187) rfl)) rfl), (lwg_of (tb4 (List.mem_of_getElem? (i := 189) rfl)) rfl), (lwg_of (tb0 (List.mem_of_getElem? (i := 39) rfl)) rfl), (lwg_of (tb1 (List.mem_of_getElem? (i := 8) rfl)) rfl), ⟨_, _, rfl⟩, ⟨by decide, by decide, rfl⟩⟩
theorem lk_X7_149 : qcV RX7 149 yX7_mostOf 7 2 := ⟨(lwg_of (tb4 (List.mem_of_getElem? (i := 180) rfl)) rfl), (lwg_of (tb4 (List.mem_of_getElem? (i := 182) rfl)) rfl), (lwg_of (tb0 (List.mem_of_getElem? (i := 38) rfl)) rfl), (lwg_of (tb1 (List.mem_of_getElem? (i := 8) rfl)) rfl), ⟨_, _, rfl⟩, ⟨by decide, by decide, rfl⟩⟩
theorem lk_X7_152 : qcV RX7 152 yX7_dreams 7 1 := ⟨(lwg_of (tb4 (List.mem_of_getElem? (i := 176) rfl)) rfl), (lwg_of (tb4 (List.mem_of_getElem? (i := 178) rfl)) rfl), (lwg_of (tb0 (List.mem_of_getElem? (i := 37) rfl)) rfl), (lwg_of (tb1 (List.mem_of_getElem? (i := 8) rfl)) rfl), ⟨_, _, rfl⟩, ⟨by decide, by decide, rfl⟩⟩
theorem lk_X7_155 : qcV RX7 155 yX7_allDreams 7 0 := ⟨(lwg_of (tb4 (List.mem_of_getElem? (i := 172) rfl)) rfl), (lwg_of (tb4 (List.mem_of_getElem? (i := 174) rfl)) rfl), (lwg_of (tb0 (List.mem_of_getElem? (i := 36) rfl)) rfl), (lwg_of (tb1 (List.mem_of_getElem? (i := 8) rfl)) rfl), ⟨_, _, rfl⟩, ⟨by decide, by decide, rfl⟩⟩
theorem lk_X7_159 : qcV RX7 159 yX7_lessOf 7 1 := ⟨(lwg_of (tb4 (List.mem_of_getElem? (i := 191) rfl)) rfl), (lwg_of (tb4 (List.mem_of_getElem? (i := 193) rfl)) rfl), (lwg_of (tb0 (List.mem_of_getElem? (i := 40) rfl)) rfl), (lwg_of (tb1 (List.mem_of_getElem? (i := 8) rfl)) rfl), ⟨_, _, rfl⟩, ⟨by decide, by decide, rfl⟩⟩
theorem lk_X7_162 : Cond.constant RX7 162 (-1000002) ∈ lwg := (lwg_of (tb4 (List.mem_of_getElem? (i := 158) rfl)) rfl)
theorem lk_X7_163 : Cond.constantLong RX7 163 (24) ∈ lwg := (lwg_of (tb4 (List.mem_of_getElem? (i := 163) rfl)) rfl)
theorem lk_X7_165 : qcV RX7 165 yX7_note 7 0 := ⟨(lwg_of (tb4 (List.mem_of_getElem? (i := 164) rfl)) rfl), (lwg_of (tb4 (List.mem_of_getElem? (i := 166) rfl)) rfl), (lwg_of (tb0 (List.mem_of_getElem? (i := 34) rfl)) rfl), (lwg_of (tb1 (List.mem_of_getElem? (i := 8) rfl)) rfl), ⟨_, _, rfl⟩, ⟨by decide, by decide, rfl⟩⟩
theorem lk_X7_168 : qcV RX7 168 yX7_oneYear 7 0 := ⟨(lwg_of (tb4 (List.mem_of_getElem? (i := 168) rfl)) rfl), (lwg_of (tb4 (List.mem_of_getElem? (i := 170) rfl)) rfl), (lwg_of (tb0 (List.mem_of_getElem? (i := 35) rfl)) rfl), (lwg_of (tb1 (List.mem_of_getElem? (i := 8) rfl)) rfl), ⟨_, _, rfl⟩, ⟨by decide, by decide, rfl⟩⟩
theorem lk_X7_171 : qcV RX7 171 yX7_isSleeper 7 1 := ⟨(lwg_of (tb4 (List.mem_of_getElem? (i := 199) rfl)) rfl), (lwg_of (tb4 (List.mem_of_getElem? (i := 201) rfl)) rfl), (lwg_of (tb0 (List.mem_of_getElem? (i := 41) rfl)) rfl), (lwg_of (tb1 (List.mem_of_getElem? (i := 8) rfl)) rfl), ⟨_, _, rfl⟩, ⟨by decide, by decide, rfl⟩⟩
theorem lk_X7_174 : qcV RX7 174 yX7_suppered 7 0 := ⟨(lwg_of (tb4 (List.mem_of_getElem? (i := 203) rfl)) rfl), (lwg_of (tb4 (List.mem_of_getElem? (i := 205) rfl)) rfl), (lwg_of (tb0 (List.mem_of_getElem? (i := 42) rfl)) rfl), (lwg_of (tb1 (List.mem_of_getElem? (i := 8) rfl)) rfl), ⟨_, _, rfl⟩, ⟨by decide, by decide, rfl⟩⟩
theorem lk_X7_177 : qcS RX7 177 yX7_ones 1 := ⟨(lwg_of (tb4 (List.mem_of_getElem? (i := 207) rfl)) rfl), (lwg_of (tb4 (List.mem_of_getElem? (i := 208) rfl)) rfl), (lwg_of (tb1 (List.mem_of_getElem? (i := 8) rfl)) rfl), ⟨by decide, by decide, rfl⟩⟩
theorem lk_X7_180 : qcV RX7 180 yX7_isGrave 7 1 := ⟨(lwg_of (tb4 (List.mem_of_getElem? (i := 218) rfl)) rfl), (lwg_of (tb4 (List.mem_of_getElem? (i := 220) rfl)) rfl), (lwg_of (tb0 (List.mem_of_getElem? (i := 43) rfl)) rfl), (lwg_of (tb1 (List.mem_of_getElem? (i := 8) rfl)) rfl), ⟨_, _, rfl⟩, ⟨by decide, by decide, rfl⟩⟩
theorem lk_X7_183 : qcV RX7 183 yX7_memoryBy 7 1 := ⟨(lwg_of (tb4 (List.mem_of_getElem? (i := 230) rfl)) rfl), (lwg_of (tb4 (List.mem_of_getElem? (i := 232) rfl)) rfl), (lwg_of (tb0 (List.mem_of_getElem? (i := 44) rfl)) rfl), (lwg_of (tb1 (List.mem_of_getElem? (i := 8) rfl)) rfl), ⟨_, _, rfl⟩, ⟨by decide, by decide, rfl⟩⟩
theorem lk_X7_186 : Cond.constantLong RX7 186 (40) ∈ lwg := (lwg_of (tb5 (List.mem_of_getElem? (i := 6) rfl)) rfl)
theorem lk_X7_188 : qcV RX7 188 yX7_putAside 7 0 := ⟨(lwg_of (tb5 (List.mem_of_getElem? (i := 7) rfl)) rfl), (lwg_of (tb5 (List.mem_of_getElem? (i := 9) rfl)) rfl), (lwg_of (tb0 (List.mem_of_getElem? (i := 45) rfl)) rfl), (lwg_of (tb1 (List.mem_of_getElem? (i := 8) rfl)) rfl), ⟨_, _, rfl⟩, ⟨by decide, by decide, rfl⟩⟩
theorem lk_X7_191 : qcV RX7 191 yX7_takeBack 7 0 := ⟨(lwg_of (tb5 (List.mem_of_getElem? (i := 11) rfl)) rfl), (lwg_of (tb5 (List.mem_of_getElem? (i := 13) rfl)) rfl), (lwg_of (tb0 (List.mem_of_getElem? (i := 46) rfl)) rfl), (lwg_of (tb1 (List.mem_of_getElem? (i := 8) rfl)) rfl), ⟨_, _, rfl⟩, ⟨by decide, by decide, rfl⟩⟩
theorem lk_X7_194 : qcV RX7 194 yX7_feedAll 7 0 := ⟨(lwg_of (tb5 (List.mem_of_getElem? (i := 23) rfl)) rfl), (lwg_of (tb5 (List.mem_of_getElem? (i := 25) rfl)) rfl), (lwg_of (tb0 (List.mem_of_getElem? (i := 48) rfl)) rfl), (lwg_of (tb1 (List.mem_of_getElem? (i := 8) rfl)) rfl), ⟨_, _, rfl⟩, ⟨by decide, by decide, rfl⟩⟩
theorem lk_X7_197 : Cond.constant RX7 197 (-1000000) ∈ lwg := (lwg_of (tb5 (List.mem_of_getElem? (i := 27) rfl)) rfl)
theorem lk_X7_198 : qcV RX7 198 yX7_dugIn 7 2 := ⟨(lwg_of (tb5 (List.mem_of_getElem? (i := 19) rfl)) rfl), (lwg_of (tb5 (List.mem_of_getElem? (i := 21) rfl)) rfl), (lwg_of (tb0 (List.mem_of_getElem? (i := 47) rfl)) rfl), (lwg_of (tb1 (List.mem_of_getElem? (i := 8) rfl)) rfl), ⟨_, _, rfl⟩, ⟨by decide, by decide, rfl⟩⟩
theorem lk_X7_202 : qcV RX7 202 yX7_giveSuppers 7 1 := ⟨(lwg_of (tb5 (List.mem_of_getElem? (i := 45) rfl)) rfl), (lwg_of (tb5 (List.mem_of_getElem? (i := 47) rfl)) rfl), (lwg_of (tb0 (List.mem_of_getElem? (i := 51) rfl)) rfl), (lwg_of (tb1 (List.mem_of_getElem? (i := 8) rfl)) rfl), ⟨_, _, rfl⟩, ⟨by decide, by decide, rfl⟩⟩
theorem lk_X7_206 : qcV RX7 206 yX7_isKeptBy 7 2 := ⟨(lwg_of (tb5 (List.mem_of_getElem? (i := 41) rfl)) rfl), (lwg_of (tb5 (List.mem_of_getElem? (i := 43) rfl)) rfl), (lwg_of (tb0 (List.mem_of_getElem? (i := 50) rfl)) rfl), (lwg_of (tb1 (List.mem_of_getElem? (i := 8) rfl)) rfl), ⟨_, _, rfl⟩, ⟨by decide, by decide, rfl⟩⟩
theorem fl_X7_209 : qfl RX7 209 7 20 .int false := ⟨RX7, TX7, 25, tyX7, rfl, by decide, iw_X7, tyX7_ok, nmX7, (lwg_of (tb4 (List.mem_of_getElem? (i := 13) rfl)) rfl), rfl, rfl, rfl⟩
theorem lk_X7_212 : Cond.constantLong RX7 212 (3) ∈ lwg := (lwg_of (tb5 (List.mem_of_getElem? (i := 36) rfl)) rfl)
theorem lk_X7_214 : qcV RX7 214 yX7_findWay 7 2 := ⟨(lwg_of (tb5 (List.mem_of_getElem? (i := 37) rfl)) rfl), (lwg_of (tb5 (List.mem_of_getElem? (i := 39) rfl)) rfl), (lwg_of (tb0 (List.mem_of_getElem? (i := 49) rfl)) rfl), (lwg_of (tb1 (List.mem_of_getElem? (i := 8) rfl)) rfl), ⟨_, _, rfl⟩, ⟨by decide, by decide, rfl⟩⟩
theorem lk_X7_217 : Cond.constantLong RX7 217 (12) ∈ lwg := (lwg_of (tb5 (List.mem_of_getElem? (i := 69) rfl)) rfl)
theorem lk_X7_219 : qcV RX7 219 yX7_lacks 7 3 := ⟨(lwg_of (tb5 (List.mem_of_getElem? (i := 70) rfl)) rfl), (lwg_of (tb5 (List.mem_of_getElem? (i := 72) rfl)) rfl), (lwg_of (tb0 (List.mem_of_getElem? (i := 52) rfl)) rfl), (lwg_of (tb1 (List.mem_of_getElem? (i := 8) rfl)) rfl), ⟨_, _, rfl⟩, ⟨by decide, by decide, rfl⟩⟩
theorem lk_X7_223 : qcV RX7 223 yX7_isSo 7 2 := ⟨(lwg_of (tb5 (List.mem_of_getElem? (i := 74) rfl)) rfl), (lwg_of (tb5 (List.mem_of_getElem? (i := 76) rfl)) rfl), (lwg_of (tb0 (List.mem_of_getElem? (i := 53) rfl)) rfl), (lwg_of (tb1 (List.mem_of_getElem? (i := 8) rfl)) rfl), ⟨_, _, rfl⟩, ⟨by decide, by decide, rfl⟩⟩
theorem lk_X7_226 : Cond.constantLong RX7 226 (6) ∈ lwg := (lwg_of (tb5 (List.mem_of_getElem? (i := 82) rfl)) rfl)
theorem lk_X7_228 : qcV RX7 228 yX7_needsSupper 7 1 := ⟨(lwg_of (tb5 (List.mem_of_getElem? (i := 87) rfl)) rfl), (lwg_of (tb5 (List.mem_of_getElem? (i := 89) rfl)) rfl), (lwg_of (tb0 (List.mem_of_getElem? (i := 54) rfl)) rfl), (lwg_of (tb1 (List.mem_of_getElem? (i := 8) rfl)) rfl), ⟨_, _, rfl⟩, ⟨by decide, by decide, rfl⟩⟩
theorem lk_X7_231 : Cond.constantLong RX7 231 (-1000002) ∈ lwg := (lwg_of (tb5 (List.mem_of_getElem? (i := 95) rfl)) rfl)
theorem lk_X7_233 : Cond.constantLong RX7 233 (10) ∈ lwg := (lwg_of (tb5 (List.mem_of_getElem? (i := 96) rfl)) rfl)
theorem lk_X7_235 : Cond.constantLong RX7 235 (-1000001) ∈ lwg := (lwg_of (tb5 (List.mem_of_getElem? (i := 97) rfl)) rfl)
theorem lk_X7_237 : Cond.constantLong RX7 237 (999999) ∈ lwg := (lwg_of (tb5 (List.mem_of_getElem? (i := 102) rfl)) rfl)
theorem lk_X7_239 : Cond.constantLong RX7 239 (16807) ∈ lwg := (lwg_of (tb5 (List.mem_of_getElem? (i := 103) rfl)) rfl)
theorem lk_X7_241 : Cond.constantLong RX7 241 (2147483647) ∈ lwg := (lwg_of (tb5 (List.mem_of_getElem? (i := 104) rfl)) rfl)
theorem lk_X7_243 : Cond.constantLong RX7 243 (5) ∈ lwg := (lwg_of (tb5 (List.mem_of_getElem? (i := 105) rfl)) rfl)
theorem lk_X7_245 : qcS RX7 245 yX7_isKind 2 := ⟨(lwg_of (tb5 (List.mem_of_getElem? (i := 122) rfl)) rfl), (lwg_of (tb5 (List.mem_of_getElem? (i := 123) rfl)) rfl), (lwg_of (tb1 (List.mem_of_getElem? (i := 8) rfl)) rfl), ⟨by decide, by decide, rfl⟩⟩
theorem fl_X7_248 : qfl RX7 248 7 24 .int false := ⟨RX7, TX7, 25, tyX7, rfl, by decide, iw_X7, tyX7_ok, nmX7, (lwg_of (tb4 (List.mem_of_getElem? (i := 17) rfl)) rfl), rfl, rfl, rfl⟩
theorem lk_X7_251 : qcV RX7 251 yX7_begin 7 1 := ⟨(lwg_of (tb5 (List.mem_of_getElem? (i := 133) rfl)) rfl), (lwg_of (tb5 (List.mem_of_getElem? (i := 135) rfl)) rfl), (lwg_of (tb0 (List.mem_of_getElem? (i := 56) rfl)) rfl), (lwg_of (tb1 (List.mem_of_getElem? (i := 8) rfl)) rfl), ⟨_, _, rfl⟩, ⟨by decide, by decide, rfl⟩⟩
theorem lk_X7_254 : qcV RX7 254 yX7_lent 7 2 := ⟨(lwg_of (tb5 (List.mem_of_getElem? (i := 141) rfl)) rfl), (lwg_of (tb5 (List.mem_of_getElem? (i := 143) rfl)) rfl), (lwg_of (tb0 (List.mem_of_getElem? (i := 58) rfl)) rfl), (lwg_of (tb1 (List.mem_of_getElem? (i := 8) rfl)) rfl), ⟨_, _, rfl⟩, ⟨by decide, by decide, rfl⟩⟩
theorem lk_X7_257 : qcV RX7 257 yX7_wifeSize 7 1 := ⟨(lwg_of (tb5 (List.mem_of_getElem? (i := 157) rfl)) rfl), (lwg_of (tb5 (List.mem_of_getElem? (i := 159) rfl)) rfl), (lwg_of (tb0 (List.mem_of_getElem? (i := 62) rfl)) rfl), (lwg_of (tb1 (List.mem_of_getElem? (i := 8) rfl)) rfl), ⟨_, _, rfl⟩, ⟨by decide, by decide, rfl⟩⟩
theorem lk_X7_260 : qcV RX7 260 yX7_dreamerMark 7 1 := ⟨(lwg_of (tb5 (List.mem_of_getElem? (i := 149) rfl)) rfl), (lwg_of (tb5 (List.mem_of_getElem? (i := 151) rfl)) rfl), (lwg_of (tb0 (List.mem_of_getElem? (i := 60) rfl)) rfl), (lwg_of (tb1 (List.mem_of_getElem? (i := 8) rfl)) rfl), ⟨_, _, rfl⟩, ⟨by decide, by decide, rfl⟩⟩
theorem lk_X7_263 : qcV RX7 263 yX7_sizeOfWife 7 1 := ⟨(lwg_of (tb5 (List.mem_of_getElem? (i := 153) rfl)) rfl), (lwg_of (tb5 (List.mem_of_getElem? (i := 155) rfl)) rfl), (lwg_of (tb0 (List.mem_of_getElem? (i := 61) rfl)) rfl), (lwg_of (tb1 (List.mem_of_getElem? (i := 8) rfl)) rfl), ⟨_, _, rfl⟩, ⟨by decide, by decide, rfl⟩⟩
theorem lk_X7_266 : qcV RX7 266 yX7_markOf 7 1 := ⟨(lwg_of (tb5 (List.mem_of_getElem? (i := 145) rfl)) rfl), (lwg_of (tb5 (List.mem_of_getElem? (i := 147) rfl)) rfl), (lwg_of (tb0 (List.mem_of_getElem? (i := 59) rfl)) rfl), (lwg_of (tb1 (List.mem_of_getElem? (i := 8) rfl)) rfl), ⟨_, _, rfl⟩, ⟨by decide, by decide, rfl⟩⟩
theorem lk_X7_269 : qcV RX7 269 yX7_dreamerSize 7 1 := ⟨(lwg_of (tb5 (List.mem_of_getElem? (i := 137) rfl)) rfl), (lwg_of (tb5 (List.mem_of_getElem? (i := 139) rfl)) rfl), (lwg_of (tb0 (List.mem_of_getElem? (i := 57) rfl)) rfl), (lwg_of (tb1 (List.mem_of_getElem? (i := 8) rfl)) rfl), ⟨_, _, rfl⟩, ⟨by decide, by decide, rfl⟩⟩
theorem lk_X7_272 : qcV RX7 272 yX7_sizeOf 7 1 := ⟨(lwg_of (tb5 (List.mem_of_getElem? (i := 129) rfl)) rfl), (lwg_of (tb5 (List.mem_of_getElem? (i := 131) rfl)) rfl), (lwg_of (tb0 (List.mem_of_getElem? (i := 55) rfl)) rfl), (lwg_of (tb1 (List.mem_of_getElem? (i := 8) rfl)) rfl), ⟨_, _, rfl⟩, ⟨by decide, by decide, rfl⟩⟩
theorem kw_J6_bitCount_0f7a4 : Cond.code yJ6_bitCount_0f7a4 cJ6_bitCount_0f7a4 1 (some .int) ∈ lwg := (lwg_of (tb2 (List.mem_of_getElem? (i := 210) rfl)) rfl)
theorem kw_J7_fill_53178 : Cond.code yJ7_fill_53178 cJ7_fill_53178 4 none ∈ lwg := (lwg_of (tb2 (List.mem_of_getElem? (i := 0) rfl)) rfl)
theorem kw_X0_answer : Cond.code yX0_answer cX0_answer 4 (some .int) ∈ lwg := (lwg_of (tb3 (List.mem_of_getElem? (i := 185) rfl)) rfl)
theorem kw_X0_give : Cond.code yX0_give cX0_give 6 (some .int) ∈ lwg := (lwg_of (tb3 (List.mem_of_getElem? (i := 198) rfl)) rfl)
theorem kw_X0_init : Cond.code yX0_init cX0_init 1 none ∈ lwg := (lwg_of (tb1 (List.mem_of_getElem? (i := 166) rfl)) rfl)
theorem kw_X0_kindOf : Cond.code yX0_kindOf cX0_kindOf 3 (some .int) ∈ lwg := (lwg_of (tb3 (List.mem_of_getElem? (i := 194) rfl)) rfl)
theorem kw_X0_leave : Cond.code yX0_leave cX0_leave 2 none ∈ lwg := (lwg_of (tb3 (List.mem_of_getElem? (i := 202) rfl)) rfl)
theorem kw_X0_markOf : Cond.code yX0_markOf cX0_markOf 4 (some .int) ∈ lwg := (lwg_of (tb3 (List.mem_of_getElem? (i := 207) rfl)) rfl)
theorem kw_X0_sizeOf : Cond.code yX0_sizeOf cX0_sizeOf 4 (some .int) ∈ lwg := (lwg_of (tb3 (List.mem_of_getElem? (i := 189) rfl)) rfl)
theorem kw_X1_clear : Cond.code yX1_clear cX1_clear 1 none ∈ lwg := (lwg_of (tb2 (List.mem_of_getElem? (i := 117) rfl)) rfl)
theorem kw_X1_giveBack : Cond.code yX1_giveBack cX1_giveBack 2 (some .boolean) ∈ lwg := (lwg_of (tb2 (List.mem_of_getElem? (i := 129) rfl)) rfl)
theorem kw_X1_init : Cond.code yX1_init cX1_init 2 none ∈ lwg := (lwg_of (tb1 (List.mem_of_getElem? (i := 123) rfl)) rfl)
theorem kw_X1_keep : Cond.code yX1_keep cX1_keep 2 none ∈ lwg := (lwg_of (tb2 (List.mem_of_getElem? (i := 147) rfl)) rfl)
theorem kw_X2_findingAt : Cond.code yX2_findingAt cX2_findingAt 3 (some .int) ∈ lwg := (lwg_of (tb2 (List.mem_of_getElem? (i := 12) rfl)) rfl)
theorem kw_X2_holds : Cond.code yX2_holds cX2_holds 3 (some .boolean) ∈ lwg := (lwg_of (tb2 (List.mem_of_getElem? (i := 20) rfl)) rfl)
theorem kw_X2_init : Cond.code yX2_init cX2_init 1 none ∈ lwg := (lwg_of (tb1 (List.mem_of_getElem? (i := 180) rfl)) rfl)
theorem kw_X2_isMissing : Cond.code yX2_isMissing cX2_isMissing 1 (some .boolean) ∈ lwg := (lwg_of (tb2 (List.mem_of_getElem? (i := 16) rfl)) rfl)
theorem kw_X2_lay : Cond.code yX2_lay cX2_lay 3 none ∈ lwg := (lwg_of (tb1 (List.mem_of_getElem? (i := 237) rfl)) rfl)
theorem kw_X2_put : Cond.code yX2_put cX2_put 4 (some .int) ∈ lwg := (lwg_of (tb2 (List.mem_of_getElem? (i := 24) rfl)) rfl)
theorem kw_X3_chanceOfKeeping : Cond.code yX3_chanceOfKeeping cX3_chanceOfKeeping 11 (some .long) ∈ lwg := (lwg_of (tb3 (List.mem_of_getElem? (i := 135) rfl)) rfl)
theorem kw_X3_commonDivisor : Cond.code yX3_commonDivisor cX3_commonDivisor 11 (some .long) ∈ lwg := (lwg_of (tb3 (List.mem_of_getElem? (i := 140) rfl)) rfl)
theorem kw_X3_copyOf : Cond.code yX3_copyOf cX3_copyOf 2 (some (.object "DreamGraves$Yard")) ∈ lwg := (lwg_of (tb3 (List.mem_of_getElem? (i := 28) rfl)) rfl)
theorem kw_X3_findFewestSuppers : Cond.code yX3_findFewestSuppers cX3_findFewestSuppers 4 (some .boolean) ∈ lwg := (lwg_of (tb3 (List.mem_of_getElem? (i := 60) rfl)) rfl)
theorem kw_X3_firstOf : Cond.code yX3_firstOf cX3_firstOf 2 (some .int) ∈ lwg := (lwg_of (tb3 (List.mem_of_getElem? (i := 52) rfl)) rfl)
theorem kw_X3_goesAsTold : Cond.code yX3_goesAsTold cX3_goesAsTold 5 (some .boolean) ∈ lwg := (lwg_of (tb3 (List.mem_of_getElem? (i := 103) rfl)) rfl)
theorem kw_X3_graveDugFirst : Cond.code yX3_graveDugFirst cX3_graveDugFirst 4 (some .int) ∈ lwg := (lwg_of (tb3 (List.mem_of_getElem? (i := 49) rfl)) rfl)
theorem kw_X3_init : Cond.code yX3_init cX3_init 2 none ∈ lwg := (lwg_of (tb1 (List.mem_of_getElem? (i := 143) rfl)) rfl)
theorem kw_X3_keptBehind : Cond.code yX3_keptBehind cX3_keptBehind 5 (some .int) ∈ lwg := (lwg_of (tb3 (List.mem_of_getElem? (i := 24) rfl)) rfl)
theorem kw_X3_kindsBy : Cond.code yX3_kindsBy cX3_kindsBy 9 (some .int) ∈ lwg := (lwg_of (tb3 (List.mem_of_getElem? (i := 100) rfl)) rfl)
theorem kw_X3_suppersNeeded : Cond.code yX3_suppersNeeded cX3_suppersNeeded 6 (some .int) ∈ lwg := (lwg_of (tb3 (List.mem_of_getElem? (i := 121) rfl)) rfl)
theorem kw_X3_tryYear : Cond.code yX3_tryYear cX3_tryYear 8 none ∈ lwg := (lwg_of (tb3 (List.mem_of_getElem? (i := 64) rfl)) rfl)
theorem kw_X3_whisperersBy : Cond.code yX3_whisperersBy cX3_whisperersBy 9 (some .int) ∈ lwg := (lwg_of (tb3 (List.mem_of_getElem? (i := 112) rfl)) rfl)
theorem kw_X3_yearsByDraws : Cond.code yX3_yearsByDraws cX3_yearsByDraws 9 (some (.object "DreamGraves$Yard")) ∈ lwg := (lwg_of (tb3 (List.mem_of_getElem? (i := 149) rfl)) rfl)
theorem kw_X3_yearsTillDug : Cond.code yX3_yearsTillDug cX3_yearsTillDug 6 (some .int) ∈ lwg := (lwg_of (tb3 (List.mem_of_getElem? (i := 38) rfl)) rfl)
theorem kw_X3_yearsTillForgotten : Cond.code yX3_yearsTillForgotten cX3_yearsTillForgotten 6 (some .int) ∈ lwg := (lwg_of (tb3 (List.mem_of_getElem? (i := 81) rfl)) rfl)
theorem kw_X4_add : Cond.code yX4_add cX4_add 2 (some .boolean) ∈ lwg := (lwg_of (tb2 (List.mem_of_getElem? (i := 45) rfl)) rfl)
theorem kw_X4_fail : Cond.code yX4_fail cX4_fail 2 (some .boolean) ∈ lwg := (lwg_of (tb2 (List.mem_of_getElem? (i := 82) rfl)) rfl)
theorem kw_X4_init : Cond.code yX4_init cX4_init 1 none ∈ lwg := (lwg_of (tb1 (List.mem_of_getElem? (i := 26) rfl)) rfl)
theorem kw_X4_isFigure : Cond.code yX4_isFigure cX4_isFigure 1 (some .boolean) ∈ lwg := (lwg_of (tb2 (List.mem_of_getElem? (i := 66) rfl)) rfl)
theorem kw_X4_kindTold : Cond.code yX4_kindTold cX4_kindTold 1 (some .int) ∈ lwg := (lwg_of (tb2 (List.mem_of_getElem? (i := 100) rfl)) rfl)
theorem kw_X4_nextToken : Cond.code yX4_nextToken cX4_nextToken 2 none ∈ lwg := (lwg_of (tb2 (List.mem_of_getElem? (i := 63) rfl)) rfl)
theorem kw_X4_read : Cond.code yX4_read cX4_read 2 (some .int) ∈ lwg := (lwg_of (tb2 (List.mem_of_getElem? (i := 54) rfl)) rfl)
theorem kw_X4_readLaw : Cond.code yX4_readLaw cX4_readLaw 1 (some .boolean) ∈ lwg := (lwg_of (tb2 (List.mem_of_getElem? (i := 74) rfl)) rfl)
theorem kw_X4_readSleeper : Cond.code yX4_readSleeper cX4_readSleeper 4 (some .boolean) ∈ lwg := (lwg_of (tb2 (List.mem_of_getElem? (i := 97) rfl)) rfl)
theorem kw_X4_readSleepers : Cond.code yX4_readSleepers cX4_readSleepers 2 (some .boolean) ∈ lwg := (lwg_of (tb2 (List.mem_of_getElem? (i := 93) rfl)) rfl)
theorem kw_X4_takeFigures : Cond.code yX4_takeFigures cX4_takeFigures 1 none ∈ lwg := (lwg_of (tb2 (List.mem_of_getElem? (i := 70) rfl)) rfl)
theorem kw_X4_takeNumber : Cond.code yX4_takeNumber cX4_takeNumber 3 (some .boolean) ∈ lwg := (lwg_of (tb2 (List.mem_of_getElem? (i := 86) rfl)) rfl)
theorem kw_X4_takeSign : Cond.code yX4_takeSign cX4_takeSign 2 (some .boolean) ∈ lwg := (lwg_of (tb2 (List.mem_of_getElem? (i := 78) rfl)) rfl)
theorem kw_X5_allMemory : Cond.code yX5_allMemory cX5_allMemory 3 (some .int) ∈ lwg := (lwg_of (tb3 (List.mem_of_getElem? (i := 157) rfl)) rfl)
theorem kw_X5_allMemoryOf : Cond.code yX5_allMemoryOf cX5_allMemoryOf 4 (some .int) ∈ lwg := (lwg_of (tb3 (List.mem_of_getElem? (i := 3) rfl)) rfl)
theorem kw_X5_become : Cond.code yX5_become cX5_become 2 none ∈ lwg := (lwg_of (tb2 (List.mem_of_getElem? (i := 112) rfl)) rfl)
theorem kw_X5_clear : Cond.code yX5_clear cX5_clear 1 none ∈ lwg := (lwg_of (tb2 (List.mem_of_getElem? (i := 58) rfl)) rfl)
theorem kw_X5_clearest : Cond.code yX5_clearest cX5_clearest 8 (some .int) ∈ lwg := (lwg_of (tb2 (List.mem_of_getElem? (i := 171) rfl)) rfl)
theorem kw_X5_digUndreamt : Cond.code yX5_digUndreamt cX5_digUndreamt 4 none ∈ lwg := (lwg_of (tb2 (List.mem_of_getElem? (i := 155) rfl)) rfl)
theorem kw_X5_dreamersOf : Cond.code yX5_dreamersOf cX5_dreamersOf 4 (some .int) ∈ lwg := (lwg_of (tb3 (List.mem_of_getElem? (i := 16) rfl)) rfl)
theorem kw_X5_dreamsOf : Cond.code yX5_dreamsOf cX5_dreamsOf 4 (some .int) ∈ lwg := (lwg_of (tb2 (List.mem_of_getElem? (i := 159) rfl)) rfl)
theorem kw_X5_endYear : Cond.code yX5_endYear cX5_endYear 2 none ∈ lwg := (lwg_of (tb2 (List.mem_of_getElem? (i := 189) rfl)) rfl)
theorem kw_X5_fadeFor : Cond.code yX5_fadeFor cX5_fadeFor 4 none ∈ lwg := (lwg_of (tb2 (List.mem_of_getElem? (i := 193) rfl)) rfl)
theorem kw_X5_faded : Cond.code yX5_faded cX5_faded 2 (some .int) ∈ lwg := (lwg_of (tb2 (List.mem_of_getElem? (i := 197) rfl)) rfl)
theorem kw_X5_forgetByAll : Cond.code yX5_forgetByAll cX5_forgetByAll 3 none ∈ lwg := (lwg_of (tb2 (List.mem_of_getElem? (i := 184) rfl)) rfl)
theorem kw_X5_graveOfYear : Cond.code yX5_graveOfYear cX5_graveOfYear 1 (some .int) ∈ lwg := (lwg_of (tb2 (List.mem_of_getElem? (i := 180) rfl)) rfl)
theorem kw_X5_hasRoom : Cond.code yX5_hasRoom cX5_hasRoom 2 (some .boolean) ∈ lwg := (lwg_of (tb2 (List.mem_of_getElem? (i := 107) rfl)) rfl)
theorem kw_X5_inNeed : Cond.code yX5_inNeed cX5_inNeed 4 (some .int) ∈ lwg := (lwg_of (tb3 (List.mem_of_getElem? (i := 125) rfl)) rfl)
theorem kw_X5_init : Cond.code yX5_init cX5_init 1 none ∈ lwg := (lwg_of (tb1 (List.mem_of_getElem? (i := 32) rfl)) rfl)
theorem kw_X5_isNone : Cond.code yX5_isNone cX5_isNone 1 (some .boolean) ∈ lwg := (lwg_of (tb2 (List.mem_of_getElem? (i := 143) rfl)) rfl)
theorem kw_X5_memoryOf : Cond.code yX5_memoryOf cX5_memoryOf 3 (some .int) ∈ lwg := (lwg_of (tb2 (List.mem_of_getElem? (i := 230) rfl)) rfl)
theorem kw_X5_nextBehind : Cond.code yX5_nextBehind cX5_nextBehind 2 (some .int) ∈ lwg := (lwg_of (tb2 (List.mem_of_getElem? (i := 176) rfl)) rfl)
theorem kw_X5_pass : Cond.code yX5_pass cX5_pass 1 none ∈ lwg := (lwg_of (tb2 (List.mem_of_getElem? (i := 151) rfl)) rfl)
theorem kw_X5_remember : Cond.code yX5_remember cX5_remember 4 none ∈ lwg := (lwg_of (tb2 (List.mem_of_getElem? (i := 104) rfl)) rfl)
theorem kw_X5_rememberedBy : Cond.code yX5_rememberedBy cX5_rememberedBy 4 (some .int) ∈ lwg := (lwg_of (tb2 (List.mem_of_getElem? (i := 166) rfl)) rfl)
theorem kw_X6_ahead : Cond.code yX6_ahead cX6_ahead 2 (some .int) ∈ lwg := (lwg_of (tb3 (List.mem_of_getElem? (i := 20) rfl)) rfl)
theorem kw_X6_as : Cond.code yX6_as cX6_as 3 (some .int) ∈ lwg := (lwg_of (tb3 (List.mem_of_getElem? (i := 174) rfl)) rfl)
theorem kw_X6_ask : Cond.code yX6_ask cX6_ask 3 (some .int) ∈ lwg := (lwg_of (tb3 (List.mem_of_getElem? (i := 181) rfl)) rfl)
theorem kw_X6_awake : Cond.code yX6_awake cX6_awake 4 (some .long) ∈ lwg := (lwg_of (tb3 (List.mem_of_getElem? (i := 129) rfl)) rfl)
theorem kw_X6_bit : Cond.code yX6_bit cX6_bit 1 (some .int) ∈ lwg := (lwg_of (tb2 (List.mem_of_getElem? (i := 89) rfl)) rfl)
theorem kw_X6_bound : Cond.code yX6_bound cX6_bound 2 (some .int) ∈ lwg := (lwg_of (tb3 (List.mem_of_getElem? (i := 73) rfl)) rfl)
theorem kw_X6_bury : Cond.code yX6_bury cX6_bury 3 (some .int) ∈ lwg := (lwg_of (tb2 (List.mem_of_getElem? (i := 235) rfl)) rfl)
theorem kw_X6_cheese : Cond.code yX6_cheese cX6_cheese 2 (some .int) ∈ lwg := (lwg_of (tb3 (List.mem_of_getElem? (i := 117) rfl)) rfl)
theorem kw_X6_copy : Cond.code yX6_copy cX6_copy 8 (some .int) ∈ lwg := (lwg_of (tb2 (List.mem_of_getElem? (i := 28) rfl)) rfl)
theorem kw_X6_count : Cond.code yX6_count cX6_count 2 (some .int) ∈ lwg := (lwg_of (tb3 (List.mem_of_getElem? (i := 218) rfl)) rfl)
theorem kw_X6_drawn : Cond.code yX6_drawn cX6_drawn 5 (some .int) ∈ lwg := (lwg_of (tb3 (List.mem_of_getElem? (i := 144) rfl)) rfl)
theorem kw_X6_drop : Cond.code yX6_drop cX6_drop 4 (some .int) ∈ lwg := (lwg_of (tb2 (List.mem_of_getElem? (i := 37) rfl)) rfl)
theorem kw_X6_dug : Cond.code yX6_dug cX6_dug 2 (some .int) ∈ lwg := (lwg_of (tb3 (List.mem_of_getElem? (i := 34) rfl)) rfl)
theorem kw_X6_fault : Cond.code yX6_fault cX6_fault 1 (some .int) ∈ lwg := (lwg_of (tb2 (List.mem_of_getElem? (i := 121) rfl)) rfl)
theorem kw_X6_feed : Cond.code yX6_feed cX6_feed 2 (some .int) ∈ lwg := (lwg_of (tb2 (List.mem_of_getElem? (i := 41) rfl)) rfl)
theorem kw_X6_fever : Cond.code yX6_fever cX6_fever 2 (some .int) ∈ lwg := (lwg_of (tb2 (List.mem_of_getElem? (i := 217) rfl)) rfl)
theorem kw_X6_firstDug : Cond.code yX6_firstDug cX6_firstDug 1 (some .int) ∈ lwg := (lwg_of (tb3 (List.mem_of_getElem? (i := 45) rfl)) rfl)
theorem kw_X6_forgets : Cond.code yX6_forgets cX6_forgets 3 (some .int) ∈ lwg := (lwg_of (tb3 (List.mem_of_getElem? (i := 77) rfl)) rfl)
theorem kw_X6_found : Cond.code yX6_found cX6_found 2 (some .int) ∈ lwg := (lwg_of (tb1 (List.mem_of_getElem? (i := 232) rfl)) rfl)
theorem kw_X6_grave : Cond.code yX6_grave cX6_grave 3 (some .int) ∈ lwg := (lwg_of (tb3 (List.mem_of_getElem? (i := 12) rfl)) rfl)
theorem kw_X6_hasBit : Cond.code yX6_hasBit cX6_hasBit 2 (some .boolean) ∈ lwg := (lwg_of (tb2 (List.mem_of_getElem? (i := 162) rfl)) rfl)
theorem kw_X6_image : Cond.code yX6_image cX6_image 2 (some .int) ∈ lwg := (lwg_of (tb3 (List.mem_of_getElem? (i := 162) rfl)) rfl)
theorem kw_X6_init : Cond.code yX6_init cX6_init 2 none ∈ lwg := (lwg_of (tb1 (List.mem_of_getElem? (i := 16) rfl)) rfl)
theorem kw_X6_isGrave : Cond.code yX6_isGrave cX6_isGrave 2 (some .boolean) ∈ lwg := (lwg_of (tb2 (List.mem_of_getElem? (i := 226) rfl)) rfl)
theorem kw_X6_isOfKind : Cond.code yX6_isOfKind cX6_isOfKind 3 (some .boolean) ∈ lwg := (lwg_of (tb3 (List.mem_of_getElem? (i := 177) rfl)) rfl)
theorem kw_X6_isRow : Cond.code yX6_isRow cX6_isRow 1 (some .boolean) ∈ lwg := (lwg_of (tb1 (List.mem_of_getElem? (i := 227) rfl)) rfl)
theorem kw_X6_isSleeper : Cond.code yX6_isSleeper cX6_isSleeper 2 (some .boolean) ∈ lwg := (lwg_of (tb2 (List.mem_of_getElem? (i := 205) rfl)) rfl)
theorem kw_X6_kind : Cond.code yX6_kind cX6_kind 2 (some .int) ∈ lwg := (lwg_of (tb3 (List.mem_of_getElem? (i := 170) rfl)) rfl)
theorem kw_X6_memory : Cond.code yX6_memory cX6_memory 3 (some .int) ∈ lwg := (lwg_of (tb3 (List.mem_of_getElem? (i := 8) rfl)) rfl)
theorem kw_X6_most : Cond.code yX6_most cX6_most 4 (some .int) ∈ lwg := (lwg_of (tb3 (List.mem_of_getElem? (i := 87) rfl)) rfl)
theorem kw_X6_noYard : Cond.code yX6_noYard cX6_noYard 1 (some .boolean) ∈ lwg := (lwg_of (tb2 (List.mem_of_getElem? (i := 139) rfl)) rfl)
theorem kw_X6_pair : Cond.code yX6_pair cX6_pair 3 (some .int) ∈ lwg := (lwg_of (tb3 (List.mem_of_getElem? (i := 92) rfl)) rfl)
theorem kw_X6_restore : Cond.code yX6_restore cX6_restore 2 (some .int) ∈ lwg := (lwg_of (tb3 (List.mem_of_getElem? (i := 166) rfl)) rfl)
theorem kw_X6_row : Cond.code yX6_row cX6_row 4 (some .int) ∈ lwg := (lwg_of (tb1 (List.mem_of_getElem? (i := 224) rfl)) rfl)
theorem kw_X6_rowsThere : Cond.code yX6_rowsThere cX6_rowsThere 3 (some .int) ∈ lwg := (lwg_of (tb3 (List.mem_of_getElem? (i := 222) rfl)) rfl)
theorem kw_X6_set : Cond.code yX6_set cX6_set 6 (some .int) ∈ lwg := (lwg_of (tb2 (List.mem_of_getElem? (i := 8) rfl)) rfl)
theorem kw_X6_sleeper : Cond.code yX6_sleeper cX6_sleeper 3 (some .int) ∈ lwg := (lwg_of (tb2 (List.mem_of_getElem? (i := 239) rfl)) rfl)
theorem kw_X6_sound : Cond.code yX6_sound cX6_sound 2 (some .int) ∈ lwg := (lwg_of (tb2 (List.mem_of_getElem? (i := 4) rfl)) rfl)
theorem kw_X6_status : Cond.code yX6_status cX6_status 1 (some .int) ∈ lwg := (lwg_of (tb3 (List.mem_of_getElem? (i := 226) rfl)) rfl)
theorem kw_X6_supper : Cond.code yX6_supper cX6_supper 2 (some .int) ∈ lwg := (lwg_of (tb2 (List.mem_of_getElem? (i := 201) rfl)) rfl)
theorem kw_X6_suppers : Cond.code yX6_suppers cX6_suppers 4 (some .int) ∈ lwg := (lwg_of (tb3 (List.mem_of_getElem? (i := 56) rfl)) rfl)
theorem kw_X6_tell : Cond.code yX6_tell cX6_tell 4 (some .int) ∈ lwg := (lwg_of (tb2 (List.mem_of_getElem? (i := 222) rfl)) rfl)
theorem kw_X6_trace : Cond.code yX6_trace cX6_trace 2 (some .int) ∈ lwg := (lwg_of (tb3 (List.mem_of_getElem? (i := 214) rfl)) rfl)
theorem kw_X6_undo : Cond.code yX6_undo cX6_undo 1 (some .int) ∈ lwg := (lwg_of (tb2 (List.mem_of_getElem? (i := 125) rfl)) rfl)
theorem kw_X6_whispered : Cond.code yX6_whispered cX6_whispered 6 (some .int) ∈ lwg := (lwg_of (tb3 (List.mem_of_getElem? (i := 108) rfl)) rfl)
theorem kw_X6_who : Cond.code yX6_who cX6_who 6 (some .int) ∈ lwg := (lwg_of (tb3 (List.mem_of_getElem? (i := 96) rfl)) rfl)
theorem kw_X6_yard : Cond.code yX6_yard cX6_yard 2 (some .int) ∈ lwg := (lwg_of (tb2 (List.mem_of_getElem? (i := 50) rfl)) rfl)
theorem kw_X6_years : Cond.code yX6_years cX6_years 3 (some .int) ∈ lwg := (lwg_of (tb2 (List.mem_of_getElem? (i := 135) rfl)) rfl)
theorem kw_X7_ahead : Cond.code yX7_ahead cX7_ahead 3 (some .int) ∈ lwg := (lwg_of (tb5 (List.mem_of_getElem? (i := 5) rfl)) rfl)
theorem kw_X7_allDreams : Cond.code yX7_allDreams cX7_allDreams 3 (some .int) ∈ lwg := (lwg_of (tb4 (List.mem_of_getElem? (i := 175) rfl)) rfl)
theorem kw_X7_as : Cond.code yX7_as cX7_as 3 (some .int) ∈ lwg := (lwg_of (tb5 (List.mem_of_getElem? (i := 121) rfl)) rfl)
theorem kw_X7_asLane : Cond.code yX7_asLane cX7_asLane 2 (some .int) ∈ lwg := (lwg_of (tb4 (List.mem_of_getElem? (i := 98) rfl)) rfl)
theorem kw_X7_ask : Cond.code yX7_ask cX7_ask 3 (some .int) ∈ lwg := (lwg_of (tb5 (List.mem_of_getElem? (i := 128) rfl)) rfl)
theorem kw_X7_awake : Cond.code yX7_awake cX7_awake 14 (some .long) ∈ lwg := (lwg_of (tb5 (List.mem_of_getElem? (i := 94) rfl)) rfl)
theorem kw_X7_begin : Cond.code yX7_begin cX7_begin 2 none ∈ lwg := (lwg_of (tb5 (List.mem_of_getElem? (i := 136) rfl)) rfl)
theorem kw_X7_bound : Cond.code yX7_bound cX7_bound 2 (some .int) ∈ lwg := (lwg_of (tb5 (List.mem_of_getElem? (i := 52) rfl)) rfl)
theorem kw_X7_bury : Cond.code yX7_bury cX7_bury 3 (some .int) ∈ lwg := (lwg_of (tb4 (List.mem_of_getElem? (i := 225) rfl)) rfl)
theorem kw_X7_cheese : Cond.code yX7_cheese cX7_cheese 5 (some .int) ∈ lwg := (lwg_of (tb5 (List.mem_of_getElem? (i := 86) rfl)) rfl)
theorem kw_X7_copy : Cond.code yX7_copy cX7_copy 7 (some .int) ∈ lwg := (lwg_of (tb4 (List.mem_of_getElem? (i := 102) rfl)) rfl)
theorem kw_X7_count : Cond.code yX7_count cX7_count 4 (some .int) ∈ lwg := (lwg_of (tb5 (List.mem_of_getElem? (i := 168) rfl)) rfl)
theorem kw_X7_drawn : Cond.code yX7_drawn cX7_drawn 8 (some .int) ∈ lwg := (lwg_of (tb5 (List.mem_of_getElem? (i := 101) rfl)) rfl)
theorem kw_X7_dreamerMark : Cond.code yX7_dreamerMark cX7_dreamerMark 2 (some .int) ∈ lwg := (lwg_of (tb5 (List.mem_of_getElem? (i := 152) rfl)) rfl)
theorem kw_X7_dreamerSize : Cond.code yX7_dreamerSize cX7_dreamerSize 3 (some .int) ∈ lwg := (lwg_of (tb5 (List.mem_of_getElem? (i := 140) rfl)) rfl)
theorem kw_X7_dreams : Cond.code yX7_dreams cX7_dreams 6 (some .int) ∈ lwg := (lwg_of (tb4 (List.mem_of_getElem? (i := 179) rfl)) rfl)
theorem kw_X7_drop : Cond.code yX7_drop cX7_drop 3 (some .int) ∈ lwg := (lwg_of (tb4 (List.mem_of_getElem? (i := 106) rfl)) rfl)
theorem kw_X7_dug : Cond.code yX7_dug cX7_dug 2 (some .int) ∈ lwg := (lwg_of (tb5 (List.mem_of_getElem? (i := 18) rfl)) rfl)
theorem kw_X7_dugIn : Cond.code yX7_dugIn cX7_dugIn 5 (some .int) ∈ lwg := (lwg_of (tb5 (List.mem_of_getElem? (i := 22) rfl)) rfl)
theorem kw_X7_fault : Cond.code yX7_fault cX7_fault 1 (some .int) ∈ lwg := (lwg_of (tb4 (List.mem_of_getElem? (i := 153) rfl)) rfl)
theorem kw_X7_faults : Cond.code yX7_faults cX7_faults 2 (some .boolean) ∈ lwg := (lwg_of (tb4 (List.mem_of_getElem? (i := 140) rfl)) rfl)
theorem kw_X7_feed : Cond.code yX7_feed cX7_feed 2 (some .int) ∈ lwg := (lwg_of (tb4 (List.mem_of_getElem? (i := 110) rfl)) rfl)
theorem kw_X7_feedAll : Cond.code yX7_feedAll cX7_feedAll 2 none ∈ lwg := (lwg_of (tb5 (List.mem_of_getElem? (i := 26) rfl)) rfl)
theorem kw_X7_fever : Cond.code yX7_fever cX7_fever 2 (some .int) ∈ lwg := (lwg_of (tb4 (List.mem_of_getElem? (i := 213) rfl)) rfl)
theorem kw_X7_find : Cond.code yX7_find cX7_find 2 (some .int) ∈ lwg := (lwg_of (tb4 (List.mem_of_getElem? (i := 86) rfl)) rfl)
theorem kw_X7_findWay : Cond.code yX7_findWay cX7_findWay 11 (some .int) ∈ lwg := (lwg_of (tb5 (List.mem_of_getElem? (i := 40) rfl)) rfl)
theorem kw_X7_firstDug : Cond.code yX7_firstDug cX7_firstDug 5 (some .int) ∈ lwg := (lwg_of (tb5 (List.mem_of_getElem? (i := 31) rfl)) rfl)
theorem kw_X7_forgets : Cond.code yX7_forgets cX7_forgets 5 (some .int) ∈ lwg := (lwg_of (tb5 (List.mem_of_getElem? (i := 56) rfl)) rfl)
theorem kw_X7_giveSuppers : Cond.code yX7_giveSuppers cX7_giveSuppers 3 none ∈ lwg := (lwg_of (tb5 (List.mem_of_getElem? (i := 48) rfl)) rfl)
theorem kw_X7_grave : Cond.code yX7_grave cX7_grave 5 (some .int) ∈ lwg := (lwg_of (tb5 (List.mem_of_getElem? (i := 1) rfl)) rfl)
theorem kw_X7_has : Cond.code yX7_has cX7_has 2 (some .boolean) ∈ lwg := (lwg_of (tb4 (List.mem_of_getElem? (i := 186) rfl)) rfl)
theorem kw_X7_image : Cond.code yX7_image cX7_image 3 (some .int) ∈ lwg := (lwg_of (tb5 (List.mem_of_getElem? (i := 109) rfl)) rfl)
theorem kw_X7_in : Cond.code yX7_in cX7_in 6 (some .boolean) ∈ lwg := (lwg_of (tb4 (List.mem_of_getElem? (i := 80) rfl)) rfl)
theorem kw_X7_init : Cond.code yX7_init cX7_init 2 none ∈ lwg := (lwg_of (tb3 (List.mem_of_getElem? (i := 231) rfl)) rfl)
theorem kw_X7_isGrave : Cond.code yX7_isGrave cX7_isGrave 2 (some .boolean) ∈ lwg := (lwg_of (tb4 (List.mem_of_getElem? (i := 221) rfl)) rfl)
theorem kw_X7_isKeptBy : Cond.code yX7_isKeptBy cX7_isKeptBy 4 (some .boolean) ∈ lwg := (lwg_of (tb5 (List.mem_of_getElem? (i := 44) rfl)) rfl)
theorem kw_X7_isKind : Cond.code yX7_isKind cX7_isKind 2 (some .boolean) ∈ lwg := (lwg_of (tb5 (List.mem_of_getElem? (i := 124) rfl)) rfl)
theorem kw_X7_isLetter : Cond.code yX7_isLetter cX7_isLetter 2 (some .boolean) ∈ lwg := (lwg_of (tb4 (List.mem_of_getElem? (i := 136) rfl)) rfl)
theorem kw_X7_isRow : Cond.code yX7_isRow cX7_isRow 1 (some .boolean) ∈ lwg := (lwg_of (tb4 (List.mem_of_getElem? (i := 76) rfl)) rfl)
theorem kw_X7_isSleeper : Cond.code yX7_isSleeper cX7_isSleeper 2 (some .boolean) ∈ lwg := (lwg_of (tb4 (List.mem_of_getElem? (i := 202) rfl)) rfl)
theorem kw_X7_isSo : Cond.code yX7_isSo cX7_isSo 5 (some .boolean) ∈ lwg := (lwg_of (tb5 (List.mem_of_getElem? (i := 77) rfl)) rfl)
theorem kw_X7_kind : Cond.code yX7_kind cX7_kind 2 (some .int) ∈ lwg := (lwg_of (tb5 (List.mem_of_getElem? (i := 117) rfl)) rfl)
theorem kw_X7_lacks : Cond.code yX7_lacks cX7_lacks 4 (some .int) ∈ lwg := (lwg_of (tb5 (List.mem_of_getElem? (i := 73) rfl)) rfl)
theorem kw_X7_lent : Cond.code yX7_lent cX7_lent 3 (some .int) ∈ lwg := (lwg_of (tb5 (List.mem_of_getElem? (i := 144) rfl)) rfl)
theorem kw_X7_lessOf : Cond.code yX7_lessOf cX7_lessOf 2 (some .int) ∈ lwg := (lwg_of (tb4 (List.mem_of_getElem? (i := 194) rfl)) rfl)
theorem kw_X7_markOf : Cond.code yX7_markOf cX7_markOf 4 (some .int) ∈ lwg := (lwg_of (tb5 (List.mem_of_getElem? (i := 148) rfl)) rfl)
theorem kw_X7_memory : Cond.code yX7_memory cX7_memory 3 (some .int) ∈ lwg := (lwg_of (tb4 (List.mem_of_getElem? (i := 237) rfl)) rfl)
theorem kw_X7_memoryBy : Cond.code yX7_memoryBy cX7_memoryBy 4 (some .int) ∈ lwg := (lwg_of (tb4 (List.mem_of_getElem? (i := 233) rfl)) rfl)
theorem kw_X7_memoryOf : Cond.code yX7_memoryOf cX7_memoryOf 3 (some .int) ∈ lwg := (lwg_of (tb4 (List.mem_of_getElem? (i := 190) rfl)) rfl)
theorem kw_X7_most : Cond.code yX7_most cX7_most 5 (some .int) ∈ lwg := (lwg_of (tb5 (List.mem_of_getElem? (i := 60) rfl)) rfl)
theorem kw_X7_mostOf : Cond.code yX7_mostOf cX7_mostOf 6 (some .int) ∈ lwg := (lwg_of (tb4 (List.mem_of_getElem? (i := 183) rfl)) rfl)
theorem kw_X7_needsSupper : Cond.code yX7_needsSupper cX7_needsSupper 6 (some .boolean) ∈ lwg := (lwg_of (tb5 (List.mem_of_getElem? (i := 90) rfl)) rfl)
theorem kw_X7_nextToken : Cond.code yX7_nextToken cX7_nextToken 1 none ∈ lwg := (lwg_of (tb4 (List.mem_of_getElem? (i := 124) rfl)) rfl)
theorem kw_X7_note : Cond.code yX7_note cX7_note 2 none ∈ lwg := (lwg_of (tb4 (List.mem_of_getElem? (i := 167) rfl)) rfl)
theorem kw_X7_oneYear : Cond.code yX7_oneYear cX7_oneYear 4 none ∈ lwg := (lwg_of (tb4 (List.mem_of_getElem? (i := 171) rfl)) rfl)
theorem kw_X7_ones : Cond.code yX7_ones cX7_ones 3 (some .int) ∈ lwg := (lwg_of (tb4 (List.mem_of_getElem? (i := 209) rfl)) rfl)
theorem kw_X7_pair : Cond.code yX7_pair cX7_pair 3 (some .int) ∈ lwg := (lwg_of (tb5 (List.mem_of_getElem? (i := 64) rfl)) rfl)
theorem kw_X7_putAside : Cond.code yX7_putAside cX7_putAside 2 none ∈ lwg := (lwg_of (tb5 (List.mem_of_getElem? (i := 10) rfl)) rfl)
theorem kw_X7_readSleeper : Cond.code yX7_readSleeper cX7_readSleeper 5 (some .boolean) ∈ lwg := (lwg_of (tb4 (List.mem_of_getElem? (i := 148) rfl)) rfl)
theorem kw_X7_readYard : Cond.code yX7_readYard cX7_readYard 3 (some .boolean) ∈ lwg := (lwg_of (tb4 (List.mem_of_getElem? (i := 120) rfl)) rfl)
theorem kw_X7_restore : Cond.code yX7_restore cX7_restore 3 (some .int) ∈ lwg := (lwg_of (tb5 (List.mem_of_getElem? (i := 113) rfl)) rfl)
theorem kw_X7_row : Cond.code yX7_row cX7_row 5 (some .int) ∈ lwg := (lwg_of (tb4 (List.mem_of_getElem? (i := 73) rfl)) rfl)
theorem kw_X7_set : Cond.code yX7_set cX7_set 4 (some .int) ∈ lwg := (lwg_of (tb4 (List.mem_of_getElem? (i := 95) rfl)) rfl)
theorem kw_X7_sizeOf : Cond.code yX7_sizeOf cX7_sizeOf 3 (some .int) ∈ lwg := (lwg_of (tb5 (List.mem_of_getElem? (i := 132) rfl)) rfl)
theorem kw_X7_sizeOfWife : Cond.code yX7_sizeOfWife cX7_sizeOfWife 2 (some .int) ∈ lwg := (lwg_of (tb5 (List.mem_of_getElem? (i := 156) rfl)) rfl)
theorem kw_X7_sleeper : Cond.code yX7_sleeper cX7_sleeper 3 (some .int) ∈ lwg := (lwg_of (tb4 (List.mem_of_getElem? (i := 229) rfl)) rfl)
theorem kw_X7_status : Cond.code yX7_status cX7_status 1 (some .int) ∈ lwg := (lwg_of (tb5 (List.mem_of_getElem? (i := 172) rfl)) rfl)
theorem kw_X7_supper : Cond.code yX7_supper cX7_supper 2 (some .int) ∈ lwg := (lwg_of (tb4 (List.mem_of_getElem? (i := 198) rfl)) rfl)
theorem kw_X7_suppered : Cond.code yX7_suppered cX7_suppered 3 (some .int) ∈ lwg := (lwg_of (tb4 (List.mem_of_getElem? (i := 206) rfl)) rfl)
theorem kw_X7_suppers : Cond.code yX7_suppers cX7_suppers 7 (some .int) ∈ lwg := (lwg_of (tb5 (List.mem_of_getElem? (i := 35) rfl)) rfl)
theorem kw_X7_takeBack : Cond.code yX7_takeBack cX7_takeBack 2 none ∈ lwg := (lwg_of (tb5 (List.mem_of_getElem? (i := 14) rfl)) rfl)
theorem kw_X7_takes : Cond.code yX7_takes cX7_takes 2 (some .boolean) ∈ lwg := (lwg_of (tb4 (List.mem_of_getElem? (i := 132) rfl)) rfl)
theorem kw_X7_takesNumber : Cond.code yX7_takesNumber cX7_takesNumber 5 (some .boolean) ∈ lwg := (lwg_of (tb4 (List.mem_of_getElem? (i := 144) rfl)) rfl)
theorem kw_X7_tell : Cond.code yX7_tell cX7_tell 4 (some .int) ∈ lwg := (lwg_of (tb4 (List.mem_of_getElem? (i := 217) rfl)) rfl)
theorem kw_X7_trace : Cond.code yX7_trace cX7_trace 2 (some .int) ∈ lwg := (lwg_of (tb5 (List.mem_of_getElem? (i := 164) rfl)) rfl)
theorem kw_X7_undo : Cond.code yX7_undo cX7_undo 2 (some .int) ∈ lwg := (lwg_of (tb4 (List.mem_of_getElem? (i := 157) rfl)) rfl)
theorem kw_X7_well : Cond.code yX7_well cX7_well 2 (some .int) ∈ lwg := (lwg_of (tb4 (List.mem_of_getElem? (i := 91) rfl)) rfl)
theorem kw_X7_whispered : Cond.code yX7_whispered cX7_whispered 8 (some .int) ∈ lwg := (lwg_of (tb5 (List.mem_of_getElem? (i := 81) rfl)) rfl)
theorem kw_X7_who : Cond.code yX7_who cX7_who 8 (some .int) ∈ lwg := (lwg_of (tb5 (List.mem_of_getElem? (i := 68) rfl)) rfl)
theorem kw_X7_wifeSize : Cond.code yX7_wifeSize cX7_wifeSize 2 (some .int) ∈ lwg := (lwg_of (tb5 (List.mem_of_getElem? (i := 160) rfl)) rfl)
theorem kw_X7_yard : Cond.code yX7_yard cX7_yard 3 (some .int) ∈ lwg := (lwg_of (tb4 (List.mem_of_getElem? (i := 116) rfl)) rfl)
theorem kw_X7_years : Cond.code yX7_years cX7_years 3 (some .int) ∈ lwg := (lwg_of (tb4 (List.mem_of_getElem? (i := 162) rfl)) rfl)
end
section
theorem D_J6_bitCount_0f7a4_0 : qd cJ6_bitCount_0f7a4 0 (.iload_n 0) 1 1 := ⟨by decide +kernel, rfl⟩
theorem D_J6_bitCount_0f7a4_1 : qd cJ6_bitCount_0f7a4 1 (.iload_n 0) 1 2 := ⟨by decide +kernel, rfl⟩
theorem D_J6_bitCount_0f7a4_2 : qd cJ6_bitCount_0f7a4 2 (.iconst 1) 1 3 := ⟨by decide +kernel, rfl⟩
theorem D_J6_bitCount_0f7a4_3 : qd cJ6_bitCount_0f7a4 3 (.iushr) 1 4 := ⟨by decide +kernel, rfl⟩
theorem D_J6_bitCount_0f7a4_4 : qd cJ6_bitCount_0f7a4 4 (.ldc_w 265) 3 7 := ⟨by decide +kernel, rfl⟩
theorem D_J6_bitCount_0f7a4_7 : qd cJ6_bitCount_0f7a4 7 (.iand) 1 8 := ⟨by decide +kernel, rfl⟩
theorem D_J6_bitCount_0f7a4_8 : qd cJ6_bitCount_0f7a4 8 (.isub) 1 9 := ⟨by decide +kernel, rfl⟩
theorem D_J6_bitCount_0f7a4_9 : qd cJ6_bitCount_0f7a4 9 (.istore_n 0) 1 10 := ⟨by decide +kernel, rfl⟩
theorem D_J6_bitCount_0f7a4_10 : qd cJ6_bitCount_0f7a4 10 (.iload_n 0) 1 11 := ⟨by decide +kernel, rfl⟩
theorem D_J6_bitCount_0f7a4_11 : qd cJ6_bitCount_0f7a4 11 (.ldc_w 266) 3 14 := ⟨by decide +kernel, rfl⟩
theorem D_J6_bitCount_0f7a4_14 : qd cJ6_bitCount_0f7a4 14 (.iand) 1 15 := ⟨by decide +kernel, rfl⟩
theorem D_J6_bitCount_0f7a4_15 : qd cJ6_bitCount_0f7a4 15 (.iload_n 0) 1 16 := ⟨by decide +kernel, rfl⟩
theorem D_J6_bitCount_0f7a4_16 : qd cJ6_bitCount_0f7a4 16 (.iconst 2) 1 17 := ⟨by decide +kernel, rfl⟩
theorem D_J6_bitCount_0f7a4_17 : qd cJ6_bitCount_0f7a4 17 (.iushr) 1 18 := ⟨by decide +kernel, rfl⟩
theorem D_J6_bitCount_0f7a4_18 : qd cJ6_bitCount_0f7a4 18 (.ldc_w 266) 3 21 := ⟨by decide +kernel, rfl⟩
theorem D_J6_bitCount_0f7a4_21 : qd cJ6_bitCount_0f7a4 21 (.iand) 1 22 := ⟨by decide +kernel, rfl⟩
theorem D_J6_bitCount_0f7a4_22 : qd cJ6_bitCount_0f7a4 22 (.iadd) 1 23 := ⟨by decide +kernel, rfl⟩
theorem D_J6_bitCount_0f7a4_23 : qd cJ6_bitCount_0f7a4 23 (.istore_n 0) 1 24 := ⟨by decide +kernel, rfl⟩
theorem D_J6_bitCount_0f7a4_24 : qd cJ6_bitCount_0f7a4 24 (.iload_n 0) 1 25 := ⟨by decide +kernel, rfl⟩
theorem D_J6_bitCount_0f7a4_25 : qd cJ6_bitCount_0f7a4 25 (.iload_n 0) 1 26 := ⟨by decide +kernel, rfl⟩
theorem D_J6_bitCount_0f7a4_26 : qd cJ6_bitCount_0f7a4 26 (.iconst 4) 1 27 := ⟨by decide +kernel, rfl⟩
theorem D_J6_bitCount_0f7a4_27 : qd cJ6_bitCount_0f7a4 27 (.iushr) 1 28 := ⟨by decide +kernel, rfl⟩
theorem D_J6_bitCount_0f7a4_28 : qd cJ6_bitCount_0f7a4 28 (.iadd) 1 29 := ⟨by decide +kernel, rfl⟩
theorem D_J6_bitCount_0f7a4_29 : qd cJ6_bitCount_0f7a4 29 (.ldc_w 267) 3 32 := ⟨by decide +kernel, rfl⟩
theorem D_J6_bitCount_0f7a4_32 : qd cJ6_bitCount_0f7a4 32 (.iand) 1 33 := ⟨by decide +kernel, rfl⟩
theorem D_J6_bitCount_0f7a4_33 : qd cJ6_bitCount_0f7a4 33 (.istore_n 0) 1 34 := ⟨by decide +kernel, rfl⟩
theorem D_J6_bitCount_0f7a4_34 : qd cJ6_bitCount_0f7a4 34 (.iload_n 0) 1 35 := ⟨by decide +kernel, rfl⟩
theorem D_J6_bitCount_0f7a4_35 : qd cJ6_bitCount_0f7a4 35 (.iload_n 0) 1 36 := ⟨by decide +kernel, rfl⟩
theorem D_J6_bitCount_0f7a4_36 : qd cJ6_bitCount_0f7a4 36 (.bipush 8) 2 38 := ⟨by decide +kernel, rfl⟩
theorem D_J6_bitCount_0f7a4_38 : qd cJ6_bitCount_0f7a4 38 (.iushr) 1 39 := ⟨by decide +kernel, rfl⟩
theorem D_J6_bitCount_0f7a4_39 : qd cJ6_bitCount_0f7a4 39 (.iadd) 1 40 := ⟨by decide +kernel, rfl⟩
theorem D_J6_bitCount_0f7a4_40 : qd cJ6_bitCount_0f7a4 40 (.istore_n 0) 1 41 := ⟨by decide +kernel, rfl⟩
theorem D_J6_bitCount_0f7a4_41 : qd cJ6_bitCount_0f7a4 41 (.iload_n 0) 1 42 := ⟨by decide +kernel, rfl⟩
theorem D_J6_bitCount_0f7a4_42 : qd cJ6_bitCount_0f7a4 42 (.iload_n 0) 1 43 := ⟨by decide +kernel, rfl⟩
theorem D_J6_bitCount_0f7a4_43 : qd cJ6_bitCount_0f7a4 43 (.bipush 16) 2 45 := ⟨by decide +kernel, rfl⟩
theorem D_J6_bitCount_0f7a4_45 : qd cJ6_bitCount_0f7a4 45 (.iushr) 1 46 := ⟨by decide +kernel, rfl⟩
theorem D_J6_bitCount_0f7a4_46 : qd cJ6_bitCount_0f7a4 46 (.iadd) 1 47 := ⟨by decide +kernel, rfl⟩
theorem D_J6_bitCount_0f7a4_47 : qd cJ6_bitCount_0f7a4 47 (.istore_n 0) 1 48 := ⟨by decide +kernel, rfl⟩
theorem D_J6_bitCount_0f7a4_48 : qd cJ6_bitCount_0f7a4 48 (.iload_n 0) 1 49 := ⟨by decide +kernel, rfl⟩
theorem D_J6_bitCount_0f7a4_49 : qd cJ6_bitCount_0f7a4 49 (.bipush 63) 2 51 := ⟨by decide +kernel, rfl⟩
theorem D_J6_bitCount_0f7a4_51 : qd cJ6_bitCount_0f7a4 51 (.iand) 1 52 := ⟨by decide +kernel, rfl⟩
theorem D_J6_bitCount_0f7a4_52 : qd cJ6_bitCount_0f7a4 52 (.ireturn) 1 53 := ⟨by decide +kernel, rfl⟩
theorem D_J7_fill_53178_0 : qd cJ7_fill_53178 0 (.iconst 0) 1 1 := ⟨by decide +kernel, rfl⟩
theorem D_J7_fill_53178_1 : qd cJ7_fill_53178 1 (.istore_n 2) 1 2 := ⟨by decide +kernel, rfl⟩
theorem D_J7_fill_53178_2 : qd cJ7_fill_53178 2 (.aload_n 0) 1 3 := ⟨by decide +kernel, rfl⟩
theorem D_J7_fill_53178_3 : qd cJ7_fill_53178 3 (.arraylength) 1 4 := ⟨by decide +kernel, rfl⟩
theorem D_J7_fill_53178_4 : qd cJ7_fill_53178 4 (.istore_n 3) 1 5 := ⟨by decide +kernel, rfl⟩
theorem D_J7_fill_53178_5 : qd cJ7_fill_53178 5 (.iload_n 2) 1 6 := ⟨by decide +kernel, rfl⟩
theorem D_J7_fill_53178_6 : qd cJ7_fill_53178 6 (.iload_n 3) 1 7 := ⟨by decide +kernel, rfl⟩
theorem D_J7_fill_53178_7 : qj cJ7_fill_53178 7 (.if_icmp .ge 13) (13) 10 20 := ⟨by decide +kernel, rfl, by decide⟩
theorem D_J7_fill_53178_10 : qd cJ7_fill_53178 10 (.aload_n 0) 1 11 := ⟨by decide +kernel, rfl⟩
theorem D_J7_fill_53178_11 : qd cJ7_fill_53178 11 (.iload_n 2) 1 12 := ⟨by decide +kernel, rfl⟩
theorem D_J7_fill_53178_12 : qd cJ7_fill_53178 12 (.iload_n 1) 1 13 := ⟨by decide +kernel, rfl⟩
theorem D_J7_fill_53178_13 : qd cJ7_fill_53178 13 (.iastore) 1 14 := ⟨by decide +kernel, rfl⟩
theorem D_J7_fill_53178_14 : qd cJ7_fill_53178 14 (.iinc 2 1) 3 17 := ⟨by decide +kernel, rfl⟩
theorem D_J7_fill_53178_17 : qj cJ7_fill_53178 17 (.goto (-12)) (-12) 20 5 := ⟨by decide +kernel, rfl, by decide⟩
theorem D_J7_fill_53178_20 : qd cJ7_fill_53178 20 (.return_) 1 21 := ⟨by decide +kernel, rfl⟩
theorem D_X0_answer_0 : qd cX0_answer 0 (.aload_n 0) 1 1 := ⟨by decide +kernel, rfl⟩
theorem D_X0_answer_1 : qd cX0_answer 1 (.iconst 0) 1 2 := ⟨by decide +kernel, rfl⟩
theorem D_X0_answer_2 : qd cX0_answer 2 (.putfield 15) 3 5 := ⟨by decide +kernel, rfl⟩
theorem D_X0_answer_5 : qd cX0_answer 5 (.iload_n 3) 1 6 := ⟨by decide +kernel, rfl⟩
theorem D_X0_answer_6 : qj cX0_answer 6 (.ifCond .ne 13) (13) 9 19 := ⟨by decide +kernel, rfl, by decide⟩
theorem D_X0_answer_9 : qd cX0_answer 9 (.aload_n 0) 1 10 := ⟨by decide +kernel, rfl⟩
theorem D_X0_answer_10 : qd cX0_answer 10 (.aload_n 1) 1 11 := ⟨by decide +kernel, rfl⟩
theorem D_X0_answer_11 : qd cX0_answer 11 (.iload_n 2) 1 12 := ⟨by decide +kernel, rfl⟩
theorem D_X0_answer_12 : qd cX0_answer 12 (.iconst 0) 1 13 := ⟨by decide +kernel, rfl⟩
theorem D_X0_answer_13 : qd cX0_answer 13 (.invokevirtual 19) 3 16 := ⟨by decide +kernel, rfl⟩
theorem D_X0_answer_16 : qj cX0_answer 16 (.goto 10) (10) 19 26 := ⟨by decide +kernel, rfl, by decide⟩
theorem D_X0_answer_19 : qd cX0_answer 19 (.aload_n 0) 1 20 := ⟨by decide +kernel, rfl⟩
theorem D_X0_answer_20 : qd cX0_answer 20 (.aload_n 1) 1 21 := ⟨by decide +kernel, rfl⟩
theorem D_X0_answer_21 : qd cX0_answer 21 (.iload_n 2) 1 22 := ⟨by decide +kernel, rfl⟩
theorem D_X0_answer_22 : qd cX0_answer 22 (.iconst 0) 1 23 := ⟨by decide +kernel, rfl⟩
theorem D_X0_answer_23 : qd cX0_answer 23 (.invokevirtual 23) 3 26 := ⟨by decide +kernel, rfl⟩
theorem D_X0_answer_26 : qd cX0_answer 26 (.ireturn) 1 27 := ⟨by decide +kernel, rfl⟩
theorem D_X0_give_0 : qd cX0_give 0 (.iload 4) 2 2 := ⟨by decide +kernel, rfl⟩
theorem D_X0_give_2 : qd cX0_give 2 (.bipush 8) 2 4 := ⟨by decide +kernel, rfl⟩
theorem D_X0_give_4 : qj cX0_give 4 (.if_icmp .le 5) (5) 7 9 := ⟨by decide +kernel, rfl, by decide⟩
theorem D_X0_give_7 : qd cX0_give 7 (.iconst 0) 1 8 := ⟨by decide +kernel, rfl⟩
theorem D_X0_give_8 : qd cX0_give 8 (.ireturn) 1 9 := ⟨by decide +kernel, rfl⟩
theorem D_X0_give_9 : qd cX0_give 9 (.aload_n 0) 1 10 := ⟨by decide +kernel, rfl⟩
theorem D_X0_give_10 : qd cX0_give 10 (.iload_n 1) 1 11 := ⟨by decide +kernel, rfl⟩
theorem D_X0_give_11 : qd cX0_give 11 (.invokevirtual 45) 3 14 := ⟨by decide +kernel, rfl⟩
theorem D_X0_give_14 : qd cX0_give 14 (.iload 4) 2 16 := ⟨by decide +kernel, rfl⟩
theorem D_X0_give_16 : qd cX0_give 16 (.iconst 1) 1 17 := ⟨by decide +kernel, rfl⟩
theorem D_X0_give_17 : qd cX0_give 17 (.iadd) 1 18 := ⟨by decide +kernel, rfl⟩
theorem D_X0_give_18 : qd cX0_give 18 (.istore 5) 2 20 := ⟨by decide +kernel, rfl⟩
theorem D_X0_give_20 : qd cX0_give 20 (.iload_n 1) 1 21 := ⟨by decide +kernel, rfl⟩
theorem D_X0_give_21 : qd cX0_give 21 (.tableswitch 209 10 24 #[75, 81, 101, 114, 128, 209, 209, 209, 209, 209, 141, 143, 161, 176, 196]) 75 96 := ⟨by decide +kernel, rfl⟩
theorem D_X0_give_96 : qd cX0_give 96 (.aload_n 2) 1 97 := ⟨by decide +kernel, rfl⟩
theorem D_X0_give_97 : qd cX0_give 97 (.iload_n 3) 1 98 := ⟨by decide +kernel, rfl⟩
theorem D_X0_give_98 : qd cX0_give 98 (.invokevirtual 49) 3 101 := ⟨by decide +kernel, rfl⟩
theorem D_X0_give_101 : qd cX0_give 101 (.ireturn) 1 102 := ⟨by decide +kernel, rfl⟩
theorem D_X0_give_102 : qd cX0_give 102 (.aload_n 0) 1 103 := ⟨by decide +kernel, rfl⟩
theorem D_X0_give_103 : qd cX0_give 103 (.bipush 10) 2 105 := ⟨by decide +kernel, rfl⟩
theorem D_X0_give_105 : qd cX0_give 105 (.aload_n 2) 1 106 := ⟨by decide +kernel, rfl⟩
theorem D_X0_give_106 : qd cX0_give 106 (.iload_n 3) 1 107 := ⟨by decide +kernel, rfl⟩
theorem D_X0_give_107 : qd cX0_give 107 (.iload 5) 2 109 := ⟨by decide +kernel, rfl⟩
theorem D_X0_give_109 : qd cX0_give 109 (.invokevirtual 33) 3 112 := ⟨by decide +kernel, rfl⟩
theorem D_X0_give_112 : qd cX0_give 112 (.aload_n 0) 1 113 := ⟨by decide +kernel, rfl⟩
theorem D_X0_give_113 : qd cX0_give 113 (.aload_n 2) 1 114 := ⟨by decide +kernel, rfl⟩
theorem D_X0_give_114 : qd cX0_give 114 (.iload_n 3) 1 115 := ⟨by decide +kernel, rfl⟩
theorem D_X0_give_115 : qd cX0_give 115 (.iload 5) 2 117 := ⟨by decide +kernel, rfl⟩
theorem D_X0_give_117 : qd cX0_give 117 (.invokevirtual 23) 3 120 := ⟨by decide +kernel, rfl⟩
theorem D_X0_give_120 : qd cX0_give 120 (.iadd) 1 121 := ⟨by decide +kernel, rfl⟩
theorem D_X0_give_121 : qd cX0_give 121 (.ireturn) 1 122 := ⟨by decide +kernel, rfl⟩
theorem D_X0_give_122 : qd cX0_give 122 (.iconst 0) 1 123 := ⟨by decide +kernel, rfl⟩
theorem D_X0_give_123 : qd cX0_give 123 (.aload_n 0) 1 124 := ⟨by decide +kernel, rfl⟩
theorem D_X0_give_124 : qd cX0_give 124 (.bipush 11) 2 126 := ⟨by decide +kernel, rfl⟩
theorem D_X0_give_126 : qd cX0_give 126 (.aload_n 2) 1 127 := ⟨by decide +kernel, rfl⟩
theorem D_X0_give_127 : qd cX0_give 127 (.iload_n 3) 1 128 := ⟨by decide +kernel, rfl⟩
theorem D_X0_give_128 : qd cX0_give 128 (.iload 5) 2 130 := ⟨by decide +kernel, rfl⟩
theorem D_X0_give_130 : qd cX0_give 130 (.invokevirtual 33) 3 133 := ⟨by decide +kernel, rfl⟩
theorem D_X0_give_133 : qd cX0_give 133 (.isub) 1 134 := ⟨by decide +kernel, rfl⟩
theorem D_X0_give_134 : qd cX0_give 134 (.ireturn) 1 135 := ⟨by decide +kernel, rfl⟩
theorem D_X0_give_135 : qd cX0_give 135 (.aload_n 0) 1 136 := ⟨by decide +kernel, rfl⟩
theorem D_X0_give_136 : qd cX0_give 136 (.bipush 10) 2 138 := ⟨by decide +kernel, rfl⟩
theorem D_X0_give_138 : qd cX0_give 138 (.aload_n 2) 1 139 := ⟨by decide +kernel, rfl⟩
theorem D_X0_give_139 : qd cX0_give 139 (.iload_n 3) 1 140 := ⟨by decide +kernel, rfl⟩
theorem D_X0_give_140 : qd cX0_give 140 (.iload 5) 2 142 := ⟨by decide +kernel, rfl⟩
theorem D_X0_give_142 : qd cX0_give 142 (.invokevirtual 33) 3 145 := ⟨by decide +kernel, rfl⟩
theorem D_X0_give_145 : qd cX0_give 145 (.bipush 100) 2 147 := ⟨by decide +kernel, rfl⟩
theorem D_X0_give_147 : qd cX0_give 147 (.isub) 1 148 := ⟨by decide +kernel, rfl⟩
theorem D_X0_give_148 : qd cX0_give 148 (.ireturn) 1 149 := ⟨by decide +kernel, rfl⟩
theorem D_X0_give_149 : qd cX0_give 149 (.aload_n 0) 1 150 := ⟨by decide +kernel, rfl⟩
theorem D_X0_give_150 : qd cX0_give 150 (.bipush 13) 2 152 := ⟨by decide +kernel, rfl⟩
theorem D_X0_give_152 : qd cX0_give 152 (.aload_n 2) 1 153 := ⟨by decide +kernel, rfl⟩
theorem D_X0_give_153 : qd cX0_give 153 (.iload_n 3) 1 154 := ⟨by decide +kernel, rfl⟩
theorem D_X0_give_154 : qd cX0_give 154 (.iload 5) 2 156 := ⟨by decide +kernel, rfl⟩
theorem D_X0_give_156 : qd cX0_give 156 (.invokevirtual 33) 3 159 := ⟨by decide +kernel, rfl⟩
theorem D_X0_give_159 : qd cX0_give 159 (.iconst 2) 1 160 := ⟨by decide +kernel, rfl⟩
theorem D_X0_give_160 : qd cX0_give 160 (.imul) 1 161 := ⟨by decide +kernel, rfl⟩
theorem D_X0_give_161 : qd cX0_give 161 (.ireturn) 1 162 := ⟨by decide +kernel, rfl⟩
theorem D_X0_give_162 : qd cX0_give 162 (.iload_n 3) 1 163 := ⟨by decide +kernel, rfl⟩
theorem D_X0_give_163 : qd cX0_give 163 (.ireturn) 1 164 := ⟨by decide +kernel, rfl⟩
theorem D_X0_give_164 : qd cX0_give 164 (.aload_n 0) 1 165 := ⟨by decide +kernel, rfl⟩
theorem D_X0_give_165 : qd cX0_give 165 (.bipush 20) 2 167 := ⟨by decide +kernel, rfl⟩
theorem D_X0_give_167 : qd cX0_give 167 (.aload_n 2) 1 168 := ⟨by decide +kernel, rfl⟩
theorem D_X0_give_168 : qd cX0_give 168 (.iload_n 3) 1 169 := ⟨by decide +kernel, rfl⟩
theorem D_X0_give_169 : qd cX0_give 169 (.iload 5) 2 171 := ⟨by decide +kernel, rfl⟩
theorem D_X0_give_171 : qd cX0_give 171 (.invokevirtual 33) 3 174 := ⟨by decide +kernel, rfl⟩
theorem D_X0_give_174 : qd cX0_give 174 (.aload_n 2) 1 175 := ⟨by decide +kernel, rfl⟩
theorem D_X0_give_175 : qd cX0_give 175 (.iload_n 3) 1 176 := ⟨by decide +kernel, rfl⟩
theorem D_X0_give_176 : qd cX0_give 176 (.iconst 0) 1 177 := ⟨by decide +kernel, rfl⟩
theorem D_X0_give_177 : qd cX0_give 177 (.invokevirtual 53) 3 180 := ⟨by decide +kernel, rfl⟩
theorem D_X0_give_180 : qd cX0_give 180 (.iadd) 1 181 := ⟨by decide +kernel, rfl⟩
theorem D_X0_give_181 : qd cX0_give 181 (.ireturn) 1 182 := ⟨by decide +kernel, rfl⟩
theorem D_X0_give_182 : qd cX0_give 182 (.aload_n 0) 1 183 := ⟨by decide +kernel, rfl⟩
theorem D_X0_give_183 : qd cX0_give 183 (.bipush 21) 2 185 := ⟨by decide +kernel, rfl⟩
theorem D_X0_give_185 : qd cX0_give 185 (.aload_n 2) 1 186 := ⟨by decide +kernel, rfl⟩
theorem D_X0_give_186 : qd cX0_give 186 (.iload_n 3) 1 187 := ⟨by decide +kernel, rfl⟩
theorem D_X0_give_187 : qd cX0_give 187 (.iload 5) 2 189 := ⟨by decide +kernel, rfl⟩
theorem D_X0_give_189 : qd cX0_give 189 (.invokevirtual 33) 3 192 := ⟨by decide +kernel, rfl⟩
theorem D_X0_give_192 : qd cX0_give 192 (.sipush 1000) 3 195 := ⟨by decide +kernel, rfl⟩
theorem D_X0_give_195 : qd cX0_give 195 (.isub) 1 196 := ⟨by decide +kernel, rfl⟩
theorem D_X0_give_196 : qd cX0_give 196 (.ireturn) 1 197 := ⟨by decide +kernel, rfl⟩
theorem D_X0_give_197 : qd cX0_give 197 (.aload_n 0) 1 198 := ⟨by decide +kernel, rfl⟩
theorem D_X0_give_198 : qd cX0_give 198 (.bipush 20) 2 200 := ⟨by decide +kernel, rfl⟩
theorem D_X0_give_200 : qd cX0_give 200 (.aload_n 2) 1 201 := ⟨by decide +kernel, rfl⟩
theorem D_X0_give_201 : qd cX0_give 201 (.iload_n 3) 1 202 := ⟨by decide +kernel, rfl⟩
theorem D_X0_give_202 : qd cX0_give 202 (.iload 5) 2 204 := ⟨by decide +kernel, rfl⟩
theorem D_X0_give_204 : qd cX0_give 204 (.invokevirtual 33) 3 207 := ⟨by decide +kernel, rfl⟩
theorem D_X0_give_207 : qd cX0_give 207 (.aload_n 0) 1 208 := ⟨by decide +kernel, rfl⟩
theorem D_X0_give_208 : qd cX0_give 208 (.aload_n 2) 1 209 := ⟨by decide +kernel, rfl⟩
theorem D_X0_give_209 : qd cX0_give 209 (.iload_n 3) 1 210 := ⟨by decide +kernel, rfl⟩
theorem D_X0_give_210 : qd cX0_give 210 (.iload 5) 2 212 := ⟨by decide +kernel, rfl⟩
theorem D_X0_give_212 : qd cX0_give 212 (.invokevirtual 19) 3 215 := ⟨by decide +kernel, rfl⟩
theorem D_X0_give_215 : qd cX0_give 215 (.isub) 1 216 := ⟨by decide +kernel, rfl⟩
theorem D_X0_give_216 : qd cX0_give 216 (.ireturn) 1 217 := ⟨by decide +kernel, rfl⟩
theorem D_X0_give_217 : qd cX0_give 217 (.aload_n 0) 1 218 := ⟨by decide +kernel, rfl⟩
theorem D_X0_give_218 : qd cX0_give 218 (.bipush 21) 2 220 := ⟨by decide +kernel, rfl⟩
theorem D_X0_give_220 : qd cX0_give 220 (.aload_n 2) 1 221 := ⟨by decide +kernel, rfl⟩
theorem D_X0_give_221 : qd cX0_give 221 (.iload_n 3) 1 222 := ⟨by decide +kernel, rfl⟩
theorem D_X0_give_222 : qd cX0_give 222 (.iload 5) 2 224 := ⟨by decide +kernel, rfl⟩
theorem D_X0_give_224 : qd cX0_give 224 (.invokevirtual 33) 3 227 := ⟨by decide +kernel, rfl⟩
theorem D_X0_give_227 : qd cX0_give 227 (.iconst 2) 1 228 := ⟨by decide +kernel, rfl⟩
theorem D_X0_give_228 : qd cX0_give 228 (.imul) 1 229 := ⟨by decide +kernel, rfl⟩
theorem D_X0_give_229 : qd cX0_give 229 (.ireturn) 1 230 := ⟨by decide +kernel, rfl⟩
theorem D_X0_give_230 : qd cX0_give 230 (.iconst 0) 1 231 := ⟨by decide +kernel, rfl⟩
theorem D_X0_give_231 : qd cX0_give 231 (.ireturn) 1 232 := ⟨by decide +kernel, rfl⟩
theorem D_X0_init_0 : qd cX0_init 0 (.aload_n 0) 1 1 := ⟨by decide +kernel, rfl⟩
theorem D_X0_init_1 : qd cX0_init 1 (.invokespecial 3) 3 4 := ⟨by decide +kernel, rfl⟩
theorem D_X0_init_4 : qd cX0_init 4 (.aload_n 0) 1 5 := ⟨by decide +kernel, rfl⟩
theorem D_X0_init_5 : qd cX0_init 5 (.bipush 16) 2 7 := ⟨by decide +kernel, rfl⟩
theorem D_X0_init_7 : qd cX0_init 7 (.newarray .int) 2 9 := ⟨by decide +kernel, rfl⟩
theorem D_X0_init_9 : qd cX0_init 9 (.putfield 9) 3 12 := ⟨by decide +kernel, rfl⟩
theorem D_X0_init_12 : qd cX0_init 12 (.return_) 1 13 := ⟨by decide +kernel, rfl⟩
theorem D_X0_kindOf_0 : qd cX0_kindOf 0 (.iload_n 1) 1 1 := ⟨by decide +kernel, rfl⟩
theorem D_X0_kindOf_1 : qj cX0_kindOf 1 (.ifCond .lt 8) (8) 4 9 := ⟨by decide +kernel, rfl, by decide⟩
theorem D_X0_kindOf_4 : qd cX0_kindOf 4 (.iload_n 1) 1 5 := ⟨by decide +kernel, rfl⟩
theorem D_X0_kindOf_5 : qd cX0_kindOf 5 (.iconst 5) 1 6 := ⟨by decide +kernel, rfl⟩
theorem D_X0_kindOf_6 : qj cX0_kindOf 6 (.if_icmp .lt 7) (7) 9 13 := ⟨by decide +kernel, rfl, by decide⟩
theorem D_X0_kindOf_9 : qd cX0_kindOf 9 (.iconst 0) 1 10 := ⟨by decide +kernel, rfl⟩
theorem D_X0_kindOf_10 : qj cX0_kindOf 10 (.goto 9) (9) 13 19 := ⟨by decide +kernel, rfl, by decide⟩
theorem D_X0_kindOf_13 : qd cX0_kindOf 13 (.aload_n 0) 1 14 := ⟨by decide +kernel, rfl⟩
theorem D_X0_kindOf_14 : qd cX0_kindOf 14 (.getfield 40) 3 17 := ⟨by decide +kernel, rfl⟩
theorem D_X0_kindOf_17 : qd cX0_kindOf 17 (.iload_n 1) 1 18 := ⟨by decide +kernel, rfl⟩
theorem D_X0_kindOf_18 : qd cX0_kindOf 18 (.iaload) 1 19 := ⟨by decide +kernel, rfl⟩
theorem D_X0_kindOf_19 : qd cX0_kindOf 19 (.istore_n 2) 1 20 := ⟨by decide +kernel, rfl⟩
theorem D_X0_kindOf_20 : qd cX0_kindOf 20 (.iload_n 2) 1 21 := ⟨by decide +kernel, rfl⟩
theorem D_X0_kindOf_21 : qj cX0_kindOf 21 (.ifCond .lt 8) (8) 24 29 := ⟨by decide +kernel, rfl, by decide⟩
theorem D_X0_kindOf_24 : qd cX0_kindOf 24 (.iload_n 2) 1 25 := ⟨by decide +kernel, rfl⟩
theorem D_X0_kindOf_25 : qd cX0_kindOf 25 (.iconst 5) 1 26 := ⟨by decide +kernel, rfl⟩
theorem D_X0_kindOf_26 : qj cX0_kindOf 26 (.if_icmp .le 7) (7) 29 33 := ⟨by decide +kernel, rfl, by decide⟩
theorem D_X0_kindOf_29 : qd cX0_kindOf 29 (.iconst 0) 1 30 := ⟨by decide +kernel, rfl⟩
theorem D_X0_kindOf_30 : qj cX0_kindOf 30 (.goto 4) (4) 33 34 := ⟨by decide +kernel, rfl, by decide⟩
theorem D_X0_kindOf_33 : qd cX0_kindOf 33 (.iload_n 2) 1 34 := ⟨by decide +kernel, rfl⟩
theorem D_X0_kindOf_34 : qd cX0_kindOf 34 (.ireturn) 1 35 := ⟨by decide +kernel, rfl⟩
theorem D_X0_leave_0 : qd cX0_leave 0 (.aload_n 0) 1 1 := ⟨by decide +kernel, rfl⟩
theorem D_X0_leave_1 : qd cX0_leave 1 (.getfield 15) 3 4 := ⟨by decide +kernel, rfl⟩
theorem D_X0_leave_4 : qd cX0_leave 4 (.bipush 16) 2 6 := ⟨by decide +kernel, rfl⟩
theorem D_X0_leave_6 : qj cX0_leave 6 (.if_icmp .ge 23) (23) 9 29 := ⟨by decide +kernel, rfl, by decide⟩
theorem D_X0_leave_9 : qd cX0_leave 9 (.aload_n 0) 1 10 := ⟨by decide +kernel, rfl⟩
theorem D_X0_leave_10 : qd cX0_leave 10 (.getfield 9) 3 13 := ⟨by decide +kernel, rfl⟩
theorem D_X0_leave_13 : qd cX0_leave 13 (.aload_n 0) 1 14 := ⟨by decide +kernel, rfl⟩
theorem D_X0_leave_14 : qd cX0_leave 14 (.getfield 15) 3 17 := ⟨by decide +kernel, rfl⟩
theorem D_X0_leave_17 : qd cX0_leave 17 (.iload_n 1) 1 18 := ⟨by decide +kernel, rfl⟩
theorem D_X0_leave_18 : qd cX0_leave 18 (.iastore) 1 19 := ⟨by decide +kernel, rfl⟩
theorem D_X0_leave_19 : qd cX0_leave 19 (.aload_n 0) 1 20 := ⟨by decide +kernel, rfl⟩
theorem D_X0_leave_20 : qd cX0_leave 20 (.dup) 1 21 := ⟨by decide +kernel, rfl⟩
theorem D_X0_leave_21 : qd cX0_leave 21 (.getfield 15) 3 24 := ⟨by decide +kernel, rfl⟩
theorem D_X0_leave_24 : qd cX0_leave 24 (.iconst 1) 1 25 := ⟨by decide +kernel, rfl⟩
theorem D_X0_leave_25 : qd cX0_leave 25 (.iadd) 1 26 := ⟨by decide +kernel, rfl⟩
theorem D_X0_leave_26 : qd cX0_leave 26 (.putfield 15) 3 29 := ⟨by decide +kernel, rfl⟩
theorem D_X0_leave_29 : qd cX0_leave 29 (.return_) 1 30 := ⟨by decide +kernel, rfl⟩
theorem D_X0_markOf_0 : qd cX0_markOf 0 (.aload_n 0) 1 1 := ⟨by decide +kernel, rfl⟩
theorem D_X0_markOf_1 : qd cX0_markOf 1 (.getstatic 37) 3 4 := ⟨by decide +kernel, rfl⟩
theorem D_X0_markOf_4 : qd cX0_markOf 4 (.aload_n 1) 1 5 := ⟨by decide +kernel, rfl⟩
theorem D_X0_markOf_5 : qd cX0_markOf 5 (.iload_n 2) 1 6 := ⟨by decide +kernel, rfl⟩
theorem D_X0_markOf_6 : qd cX0_markOf 6 (.invokestatic 29) 3 9 := ⟨by decide +kernel, rfl⟩
theorem D_X0_markOf_9 : qd cX0_markOf 9 (.iaload) 1 10 := ⟨by decide +kernel, rfl⟩
theorem D_X0_markOf_10 : qd cX0_markOf 10 (.aload_n 1) 1 11 := ⟨by decide +kernel, rfl⟩
theorem D_X0_markOf_11 : qd cX0_markOf 11 (.iload_n 2) 1 12 := ⟨by decide +kernel, rfl⟩
theorem D_X0_markOf_12 : qd cX0_markOf 12 (.iload_n 3) 1 13 := ⟨by decide +kernel, rfl⟩
theorem D_X0_markOf_13 : qd cX0_markOf 13 (.invokevirtual 33) 3 16 := ⟨by decide +kernel, rfl⟩
theorem D_X0_markOf_16 : qd cX0_markOf 16 (.ireturn) 1 17 := ⟨by decide +kernel, rfl⟩
theorem D_X0_sizeOf_0 : qd cX0_sizeOf 0 (.aload_n 0) 1 1 := ⟨by decide +kernel, rfl⟩
theorem D_X0_sizeOf_1 : qd cX0_sizeOf 1 (.getstatic 26) 3 4 := ⟨by decide +kernel, rfl⟩
theorem D_X0_sizeOf_4 : qd cX0_sizeOf 4 (.aload_n 1) 1 5 := ⟨by decide +kernel, rfl⟩
theorem D_X0_sizeOf_5 : qd cX0_sizeOf 5 (.iload_n 2) 1 6 := ⟨by decide +kernel, rfl⟩
theorem D_X0_sizeOf_6 : qd cX0_sizeOf 6 (.invokestatic 29) 3 9 := ⟨by decide +kernel, rfl⟩
theorem D_X0_sizeOf_9 : qd cX0_sizeOf 9 (.iaload) 1 10 := ⟨by decide +kernel, rfl⟩
theorem D_X0_sizeOf_10 : qd cX0_sizeOf 10 (.aload_n 1) 1 11 := ⟨by decide +kernel, rfl⟩
theorem D_X0_sizeOf_11 : qd cX0_sizeOf 11 (.iload_n 2) 1 12 := ⟨by decide +kernel, rfl⟩
theorem D_X0_sizeOf_12 : qd cX0_sizeOf 12 (.iload_n 3) 1 13 := ⟨by decide +kernel, rfl⟩
theorem D_X0_sizeOf_13 : qd cX0_sizeOf 13 (.invokevirtual 33) 3 16 := ⟨by decide +kernel, rfl⟩
theorem D_X0_sizeOf_16 : qd cX0_sizeOf 16 (.ireturn) 1 17 := ⟨by decide +kernel, rfl⟩
theorem D_X1_clear_0 : qd cX1_clear 0 (.aload_n 0) 1 1 := ⟨by decide +kernel, rfl⟩
theorem D_X1_clear_1 : qd cX1_clear 1 (.iconst 0) 1 2 := ⟨by decide +kernel, rfl⟩
theorem D_X1_clear_2 : qd cX1_clear 2 (.putfield 18) 3 5 := ⟨by decide +kernel, rfl⟩
theorem D_X1_clear_5 : qd cX1_clear 5 (.aload_n 0) 1 6 := ⟨by decide +kernel, rfl⟩
theorem D_X1_clear_6 : qd cX1_clear 6 (.iconst 0) 1 7 := ⟨by decide +kernel, rfl⟩
theorem D_X1_clear_7 : qd cX1_clear 7 (.putfield 22) 3 10 := ⟨by decide +kernel, rfl⟩
theorem D_X1_clear_10 : qd cX1_clear 10 (.return_) 1 11 := ⟨by decide +kernel, rfl⟩
theorem D_X1_giveBack_0 : qd cX1_giveBack 0 (.aload_n 0) 1 1 := ⟨by decide +kernel, rfl⟩
theorem D_X1_giveBack_1 : qd cX1_giveBack 1 (.getfield 18) 3 4 := ⟨by decide +kernel, rfl⟩
theorem D_X1_giveBack_4 : qd cX1_giveBack 4 (.iconst 1) 1 5 := ⟨by decide +kernel, rfl⟩
theorem D_X1_giveBack_5 : qj cX1_giveBack 5 (.if_icmp .ge 5) (5) 8 10 := ⟨by decide +kernel, rfl, by decide⟩
theorem D_X1_giveBack_8 : qd cX1_giveBack 8 (.iconst 0) 1 9 := ⟨by decide +kernel, rfl⟩
theorem D_X1_giveBack_9 : qd cX1_giveBack 9 (.ireturn) 1 10 := ⟨by decide +kernel, rfl⟩
theorem D_X1_giveBack_10 : qd cX1_giveBack 10 (.aload_n 0) 1 11 := ⟨by decide +kernel, rfl⟩
theorem D_X1_giveBack_11 : qd cX1_giveBack 11 (.dup) 1 12 := ⟨by decide +kernel, rfl⟩
theorem D_X1_giveBack_12 : qd cX1_giveBack 12 (.getfield 18) 3 15 := ⟨by decide +kernel, rfl⟩
theorem D_X1_giveBack_15 : qd cX1_giveBack 15 (.iconst 1) 1 16 := ⟨by decide +kernel, rfl⟩
theorem D_X1_giveBack_16 : qd cX1_giveBack 16 (.isub) 1 17 := ⟨by decide +kernel, rfl⟩
theorem D_X1_giveBack_17 : qd cX1_giveBack 17 (.putfield 18) 3 20 := ⟨by decide +kernel, rfl⟩
theorem D_X1_giveBack_20 : qd cX1_giveBack 20 (.aload_n 1) 1 21 := ⟨by decide +kernel, rfl⟩
theorem D_X1_giveBack_21 : qd cX1_giveBack 21 (.aload_n 0) 1 22 := ⟨by decide +kernel, rfl⟩
theorem D_X1_giveBack_22 : qd cX1_giveBack 22 (.getfield 11) 3 25 := ⟨by decide +kernel, rfl⟩
theorem D_X1_giveBack_25 : qd cX1_giveBack 25 (.aload_n 0) 1 26 := ⟨by decide +kernel, rfl⟩
theorem D_X1_giveBack_26 : qd cX1_giveBack 26 (.getfield 22) 3 29 := ⟨by decide +kernel, rfl⟩
theorem D_X1_giveBack_29 : qd cX1_giveBack 29 (.aload_n 0) 1 30 := ⟨by decide +kernel, rfl⟩
theorem D_X1_giveBack_30 : qd cX1_giveBack 30 (.getfield 18) 3 33 := ⟨by decide +kernel, rfl⟩
theorem D_X1_giveBack_33 : qd cX1_giveBack 33 (.iadd) 1 34 := ⟨by decide +kernel, rfl⟩
theorem D_X1_giveBack_34 : qd cX1_giveBack 34 (.bipush 24) 2 36 := ⟨by decide +kernel, rfl⟩
theorem D_X1_giveBack_36 : qd cX1_giveBack 36 (.irem) 1 37 := ⟨by decide +kernel, rfl⟩
theorem D_X1_giveBack_37 : qd cX1_giveBack 37 (.aaload) 1 38 := ⟨by decide +kernel, rfl⟩
theorem D_X1_giveBack_38 : qd cX1_giveBack 38 (.invokevirtual 25) 3 41 := ⟨by decide +kernel, rfl⟩
theorem D_X1_giveBack_41 : qd cX1_giveBack 41 (.iconst 1) 1 42 := ⟨by decide +kernel, rfl⟩
theorem D_X1_giveBack_42 : qd cX1_giveBack 42 (.ireturn) 1 43 := ⟨by decide +kernel, rfl⟩
theorem D_X1_init_0 : qd cX1_init 0 (.aload_n 0) 1 1 := ⟨by decide +kernel, rfl⟩
theorem D_X1_init_1 : qd cX1_init 1 (.invokespecial 3) 3 4 := ⟨by decide +kernel, rfl⟩
theorem D_X1_init_4 : qd cX1_init 4 (.aload_n 0) 1 5 := ⟨by decide +kernel, rfl⟩
theorem D_X1_init_5 : qd cX1_init 5 (.bipush 24) 2 7 := ⟨by decide +kernel, rfl⟩
theorem D_X1_init_7 : qd cX1_init 7 (.anewarray 9) 3 10 := ⟨by decide +kernel, rfl⟩
theorem D_X1_init_10 : qd cX1_init 10 (.putfield 11) 3 13 := ⟨by decide +kernel, rfl⟩
theorem D_X1_init_13 : qd cX1_init 13 (.iconst 0) 1 14 := ⟨by decide +kernel, rfl⟩
theorem D_X1_init_14 : qd cX1_init 14 (.istore_n 1) 1 15 := ⟨by decide +kernel, rfl⟩
theorem D_X1_init_15 : qd cX1_init 15 (.iload_n 1) 1 16 := ⟨by decide +kernel, rfl⟩
theorem D_X1_init_16 : qd cX1_init 16 (.bipush 24) 2 18 := ⟨by decide +kernel, rfl⟩
theorem D_X1_init_18 : qj cX1_init 18 (.if_icmp .ge 22) (22) 21 40 := ⟨by decide +kernel, rfl, by decide⟩
theorem D_X1_init_21 : qd cX1_init 21 (.aload_n 0) 1 22 := ⟨by decide +kernel, rfl⟩
theorem D_X1_init_22 : qd cX1_init 22 (.getfield 11) 3 25 := ⟨by decide +kernel, rfl⟩
theorem D_X1_init_25 : qd cX1_init 25 (.iload_n 1) 1 26 := ⟨by decide +kernel, rfl⟩
theorem D_X1_init_26 : qd cX1_init 26 (.new 9) 3 29 := ⟨by decide +kernel, rfl⟩
theorem D_X1_init_29 : qd cX1_init 29 (.dup) 1 30 := ⟨by decide +kernel, rfl⟩
theorem D_X1_init_30 : qd cX1_init 30 (.invokespecial 17) 3 33 := ⟨by decide +kernel, rfl⟩
theorem D_X1_init_33 : qd cX1_init 33 (.aastore) 1 34 := ⟨by decide +kernel, rfl⟩
theorem D_X1_init_34 : qd cX1_init 34 (.iinc 1 1) 3 37 := ⟨by decide +kernel, rfl⟩
theorem D_X1_init_37 : qj cX1_init 37 (.goto (-22)) (-22) 40 15 := ⟨by decide +kernel, rfl, by decide⟩
theorem D_X1_init_40 : qd cX1_init 40 (.return_) 1 41 := ⟨by decide +kernel, rfl⟩
theorem D_X1_keep_0 : qd cX1_keep 0 (.aload_n 0) 1 1 := ⟨by decide +kernel, rfl⟩
theorem D_X1_keep_1 : qd cX1_keep 1 (.getfield 11) 3 4 := ⟨by decide +kernel, rfl⟩
theorem D_X1_keep_4 : qd cX1_keep 4 (.aload_n 0) 1 5 := ⟨by decide +kernel, rfl⟩
theorem D_X1_keep_5 : qd cX1_keep 5 (.getfield 22) 3 8 := ⟨by decide +kernel, rfl⟩
theorem D_X1_keep_8 : qd cX1_keep 8 (.aload_n 0) 1 9 := ⟨by decide +kernel, rfl⟩
theorem D_X1_keep_9 : qd cX1_keep 9 (.getfield 18) 3 12 := ⟨by decide +kernel, rfl⟩
theorem D_X1_keep_12 : qd cX1_keep 12 (.iadd) 1 13 := ⟨by decide +kernel, rfl⟩
theorem D_X1_keep_13 : qd cX1_keep 13 (.bipush 24) 2 15 := ⟨by decide +kernel, rfl⟩
theorem D_X1_keep_15 : qd cX1_keep 15 (.irem) 1 16 := ⟨by decide +kernel, rfl⟩
theorem D_X1_keep_16 : qd cX1_keep 16 (.aaload) 1 17 := ⟨by decide +kernel, rfl⟩
theorem D_X1_keep_17 : qd cX1_keep 17 (.aload_n 1) 1 18 := ⟨by decide +kernel, rfl⟩
theorem D_X1_keep_18 : qd cX1_keep 18 (.invokevirtual 25) 3 21 := ⟨by decide +kernel, rfl⟩
theorem D_X1_keep_21 : qd cX1_keep 21 (.aload_n 0) 1 22 := ⟨by decide +kernel, rfl⟩
theorem D_X1_keep_22 : qd cX1_keep 22 (.getfield 18) 3 25 := ⟨by decide +kernel, rfl⟩
theorem D_X1_keep_25 : qd cX1_keep 25 (.bipush 24) 2 27 := ⟨by decide +kernel, rfl⟩
theorem D_X1_keep_27 : qj cX1_keep 27 (.if_icmp .ge 16) (16) 30 43 := ⟨by decide +kernel, rfl, by decide⟩
theorem D_X1_keep_30 : qd cX1_keep 30 (.aload_n 0) 1 31 := ⟨by decide +kernel, rfl⟩
theorem D_X1_keep_31 : qd cX1_keep 31 (.dup) 1 32 := ⟨by decide +kernel, rfl⟩
theorem D_X1_keep_32 : qd cX1_keep 32 (.getfield 18) 3 35 := ⟨by decide +kernel, rfl⟩
theorem D_X1_keep_35 : qd cX1_keep 35 (.iconst 1) 1 36 := ⟨by decide +kernel, rfl⟩
theorem D_X1_keep_36 : qd cX1_keep 36 (.iadd) 1 37 := ⟨by decide +kernel, rfl⟩
theorem D_X1_keep_37 : qd cX1_keep 37 (.putfield 18) 3 40 := ⟨by decide +kernel, rfl⟩
theorem D_X1_keep_40 : qj cX1_keep 40 (.goto 16) (16) 43 56 := ⟨by decide +kernel, rfl, by decide⟩
theorem D_X1_keep_43 : qd cX1_keep 43 (.aload_n 0) 1 44 := ⟨by decide +kernel, rfl⟩
theorem D_X1_keep_44 : qd cX1_keep 44 (.aload_n 0) 1 45 := ⟨by decide +kernel, rfl⟩
theorem D_X1_keep_45 : qd cX1_keep 45 (.getfield 22) 3 48 := ⟨by decide +kernel, rfl⟩
theorem D_X1_keep_48 : qd cX1_keep 48 (.iconst 1) 1 49 := ⟨by decide +kernel, rfl⟩
theorem D_X1_keep_49 : qd cX1_keep 49 (.iadd) 1 50 := ⟨by decide +kernel, rfl⟩
theorem D_X1_keep_50 : qd cX1_keep 50 (.bipush 24) 2 52 := ⟨by decide +kernel, rfl⟩
theorem D_X1_keep_52 : qd cX1_keep 52 (.irem) 1 53 := ⟨by decide +kernel, rfl⟩
theorem D_X1_keep_53 : qd cX1_keep 53 (.putfield 22) 3 56 := ⟨by decide +kernel, rfl⟩
theorem D_X1_keep_56 : qd cX1_keep 56 (.return_) 1 57 := ⟨by decide +kernel, rfl⟩
theorem D_X2_findingAt_0 : qd cX2_findingAt 0 (.aload_n 0) 1 1 := ⟨by decide +kernel, rfl⟩
theorem D_X2_findingAt_1 : qd cX2_findingAt 1 (.invokevirtual 28) 3 4 := ⟨by decide +kernel, rfl⟩
theorem D_X2_findingAt_4 : qj cX2_findingAt 4 (.ifCond .eq 5) (5) 7 9 := ⟨by decide +kernel, rfl, by decide⟩
theorem D_X2_findingAt_7 : qd cX2_findingAt 7 (.iconst 1) 1 8 := ⟨by decide +kernel, rfl⟩
theorem D_X2_findingAt_8 : qd cX2_findingAt 8 (.ireturn) 1 9 := ⟨by decide +kernel, rfl⟩
theorem D_X2_findingAt_9 : qd cX2_findingAt 9 (.aload_n 0) 1 10 := ⟨by decide +kernel, rfl⟩
theorem D_X2_findingAt_10 : qd cX2_findingAt 10 (.iload_n 1) 1 11 := ⟨by decide +kernel, rfl⟩
theorem D_X2_findingAt_11 : qd cX2_findingAt 11 (.iload_n 2) 1 12 := ⟨by decide +kernel, rfl⟩
theorem D_X2_findingAt_12 : qd cX2_findingAt 12 (.invokevirtual 32) 3 15 := ⟨by decide +kernel, rfl⟩
theorem D_X2_findingAt_15 : qj cX2_findingAt 15 (.ifCond .eq 7) (7) 18 22 := ⟨by decide +kernel, rfl, by decide⟩
theorem D_X2_findingAt_18 : qd cX2_findingAt 18 (.iconst 0) 1 19 := ⟨by decide +kernel, rfl⟩
theorem D_X2_findingAt_19 : qj cX2_findingAt 19 (.goto 4) (4) 22 23 := ⟨by decide +kernel, rfl, by decide⟩
theorem D_X2_findingAt_22 : qd cX2_findingAt 22 (.iconst 2) 1 23 := ⟨by decide +kernel, rfl⟩
theorem D_X2_findingAt_23 : qd cX2_findingAt 23 (.ireturn) 1 24 := ⟨by decide +kernel, rfl⟩
theorem D_X2_holds_0 : qd cX2_holds 0 (.iload_n 1) 1 1 := ⟨by decide +kernel, rfl⟩
theorem D_X2_holds_1 : qj cX2_holds 1 (.ifCond .lt 29) (29) 4 30 := ⟨by decide +kernel, rfl, by decide⟩
theorem D_X2_holds_4 : qd cX2_holds 4 (.iload_n 2) 1 5 := ⟨by decide +kernel, rfl⟩
theorem D_X2_holds_5 : qj cX2_holds 5 (.ifCond .lt 25) (25) 8 30 := ⟨by decide +kernel, rfl, by decide⟩
theorem D_X2_holds_8 : qd cX2_holds 8 (.iload_n 2) 1 9 := ⟨by decide +kernel, rfl⟩
theorem D_X2_holds_9 : qd cX2_holds 9 (.aload_n 0) 1 10 := ⟨by decide +kernel, rfl⟩
theorem D_X2_holds_10 : qd cX2_holds 10 (.getfield 19) 3 13 := ⟨by decide +kernel, rfl⟩
theorem D_X2_holds_13 : qj cX2_holds 13 (.if_icmp .gt 17) (17) 16 30 := ⟨by decide +kernel, rfl, by decide⟩
theorem D_X2_holds_16 : qd cX2_holds 16 (.iload_n 1) 1 17 := ⟨by decide +kernel, rfl⟩
theorem D_X2_holds_17 : qd cX2_holds 17 (.aload_n 0) 1 18 := ⟨by decide +kernel, rfl⟩
theorem D_X2_holds_18 : qd cX2_holds 18 (.getfield 19) 3 21 := ⟨by decide +kernel, rfl⟩
theorem D_X2_holds_21 : qd cX2_holds 21 (.iload_n 2) 1 22 := ⟨by decide +kernel, rfl⟩
theorem D_X2_holds_22 : qd cX2_holds 22 (.isub) 1 23 := ⟨by decide +kernel, rfl⟩
theorem D_X2_holds_23 : qj cX2_holds 23 (.if_icmp .gt 7) (7) 26 30 := ⟨by decide +kernel, rfl, by decide⟩
theorem D_X2_holds_26 : qd cX2_holds 26 (.iconst 1) 1 27 := ⟨by decide +kernel, rfl⟩
theorem D_X2_holds_27 : qj cX2_holds 27 (.goto 4) (4) 30 31 := ⟨by decide +kernel, rfl, by decide⟩
theorem D_X2_holds_30 : qd cX2_holds 30 (.iconst 0) 1 31 := ⟨by decide +kernel, rfl⟩
theorem D_X2_holds_31 : qd cX2_holds 31 (.ireturn) 1 32 := ⟨by decide +kernel, rfl⟩
theorem D_X2_init_0 : qd cX2_init 0 (.aload_n 0) 1 1 := ⟨by decide +kernel, rfl⟩
theorem D_X2_init_1 : qd cX2_init 1 (.invokespecial 3) 3 4 := ⟨by decide +kernel, rfl⟩
theorem D_X2_init_4 : qd cX2_init 4 (.aload_n 0) 1 5 := ⟨by decide +kernel, rfl⟩
theorem D_X2_init_5 : qd cX2_init 5 (.iconst (-1)) 1 6 := ⟨by decide +kernel, rfl⟩
theorem D_X2_init_6 : qd cX2_init 6 (.putfield 9) 3 9 := ⟨by decide +kernel, rfl⟩
theorem D_X2_init_9 : qd cX2_init 9 (.aload_n 0) 1 10 := ⟨by decide +kernel, rfl⟩
theorem D_X2_init_10 : qd cX2_init 10 (.bipush 40) 2 12 := ⟨by decide +kernel, rfl⟩
theorem D_X2_init_12 : qd cX2_init 12 (.newarray .int) 2 14 := ⟨by decide +kernel, rfl⟩
theorem D_X2_init_14 : qd cX2_init 14 (.putfield 15) 3 17 := ⟨by decide +kernel, rfl⟩
theorem D_X2_init_17 : qd cX2_init 17 (.return_) 1 18 := ⟨by decide +kernel, rfl⟩
theorem D_X2_isMissing_0 : qd cX2_isMissing 0 (.aload_n 0) 1 1 := ⟨by decide +kernel, rfl⟩
theorem D_X2_isMissing_1 : qd cX2_isMissing 1 (.getfield 9) 3 4 := ⟨by decide +kernel, rfl⟩
theorem D_X2_isMissing_4 : qd cX2_isMissing 4 (.iconst (-1)) 1 5 := ⟨by decide +kernel, rfl⟩
theorem D_X2_isMissing_5 : qj cX2_isMissing 5 (.if_icmp .ne 7) (7) 8 12 := ⟨by decide +kernel, rfl, by decide⟩
theorem D_X2_isMissing_8 : qd cX2_isMissing 8 (.iconst 1) 1 9 := ⟨by decide +kernel, rfl⟩
theorem D_X2_isMissing_9 : qj cX2_isMissing 9 (.goto 4) (4) 12 13 := ⟨by decide +kernel, rfl, by decide⟩
theorem D_X2_isMissing_12 : qd cX2_isMissing 12 (.iconst 0) 1 13 := ⟨by decide +kernel, rfl⟩
theorem D_X2_isMissing_13 : qd cX2_isMissing 13 (.ireturn) 1 14 := ⟨by decide +kernel, rfl⟩
theorem D_X2_lay_0 : qd cX2_lay 0 (.aload_n 0) 1 1 := ⟨by decide +kernel, rfl⟩
theorem D_X2_lay_1 : qd cX2_lay 1 (.iload_n 1) 1 2 := ⟨by decide +kernel, rfl⟩
theorem D_X2_lay_2 : qd cX2_lay 2 (.putfield 9) 3 5 := ⟨by decide +kernel, rfl⟩
theorem D_X2_lay_5 : qd cX2_lay 5 (.aload_n 0) 1 6 := ⟨by decide +kernel, rfl⟩
theorem D_X2_lay_6 : qd cX2_lay 6 (.iload_n 2) 1 7 := ⟨by decide +kernel, rfl⟩
theorem D_X2_lay_7 : qd cX2_lay 7 (.putfield 19) 3 10 := ⟨by decide +kernel, rfl⟩
theorem D_X2_lay_10 : qd cX2_lay 10 (.aload_n 0) 1 11 := ⟨by decide +kernel, rfl⟩
theorem D_X2_lay_11 : qd cX2_lay 11 (.getfield 15) 3 14 := ⟨by decide +kernel, rfl⟩
theorem D_X2_lay_14 : qd cX2_lay 14 (.iconst 0) 1 15 := ⟨by decide +kernel, rfl⟩
theorem D_X2_lay_15 : qd cX2_lay 15 (.invokestatic 22) 3 18 := ⟨by decide +kernel, rfl⟩
theorem D_X2_lay_18 : qd cX2_lay 18 (.return_) 1 19 := ⟨by decide +kernel, rfl⟩
theorem D_X2_put_0 : qd cX2_put 0 (.aload_n 0) 1 1 := ⟨by decide +kernel, rfl⟩
theorem D_X2_put_1 : qd cX2_put 1 (.getfield 9) 3 4 := ⟨by decide +kernel, rfl⟩
theorem D_X2_put_4 : qj cX2_put 4 (.ifCond .ne 8) (8) 7 12 := ⟨by decide +kernel, rfl, by decide⟩
theorem D_X2_put_7 : qd cX2_put 7 (.iload_n 2) 1 8 := ⟨by decide +kernel, rfl⟩
theorem D_X2_put_8 : qd cX2_put 8 (.i2b) 1 9 := ⟨by decide +kernel, rfl⟩
theorem D_X2_put_9 : qj cX2_put 9 (.goto 17) (17) 12 26 := ⟨by decide +kernel, rfl, by decide⟩
theorem D_X2_put_12 : qd cX2_put 12 (.aload_n 0) 1 13 := ⟨by decide +kernel, rfl⟩
theorem D_X2_put_13 : qd cX2_put 13 (.getfield 9) 3 16 := ⟨by decide +kernel, rfl⟩
theorem D_X2_put_16 : qd cX2_put 16 (.iconst 1) 1 17 := ⟨by decide +kernel, rfl⟩
theorem D_X2_put_17 : qj cX2_put 17 (.if_icmp .ne 8) (8) 20 25 := ⟨by decide +kernel, rfl, by decide⟩
theorem D_X2_put_20 : qd cX2_put 20 (.iload_n 2) 1 21 := ⟨by decide +kernel, rfl⟩
theorem D_X2_put_21 : qd cX2_put 21 (.i2s) 1 22 := ⟨by decide +kernel, rfl⟩
theorem D_X2_put_22 : qj cX2_put 22 (.goto 4) (4) 25 26 := ⟨by decide +kernel, rfl, by decide⟩
theorem D_X2_put_25 : qd cX2_put 25 (.iload_n 2) 1 26 := ⟨by decide +kernel, rfl⟩
theorem D_X2_put_26 : qd cX2_put 26 (.istore_n 3) 1 27 := ⟨by decide +kernel, rfl⟩
theorem D_X2_put_27 : qd cX2_put 27 (.aload_n 0) 1 28 := ⟨by decide +kernel, rfl⟩
theorem D_X2_put_28 : qd cX2_put 28 (.getfield 15) 3 31 := ⟨by decide +kernel, rfl⟩
theorem D_X2_put_31 : qd cX2_put 31 (.iload_n 1) 1 32 := ⟨by decide +kernel, rfl⟩
theorem D_X2_put_32 : qd cX2_put 32 (.iload_n 3) 1 33 := ⟨by decide +kernel, rfl⟩
theorem D_X2_put_33 : qd cX2_put 33 (.iastore) 1 34 := ⟨by decide +kernel, rfl⟩
theorem D_X2_put_34 : qd cX2_put 34 (.iload_n 3) 1 35 := ⟨by decide +kernel, rfl⟩
theorem D_X2_put_35 : qd cX2_put 35 (.ireturn) 1 36 := ⟨by decide +kernel, rfl⟩
theorem D_X3_chanceOfKeeping_0 : qd cX3_chanceOfKeeping 0 (.lconst 1) 1 1 := ⟨by decide +kernel, rfl⟩
theorem D_X3_chanceOfKeeping_1 : qd cX3_chanceOfKeeping 1 (.lstore 5) 2 3 := ⟨by decide +kernel, rfl⟩
theorem D_X3_chanceOfKeeping_3 : qd cX3_chanceOfKeeping 3 (.lconst 1) 1 4 := ⟨by decide +kernel, rfl⟩
theorem D_X3_chanceOfKeeping_4 : qd cX3_chanceOfKeeping 4 (.lstore 7) 2 6 := ⟨by decide +kernel, rfl⟩
theorem D_X3_chanceOfKeeping_6 : qd cX3_chanceOfKeeping 6 (.aload_n 1) 1 7 := ⟨by decide +kernel, rfl⟩
theorem D_X3_chanceOfKeeping_7 : qd cX3_chanceOfKeeping 7 (.getfield 36) 3 10 := ⟨by decide +kernel, rfl⟩
theorem D_X3_chanceOfKeeping_10 : qd cX3_chanceOfKeeping 10 (.iload_n 2) 1 11 := ⟨by decide +kernel, rfl⟩
theorem D_X3_chanceOfKeeping_11 : qd cX3_chanceOfKeeping 11 (.invokestatic 40) 3 14 := ⟨by decide +kernel, rfl⟩
theorem D_X3_chanceOfKeeping_14 : qj cX3_chanceOfKeeping 14 (.ifCond .eq 44) (44) 17 58 := ⟨by decide +kernel, rfl, by decide⟩
theorem D_X3_chanceOfKeeping_17 : qd cX3_chanceOfKeeping 17 (.aload_n 1) 1 18 := ⟨by decide +kernel, rfl⟩
theorem D_X3_chanceOfKeeping_18 : qd cX3_chanceOfKeeping 18 (.iload_n 2) 1 19 := ⟨by decide +kernel, rfl⟩
theorem D_X3_chanceOfKeeping_19 : qd cX3_chanceOfKeeping 19 (.invokevirtual 115) 3 22 := ⟨by decide +kernel, rfl⟩
theorem D_X3_chanceOfKeeping_22 : qd cX3_chanceOfKeeping 22 (.invokestatic 74) 3 25 := ⟨by decide +kernel, rfl⟩
theorem D_X3_chanceOfKeeping_25 : qd cX3_chanceOfKeeping 25 (.istore 9) 2 27 := ⟨by decide +kernel, rfl⟩
theorem D_X3_chanceOfKeeping_27 : qd cX3_chanceOfKeeping 27 (.iconst 0) 1 28 := ⟨by decide +kernel, rfl⟩
theorem D_X3_chanceOfKeeping_28 : qd cX3_chanceOfKeeping 28 (.istore 10) 2 30 := ⟨by decide +kernel, rfl⟩
theorem D_X3_chanceOfKeeping_30 : qd cX3_chanceOfKeeping 30 (.iload 10) 2 32 := ⟨by decide +kernel, rfl⟩
theorem D_X3_chanceOfKeeping_32 : qd cX3_chanceOfKeeping 32 (.iload 9) 2 34 := ⟨by decide +kernel, rfl⟩
theorem D_X3_chanceOfKeeping_34 : qj cX3_chanceOfKeeping 34 (.if_icmp .ge 24) (24) 37 58 := ⟨by decide +kernel, rfl, by decide⟩
theorem D_X3_chanceOfKeeping_37 : qd cX3_chanceOfKeeping 37 (.lload 5) 2 39 := ⟨by decide +kernel, rfl⟩
theorem D_X3_chanceOfKeeping_39 : qd cX3_chanceOfKeeping 39 (.ldc2_w 118) 3 42 := ⟨by decide +kernel, rfl⟩
theorem D_X3_chanceOfKeeping_42 : qd cX3_chanceOfKeeping 42 (.lmul) 1 43 := ⟨by decide +kernel, rfl⟩
theorem D_X3_chanceOfKeeping_43 : qd cX3_chanceOfKeeping 43 (.lstore 5) 2 45 := ⟨by decide +kernel, rfl⟩
theorem D_X3_chanceOfKeeping_45 : qd cX3_chanceOfKeeping 45 (.lload 7) 2 47 := ⟨by decide +kernel, rfl⟩
theorem D_X3_chanceOfKeeping_47 : qd cX3_chanceOfKeeping 47 (.iload_n 3) 1 48 := ⟨by decide +kernel, rfl⟩
theorem D_X3_chanceOfKeeping_48 : qd cX3_chanceOfKeeping 48 (.i2l) 1 49 := ⟨by decide +kernel, rfl⟩
theorem D_X3_chanceOfKeeping_49 : qd cX3_chanceOfKeeping 49 (.lmul) 1 50 := ⟨by decide +kernel, rfl⟩
theorem D_X3_chanceOfKeeping_50 : qd cX3_chanceOfKeeping 50 (.lstore 7) 2 52 := ⟨by decide +kernel, rfl⟩
theorem D_X3_chanceOfKeeping_52 : qd cX3_chanceOfKeeping 52 (.iinc 10 1) 3 55 := ⟨by decide +kernel, rfl⟩
theorem D_X3_chanceOfKeeping_55 : qj cX3_chanceOfKeeping 55 (.goto (-25)) (-25) 58 30 := ⟨by decide +kernel, rfl, by decide⟩
theorem D_X3_chanceOfKeeping_58 : qd cX3_chanceOfKeeping 58 (.lload 5) 2 60 := ⟨by decide +kernel, rfl⟩
theorem D_X3_chanceOfKeeping_60 : qd cX3_chanceOfKeeping 60 (.lload 5) 2 62 := ⟨by decide +kernel, rfl⟩
theorem D_X3_chanceOfKeeping_62 : qd cX3_chanceOfKeeping 62 (.lload 7) 2 64 := ⟨by decide +kernel, rfl⟩
theorem D_X3_chanceOfKeeping_64 : qd cX3_chanceOfKeeping 64 (.lsub) 1 65 := ⟨by decide +kernel, rfl⟩
theorem D_X3_chanceOfKeeping_65 : qd cX3_chanceOfKeeping 65 (.invokestatic 120) 3 68 := ⟨by decide +kernel, rfl⟩
theorem D_X3_chanceOfKeeping_68 : qd cX3_chanceOfKeeping 68 (.lstore 9) 2 70 := ⟨by decide +kernel, rfl⟩
theorem D_X3_chanceOfKeeping_70 : qd cX3_chanceOfKeeping 70 (.iload 4) 2 72 := ⟨by decide +kernel, rfl⟩
theorem D_X3_chanceOfKeeping_72 : qj cX3_chanceOfKeeping 72 (.ifCond .eq 11) (11) 75 83 := ⟨by decide +kernel, rfl, by decide⟩
theorem D_X3_chanceOfKeeping_75 : qd cX3_chanceOfKeeping 75 (.lload 5) 2 77 := ⟨by decide +kernel, rfl⟩
theorem D_X3_chanceOfKeeping_77 : qd cX3_chanceOfKeeping 77 (.lload 7) 2 79 := ⟨by decide +kernel, rfl⟩
theorem D_X3_chanceOfKeeping_79 : qd cX3_chanceOfKeeping 79 (.lsub) 1 80 := ⟨by decide +kernel, rfl⟩
theorem D_X3_chanceOfKeeping_80 : qj cX3_chanceOfKeeping 80 (.goto 5) (5) 83 85 := ⟨by decide +kernel, rfl, by decide⟩
theorem D_X3_chanceOfKeeping_83 : qd cX3_chanceOfKeeping 83 (.lload 5) 2 85 := ⟨by decide +kernel, rfl⟩
theorem D_X3_chanceOfKeeping_85 : qd cX3_chanceOfKeeping 85 (.lload 9) 2 87 := ⟨by decide +kernel, rfl⟩
theorem D_X3_chanceOfKeeping_87 : qd cX3_chanceOfKeeping 87 (.ldiv) 1 88 := ⟨by decide +kernel, rfl⟩
theorem D_X3_chanceOfKeeping_88 : qd cX3_chanceOfKeeping 88 (.lreturn) 1 89 := ⟨by decide +kernel, rfl⟩
theorem D_X3_commonDivisor_0 : qd cX3_commonDivisor 0 (.lload_n 0) 1 1 := ⟨by decide +kernel, rfl⟩
theorem D_X3_commonDivisor_1 : qd cX3_commonDivisor 1 (.lstore 4) 2 3 := ⟨by decide +kernel, rfl⟩
theorem D_X3_commonDivisor_3 : qd cX3_commonDivisor 3 (.lload_n 2) 1 4 := ⟨by decide +kernel, rfl⟩
theorem D_X3_commonDivisor_4 : qd cX3_commonDivisor 4 (.lstore 6) 2 6 := ⟨by decide +kernel, rfl⟩
theorem D_X3_commonDivisor_6 : qd cX3_commonDivisor 6 (.iconst 0) 1 7 := ⟨by decide +kernel, rfl⟩
theorem D_X3_commonDivisor_7 : qd cX3_commonDivisor 7 (.istore 8) 2 9 := ⟨by decide +kernel, rfl⟩
theorem D_X3_commonDivisor_9 : qd cX3_commonDivisor 9 (.iload 8) 2 11 := ⟨by decide +kernel, rfl⟩
theorem D_X3_commonDivisor_11 : qd cX3_commonDivisor 11 (.bipush 64) 2 13 := ⟨by decide +kernel, rfl⟩
theorem D_X3_commonDivisor_13 : qj cX3_commonDivisor 13 (.if_icmp .ge 31) (31) 16 44 := ⟨by decide +kernel, rfl, by decide⟩
theorem D_X3_commonDivisor_16 : qd cX3_commonDivisor 16 (.lload 6) 2 18 := ⟨by decide +kernel, rfl⟩
theorem D_X3_commonDivisor_18 : qd cX3_commonDivisor 18 (.lconst 0) 1 19 := ⟨by decide +kernel, rfl⟩
theorem D_X3_commonDivisor_19 : qd cX3_commonDivisor 19 (.lcmp) 1 20 := ⟨by decide +kernel, rfl⟩
theorem D_X3_commonDivisor_20 : qj cX3_commonDivisor 20 (.ifCond .eq 24) (24) 23 44 := ⟨by decide +kernel, rfl, by decide⟩
theorem D_X3_commonDivisor_23 : qd cX3_commonDivisor 23 (.lload 4) 2 25 := ⟨by decide +kernel, rfl⟩
theorem D_X3_commonDivisor_25 : qd cX3_commonDivisor 25 (.lload 6) 2 27 := ⟨by decide +kernel, rfl⟩
theorem D_X3_commonDivisor_27 : qd cX3_commonDivisor 27 (.lrem) 1 28 := ⟨by decide +kernel, rfl⟩
theorem D_X3_commonDivisor_28 : qd cX3_commonDivisor 28 (.lstore 9) 2 30 := ⟨by decide +kernel, rfl⟩
theorem D_X3_commonDivisor_30 : qd cX3_commonDivisor 30 (.lload 6) 2 32 := ⟨by decide +kernel, rfl⟩
theorem D_X3_commonDivisor_32 : qd cX3_commonDivisor 32 (.lstore 4) 2 34 := ⟨by decide +kernel, rfl⟩
theorem D_X3_commonDivisor_34 : qd cX3_commonDivisor 34 (.lload 9) 2 36 := ⟨by decide +kernel, rfl⟩
theorem D_X3_commonDivisor_36 : qd cX3_commonDivisor 36 (.lstore 6) 2 38 := ⟨by decide +kernel, rfl⟩
theorem D_X3_commonDivisor_38 : qd cX3_commonDivisor 38 (.iinc 8 1) 3 41 := ⟨by decide +kernel, rfl⟩
theorem D_X3_commonDivisor_41 : qj cX3_commonDivisor 41 (.goto (-32)) (-32) 44 9 := ⟨by decide +kernel, rfl, by decide⟩
theorem D_X3_commonDivisor_44 : qd cX3_commonDivisor 44 (.lload 4) 2 46 := ⟨by decide +kernel, rfl⟩
theorem D_X3_commonDivisor_46 : qd cX3_commonDivisor 46 (.lconst 1) 1 47 := ⟨by decide +kernel, rfl⟩
theorem D_X3_commonDivisor_47 : qd cX3_commonDivisor 47 (.lcmp) 1 48 := ⟨by decide +kernel, rfl⟩
theorem D_X3_commonDivisor_48 : qj cX3_commonDivisor 48 (.ifCond .ge 7) (7) 51 55 := ⟨by decide +kernel, rfl, by decide⟩
theorem D_X3_commonDivisor_51 : qd cX3_commonDivisor 51 (.lconst 1) 1 52 := ⟨by decide +kernel, rfl⟩
theorem D_X3_commonDivisor_52 : qj cX3_commonDivisor 52 (.goto 5) (5) 55 57 := ⟨by decide +kernel, rfl, by decide⟩
theorem D_X3_commonDivisor_55 : qd cX3_commonDivisor 55 (.lload 4) 2 57 := ⟨by decide +kernel, rfl⟩
theorem D_X3_commonDivisor_57 : qd cX3_commonDivisor 57 (.lreturn) 1 58 := ⟨by decide +kernel, rfl⟩
theorem D_X3_copyOf_0 : qd cX3_copyOf 0 (.aload_n 0) 1 1 := ⟨by decide +kernel, rfl⟩
theorem D_X3_copyOf_1 : qd cX3_copyOf 1 (.getfield 20) 3 4 := ⟨by decide +kernel, rfl⟩
theorem D_X3_copyOf_4 : qd cX3_copyOf 4 (.iconst 0) 1 5 := ⟨by decide +kernel, rfl⟩
theorem D_X3_copyOf_5 : qd cX3_copyOf 5 (.aaload) 1 6 := ⟨by decide +kernel, rfl⟩
theorem D_X3_copyOf_6 : qd cX3_copyOf 6 (.aload_n 1) 1 7 := ⟨by decide +kernel, rfl⟩
theorem D_X3_copyOf_7 : qd cX3_copyOf 7 (.invokevirtual 25) 3 10 := ⟨by decide +kernel, rfl⟩
theorem D_X3_copyOf_10 : qd cX3_copyOf 10 (.aload_n 0) 1 11 := ⟨by decide +kernel, rfl⟩
theorem D_X3_copyOf_11 : qd cX3_copyOf 11 (.getfield 20) 3 14 := ⟨by decide +kernel, rfl⟩
theorem D_X3_copyOf_14 : qd cX3_copyOf 14 (.iconst 0) 1 15 := ⟨by decide +kernel, rfl⟩
theorem D_X3_copyOf_15 : qd cX3_copyOf 15 (.aaload) 1 16 := ⟨by decide +kernel, rfl⟩
theorem D_X3_copyOf_16 : qd cX3_copyOf 16 (.areturn) 1 17 := ⟨by decide +kernel, rfl⟩
theorem D_X3_findFewestSuppers_0 : qd cX3_findFewestSuppers 0 (.aload_n 0) 1 1 := ⟨by decide +kernel, rfl⟩
theorem D_X3_findFewestSuppers_1 : qd cX3_findFewestSuppers 1 (.bipush 16) 2 3 := ⟨by decide +kernel, rfl⟩
theorem D_X3_findFewestSuppers_3 : qd cX3_findFewestSuppers 3 (.putfield 58) 3 6 := ⟨by decide +kernel, rfl⟩
theorem D_X3_findFewestSuppers_6 : qd cX3_findFewestSuppers 6 (.aload_n 0) 1 7 := ⟨by decide +kernel, rfl⟩
theorem D_X3_findFewestSuppers_7 : qd cX3_findFewestSuppers 7 (.aload_n 1) 1 8 := ⟨by decide +kernel, rfl⟩
theorem D_X3_findFewestSuppers_8 : qd cX3_findFewestSuppers 8 (.invokevirtual 29) 3 11 := ⟨by decide +kernel, rfl⟩
theorem D_X3_findFewestSuppers_11 : qd cX3_findFewestSuppers 11 (.pop) 1 12 := ⟨by decide +kernel, rfl⟩
theorem D_X3_findFewestSuppers_12 : qd cX3_findFewestSuppers 12 (.aload_n 0) 1 13 := ⟨by decide +kernel, rfl⟩
theorem D_X3_findFewestSuppers_13 : qd cX3_findFewestSuppers 13 (.iconst 0) 1 14 := ⟨by decide +kernel, rfl⟩
theorem D_X3_findFewestSuppers_14 : qd cX3_findFewestSuppers 14 (.iload_n 3) 1 15 := ⟨by decide +kernel, rfl⟩
theorem D_X3_findFewestSuppers_15 : qd cX3_findFewestSuppers 15 (.iload_n 2) 1 16 := ⟨by decide +kernel, rfl⟩
theorem D_X3_findFewestSuppers_16 : qd cX3_findFewestSuppers 16 (.iconst 0) 1 17 := ⟨by decide +kernel, rfl⟩
theorem D_X3_findFewestSuppers_17 : qd cX3_findFewestSuppers 17 (.invokevirtual 61) 3 20 := ⟨by decide +kernel, rfl⟩
theorem D_X3_findFewestSuppers_20 : qd cX3_findFewestSuppers 20 (.aload_n 0) 1 21 := ⟨by decide +kernel, rfl⟩
theorem D_X3_findFewestSuppers_21 : qd cX3_findFewestSuppers 21 (.getfield 58) 3 24 := ⟨by decide +kernel, rfl⟩
theorem D_X3_findFewestSuppers_24 : qd cX3_findFewestSuppers 24 (.bipush 16) 2 26 := ⟨by decide +kernel, rfl⟩
theorem D_X3_findFewestSuppers_26 : qj cX3_findFewestSuppers 26 (.if_icmp .ge 7) (7) 29 33 := ⟨by decide +kernel, rfl, by decide⟩
theorem D_X3_findFewestSuppers_29 : qd cX3_findFewestSuppers 29 (.iconst 1) 1 30 := ⟨by decide +kernel, rfl⟩
theorem D_X3_findFewestSuppers_30 : qj cX3_findFewestSuppers 30 (.goto 4) (4) 33 34 := ⟨by decide +kernel, rfl, by decide⟩
theorem D_X3_findFewestSuppers_33 : qd cX3_findFewestSuppers 33 (.iconst 0) 1 34 := ⟨by decide +kernel, rfl⟩
theorem D_X3_findFewestSuppers_34 : qd cX3_findFewestSuppers 34 (.ireturn) 1 35 := ⟨by decide +kernel, rfl⟩
theorem D_X3_firstOf_0 : qd cX3_firstOf 0 (.iconst 0) 1 1 := ⟨by decide +kernel, rfl⟩
theorem D_X3_firstOf_1 : qd cX3_firstOf 1 (.istore_n 1) 1 2 := ⟨by decide +kernel, rfl⟩
theorem D_X3_firstOf_2 : qd cX3_firstOf 2 (.iload_n 1) 1 3 := ⟨by decide +kernel, rfl⟩
theorem D_X3_firstOf_3 : qd cX3_firstOf 3 (.bipush 6) 2 5 := ⟨by decide +kernel, rfl⟩
theorem D_X3_firstOf_5 : qj cX3_firstOf 5 (.if_icmp .ge 19) (19) 8 24 := ⟨by decide +kernel, rfl, by decide⟩
theorem D_X3_firstOf_8 : qd cX3_firstOf 8 (.iload_n 0) 1 9 := ⟨by decide +kernel, rfl⟩
theorem D_X3_firstOf_9 : qd cX3_firstOf 9 (.iload_n 1) 1 10 := ⟨by decide +kernel, rfl⟩
theorem D_X3_firstOf_10 : qd cX3_firstOf 10 (.invokestatic 40) 3 13 := ⟨by decide +kernel, rfl⟩
theorem D_X3_firstOf_13 : qj cX3_firstOf 13 (.ifCond .eq 5) (5) 16 18 := ⟨by decide +kernel, rfl, by decide⟩
theorem D_X3_firstOf_16 : qd cX3_firstOf 16 (.iload_n 1) 1 17 := ⟨by decide +kernel, rfl⟩
theorem D_X3_firstOf_17 : qd cX3_firstOf 17 (.ireturn) 1 18 := ⟨by decide +kernel, rfl⟩
theorem D_X3_firstOf_18 : qd cX3_firstOf 18 (.iinc 1 1) 3 21 := ⟨by decide +kernel, rfl⟩
theorem D_X3_firstOf_21 : qj cX3_firstOf 21 (.goto (-19)) (-19) 24 2 := ⟨by decide +kernel, rfl, by decide⟩
theorem D_X3_firstOf_24 : qd cX3_firstOf 24 (.ldc 54) 2 26 := ⟨by decide +kernel, rfl⟩
theorem D_X3_firstOf_26 : qd cX3_firstOf 26 (.ireturn) 1 27 := ⟨by decide +kernel, rfl⟩
theorem D_X3_goesAsTold_0 : qd cX3_goesAsTold 0 (.aload_n 1) 1 1 := ⟨by decide +kernel, rfl⟩
theorem D_X3_goesAsTold_1 : qd cX3_goesAsTold 1 (.iload_n 2) 1 2 := ⟨by decide +kernel, rfl⟩
theorem D_X3_goesAsTold_2 : qd cX3_goesAsTold 2 (.iload_n 3) 1 3 := ⟨by decide +kernel, rfl⟩
theorem D_X3_goesAsTold_3 : qd cX3_goesAsTold 3 (.invokevirtual 103) 3 6 := ⟨by decide +kernel, rfl⟩
theorem D_X3_goesAsTold_6 : qj cX3_goesAsTold 6 (.ifCond .ne 5) (5) 9 11 := ⟨by decide +kernel, rfl, by decide⟩
theorem D_X3_goesAsTold_9 : qd cX3_goesAsTold 9 (.iconst 0) 1 10 := ⟨by decide +kernel, rfl⟩
theorem D_X3_goesAsTold_10 : qd cX3_goesAsTold 10 (.ireturn) 1 11 := ⟨by decide +kernel, rfl⟩
theorem D_X3_goesAsTold_11 : qd cX3_goesAsTold 11 (.iconst 0) 1 12 := ⟨by decide +kernel, rfl⟩
theorem D_X3_goesAsTold_12 : qd cX3_goesAsTold 12 (.istore 4) 2 14 := ⟨by decide +kernel, rfl⟩
theorem D_X3_goesAsTold_14 : qd cX3_goesAsTold 14 (.iload 4) 2 16 := ⟨by decide +kernel, rfl⟩
theorem D_X3_goesAsTold_16 : qd cX3_goesAsTold 16 (.iload_n 3) 1 17 := ⟨by decide +kernel, rfl⟩
theorem D_X3_goesAsTold_17 : qj cX3_goesAsTold 17 (.if_icmp .ge 31) (31) 20 48 := ⟨by decide +kernel, rfl, by decide⟩
theorem D_X3_goesAsTold_20 : qd cX3_goesAsTold 20 (.aload_n 0) 1 21 := ⟨by decide +kernel, rfl⟩
theorem D_X3_goesAsTold_21 : qd cX3_goesAsTold 21 (.invokevirtual 33) 3 24 := ⟨by decide +kernel, rfl⟩
theorem D_X3_goesAsTold_24 : qd cX3_goesAsTold 24 (.aload_n 0) 1 25 := ⟨by decide +kernel, rfl⟩
theorem D_X3_goesAsTold_25 : qd cX3_goesAsTold 25 (.getfield 36) 3 28 := ⟨by decide +kernel, rfl⟩
theorem D_X3_goesAsTold_28 : qd cX3_goesAsTold 28 (.aload_n 1) 1 29 := ⟨by decide +kernel, rfl⟩
theorem D_X3_goesAsTold_29 : qd cX3_goesAsTold 29 (.getfield 108) 3 32 := ⟨by decide +kernel, rfl⟩
theorem D_X3_goesAsTold_32 : qd cX3_goesAsTold 32 (.iload_n 2) 1 33 := ⟨by decide +kernel, rfl⟩
theorem D_X3_goesAsTold_33 : qd cX3_goesAsTold 33 (.iload 4) 2 35 := ⟨by decide +kernel, rfl⟩
theorem D_X3_goesAsTold_35 : qd cX3_goesAsTold 35 (.iadd) 1 36 := ⟨by decide +kernel, rfl⟩
theorem D_X3_goesAsTold_36 : qd cX3_goesAsTold 36 (.iaload) 1 37 := ⟨by decide +kernel, rfl⟩
theorem D_X3_goesAsTold_37 : qj cX3_goesAsTold 37 (.if_icmp .eq 5) (5) 40 42 := ⟨by decide +kernel, rfl, by decide⟩
theorem D_X3_goesAsTold_40 : qd cX3_goesAsTold 40 (.iconst 0) 1 41 := ⟨by decide +kernel, rfl⟩
theorem D_X3_goesAsTold_41 : qd cX3_goesAsTold 41 (.ireturn) 1 42 := ⟨by decide +kernel, rfl⟩
theorem D_X3_goesAsTold_42 : qd cX3_goesAsTold 42 (.iinc 4 1) 3 45 := ⟨by decide +kernel, rfl⟩
theorem D_X3_goesAsTold_45 : qj cX3_goesAsTold 45 (.goto (-31)) (-31) 48 14 := ⟨by decide +kernel, rfl, by decide⟩
theorem D_X3_goesAsTold_48 : qd cX3_goesAsTold 48 (.iconst 1) 1 49 := ⟨by decide +kernel, rfl⟩
theorem D_X3_goesAsTold_49 : qd cX3_goesAsTold 49 (.ireturn) 1 50 := ⟨by decide +kernel, rfl⟩
theorem D_X3_graveDugFirst_0 : qd cX3_graveDugFirst 0 (.aload_n 0) 1 1 := ⟨by decide +kernel, rfl⟩
theorem D_X3_graveDugFirst_1 : qd cX3_graveDugFirst 1 (.aload_n 1) 1 2 := ⟨by decide +kernel, rfl⟩
theorem D_X3_graveDugFirst_2 : qd cX3_graveDugFirst 2 (.invokevirtual 29) 3 5 := ⟨by decide +kernel, rfl⟩
theorem D_X3_graveDugFirst_5 : qd cX3_graveDugFirst 5 (.astore_n 2) 1 6 := ⟨by decide +kernel, rfl⟩
theorem D_X3_graveDugFirst_6 : qd cX3_graveDugFirst 6 (.iconst 0) 1 7 := ⟨by decide +kernel, rfl⟩
theorem D_X3_graveDugFirst_7 : qd cX3_graveDugFirst 7 (.istore_n 3) 1 8 := ⟨by decide +kernel, rfl⟩
theorem D_X3_graveDugFirst_8 : qd cX3_graveDugFirst 8 (.iload_n 3) 1 9 := ⟨by decide +kernel, rfl⟩
theorem D_X3_graveDugFirst_9 : qd cX3_graveDugFirst 9 (.bipush 40) 2 11 := ⟨by decide +kernel, rfl⟩
theorem D_X3_graveDugFirst_11 : qj cX3_graveDugFirst 11 (.if_icmp .ge 39) (39) 14 50 := ⟨by decide +kernel, rfl, by decide⟩
theorem D_X3_graveDugFirst_14 : qd cX3_graveDugFirst 14 (.aload_n 2) 1 15 := ⟨by decide +kernel, rfl⟩
theorem D_X3_graveDugFirst_15 : qd cX3_graveDugFirst 15 (.invokevirtual 33) 3 18 := ⟨by decide +kernel, rfl⟩
theorem D_X3_graveDugFirst_18 : qd cX3_graveDugFirst 18 (.aload_n 2) 1 19 := ⟨by decide +kernel, rfl⟩
theorem D_X3_graveDugFirst_19 : qd cX3_graveDugFirst 19 (.getfield 36) 3 22 := ⟨by decide +kernel, rfl⟩
theorem D_X3_graveDugFirst_22 : qd cX3_graveDugFirst 22 (.aload_n 1) 1 23 := ⟨by decide +kernel, rfl⟩
theorem D_X3_graveDugFirst_23 : qd cX3_graveDugFirst 23 (.getfield 36) 3 26 := ⟨by decide +kernel, rfl⟩
theorem D_X3_graveDugFirst_26 : qj cX3_graveDugFirst 26 (.if_icmp .eq 18) (18) 29 44 := ⟨by decide +kernel, rfl, by decide⟩
theorem D_X3_graveDugFirst_29 : qd cX3_graveDugFirst 29 (.aload_n 1) 1 30 := ⟨by decide +kernel, rfl⟩
theorem D_X3_graveDugFirst_30 : qd cX3_graveDugFirst 30 (.getfield 36) 3 33 := ⟨by decide +kernel, rfl⟩
theorem D_X3_graveDugFirst_33 : qd cX3_graveDugFirst 33 (.aload_n 2) 1 34 := ⟨by decide +kernel, rfl⟩
theorem D_X3_graveDugFirst_34 : qd cX3_graveDugFirst 34 (.getfield 36) 3 37 := ⟨by decide +kernel, rfl⟩
theorem D_X3_graveDugFirst_37 : qd cX3_graveDugFirst 37 (.iconst (-1)) 1 38 := ⟨by decide +kernel, rfl⟩
theorem D_X3_graveDugFirst_38 : qd cX3_graveDugFirst 38 (.ixor) 1 39 := ⟨by decide +kernel, rfl⟩
theorem D_X3_graveDugFirst_39 : qd cX3_graveDugFirst 39 (.iand) 1 40 := ⟨by decide +kernel, rfl⟩
theorem D_X3_graveDugFirst_40 : qd cX3_graveDugFirst 40 (.invokestatic 55) 3 43 := ⟨by decide +kernel, rfl⟩
theorem D_X3_graveDugFirst_43 : qd cX3_graveDugFirst 43 (.ireturn) 1 44 := ⟨by decide +kernel, rfl⟩
theorem D_X3_graveDugFirst_44 : qd cX3_graveDugFirst 44 (.iinc 3 1) 3 47 := ⟨by decide +kernel, rfl⟩
theorem D_X3_graveDugFirst_47 : qj cX3_graveDugFirst 47 (.goto (-39)) (-39) 50 8 := ⟨by decide +kernel, rfl, by decide⟩
theorem D_X3_graveDugFirst_50 : qd cX3_graveDugFirst 50 (.ldc 54) 2 52 := ⟨by decide +kernel, rfl⟩
theorem D_X3_graveDugFirst_52 : qd cX3_graveDugFirst 52 (.ireturn) 1 53 := ⟨by decide +kernel, rfl⟩
theorem D_X3_init_0 : qd cX3_init 0 (.aload_n 0) 1 1 := ⟨by decide +kernel, rfl⟩
theorem D_X3_init_1 : qd cX3_init 1 (.invokespecial 3) 3 4 := ⟨by decide +kernel, rfl⟩
theorem D_X3_init_4 : qd cX3_init 4 (.aload_n 0) 1 5 := ⟨by decide +kernel, rfl⟩
theorem D_X3_init_5 : qd cX3_init 5 (.iconst 3) 1 6 := ⟨by decide +kernel, rfl⟩
theorem D_X3_init_6 : qd cX3_init 6 (.newarray .int) 2 8 := ⟨by decide +kernel, rfl⟩
theorem D_X3_init_8 : qd cX3_init 8 (.putfield 9) 3 11 := ⟨by decide +kernel, rfl⟩
theorem D_X3_init_11 : qd cX3_init 11 (.aload_n 0) 1 12 := ⟨by decide +kernel, rfl⟩
theorem D_X3_init_12 : qd cX3_init 12 (.iconst 3) 1 13 := ⟨by decide +kernel, rfl⟩
theorem D_X3_init_13 : qd cX3_init 13 (.newarray .int) 2 15 := ⟨by decide +kernel, rfl⟩
theorem D_X3_init_15 : qd cX3_init 15 (.putfield 15) 3 18 := ⟨by decide +kernel, rfl⟩
theorem D_X3_init_18 : qd cX3_init 18 (.aload_n 0) 1 19 := ⟨by decide +kernel, rfl⟩
theorem D_X3_init_19 : qd cX3_init 19 (.iconst 3) 1 20 := ⟨by decide +kernel, rfl⟩
theorem D_X3_init_20 : qd cX3_init 20 (.anewarray 18) 3 23 := ⟨by decide +kernel, rfl⟩
theorem D_X3_init_23 : qd cX3_init 23 (.putfield 20) 3 26 := ⟨by decide +kernel, rfl⟩
theorem D_X3_init_26 : qd cX3_init 26 (.iconst 0) 1 27 := ⟨by decide +kernel, rfl⟩
theorem D_X3_init_27 : qd cX3_init 27 (.istore_n 1) 1 28 := ⟨by decide +kernel, rfl⟩
theorem D_X3_init_28 : qd cX3_init 28 (.iload_n 1) 1 29 := ⟨by decide +kernel, rfl⟩
theorem D_X3_init_29 : qd cX3_init 29 (.iconst 3) 1 30 := ⟨by decide +kernel, rfl⟩
theorem D_X3_init_30 : qj cX3_init 30 (.if_icmp .ge 22) (22) 33 52 := ⟨by decide +kernel, rfl, by decide⟩
theorem D_X3_init_33 : qd cX3_init 33 (.aload_n 0) 1 34 := ⟨by decide +kernel, rfl⟩
theorem D_X3_init_34 : qd cX3_init 34 (.getfield 20) 3 37 := ⟨by decide +kernel, rfl⟩
theorem D_X3_init_37 : qd cX3_init 37 (.iload_n 1) 1 38 := ⟨by decide +kernel, rfl⟩
theorem D_X3_init_38 : qd cX3_init 38 (.new 18) 3 41 := ⟨by decide +kernel, rfl⟩
theorem D_X3_init_41 : qd cX3_init 41 (.dup) 1 42 := ⟨by decide +kernel, rfl⟩
theorem D_X3_init_42 : qd cX3_init 42 (.invokespecial 24) 3 45 := ⟨by decide +kernel, rfl⟩
theorem D_X3_init_45 : qd cX3_init 45 (.aastore) 1 46 := ⟨by decide +kernel, rfl⟩
theorem D_X3_init_46 : qd cX3_init 46 (.iinc 1 1) 3 49 := ⟨by decide +kernel, rfl⟩
theorem D_X3_init_49 : qj cX3_init 49 (.goto (-21)) (-21) 52 28 := ⟨by decide +kernel, rfl, by decide⟩
theorem D_X3_init_52 : qd cX3_init 52 (.return_) 1 53 := ⟨by decide +kernel, rfl⟩
theorem D_X3_keptBehind_0 : qd cX3_keptBehind 0 (.aload_n 0) 1 1 := ⟨by decide +kernel, rfl⟩
theorem D_X3_keptBehind_1 : qd cX3_keptBehind 1 (.aload_n 1) 1 2 := ⟨by decide +kernel, rfl⟩
theorem D_X3_keptBehind_2 : qd cX3_keptBehind 2 (.invokevirtual 29) 3 5 := ⟨by decide +kernel, rfl⟩
theorem D_X3_keptBehind_5 : qd cX3_keptBehind 5 (.astore_n 3) 1 6 := ⟨by decide +kernel, rfl⟩
theorem D_X3_keptBehind_6 : qd cX3_keptBehind 6 (.iconst 0) 1 7 := ⟨by decide +kernel, rfl⟩
theorem D_X3_keptBehind_7 : qd cX3_keptBehind 7 (.istore 4) 2 9 := ⟨by decide +kernel, rfl⟩
theorem D_X3_keptBehind_9 : qd cX3_keptBehind 9 (.iload 4) 2 11 := ⟨by decide +kernel, rfl⟩
theorem D_X3_keptBehind_11 : qd cX3_keptBehind 11 (.iload_n 2) 1 12 := ⟨by decide +kernel, rfl⟩
theorem D_X3_keptBehind_12 : qj cX3_keptBehind 12 (.if_icmp .ge 13) (13) 15 25 := ⟨by decide +kernel, rfl, by decide⟩
theorem D_X3_keptBehind_15 : qd cX3_keptBehind 15 (.aload_n 3) 1 16 := ⟨by decide +kernel, rfl⟩
theorem D_X3_keptBehind_16 : qd cX3_keptBehind 16 (.invokevirtual 33) 3 19 := ⟨by decide +kernel, rfl⟩
theorem D_X3_keptBehind_19 : qd cX3_keptBehind 19 (.iinc 4 1) 3 22 := ⟨by decide +kernel, rfl⟩
theorem D_X3_keptBehind_22 : qj cX3_keptBehind 22 (.goto (-13)) (-13) 25 9 := ⟨by decide +kernel, rfl, by decide⟩
theorem D_X3_keptBehind_25 : qd cX3_keptBehind 25 (.aload_n 3) 1 26 := ⟨by decide +kernel, rfl⟩
theorem D_X3_keptBehind_26 : qd cX3_keptBehind 26 (.getfield 36) 3 29 := ⟨by decide +kernel, rfl⟩
theorem D_X3_keptBehind_29 : qd cX3_keptBehind 29 (.ireturn) 1 30 := ⟨by decide +kernel, rfl⟩
theorem D_X3_kindsBy_0 : qd cX3_kindsBy 0 (.iconst 0) 1 1 := ⟨by decide +kernel, rfl⟩
theorem D_X3_kindsBy_1 : qd cX3_kindsBy 1 (.istore 6) 2 3 := ⟨by decide +kernel, rfl⟩
theorem D_X3_kindsBy_3 : qd cX3_kindsBy 3 (.iload_n 2) 1 4 := ⟨by decide +kernel, rfl⟩
theorem D_X3_kindsBy_4 : qj cX3_kindsBy 4 (.ifCond .lt 8) (8) 7 12 := ⟨by decide +kernel, rfl, by decide⟩
theorem D_X3_kindsBy_7 : qd cX3_kindsBy 7 (.iload_n 2) 1 8 := ⟨by decide +kernel, rfl⟩
theorem D_X3_kindsBy_8 : qd cX3_kindsBy 8 (.iconst 5) 1 9 := ⟨by decide +kernel, rfl⟩
theorem D_X3_kindsBy_9 : qj cX3_kindsBy 9 (.if_icmp .lt 6) (6) 12 15 := ⟨by decide +kernel, rfl, by decide⟩
theorem D_X3_kindsBy_12 : qd cX3_kindsBy 12 (.iload 6) 2 14 := ⟨by decide +kernel, rfl⟩
theorem D_X3_kindsBy_14 : qd cX3_kindsBy 14 (.ireturn) 1 15 := ⟨by decide +kernel, rfl⟩
theorem D_X3_kindsBy_15 : qd cX3_kindsBy 15 (.iconst 1) 1 16 := ⟨by decide +kernel, rfl⟩
theorem D_X3_kindsBy_16 : qd cX3_kindsBy 16 (.istore 7) 2 18 := ⟨by decide +kernel, rfl⟩
theorem D_X3_kindsBy_18 : qd cX3_kindsBy 18 (.iload 7) 2 20 := ⟨by decide +kernel, rfl⟩
theorem D_X3_kindsBy_20 : qd cX3_kindsBy 20 (.iconst 5) 1 21 := ⟨by decide +kernel, rfl⟩
theorem D_X3_kindsBy_21 : qj cX3_kindsBy 21 (.if_icmp .gt 48) (48) 24 69 := ⟨by decide +kernel, rfl, by decide⟩
theorem D_X3_kindsBy_24 : qd cX3_kindsBy 24 (.aload_n 0) 1 25 := ⟨by decide +kernel, rfl⟩
theorem D_X3_kindsBy_25 : qd cX3_kindsBy 25 (.aload_n 1) 1 26 := ⟨by decide +kernel, rfl⟩
theorem D_X3_kindsBy_26 : qd cX3_kindsBy 26 (.invokevirtual 29) 3 29 := ⟨by decide +kernel, rfl⟩
theorem D_X3_kindsBy_29 : qd cX3_kindsBy 29 (.astore 8) 2 31 := ⟨by decide +kernel, rfl⟩
theorem D_X3_kindsBy_31 : qd cX3_kindsBy 31 (.aload 8) 2 33 := ⟨by decide +kernel, rfl⟩
theorem D_X3_kindsBy_33 : qd cX3_kindsBy 33 (.getfield 92) 3 36 := ⟨by decide +kernel, rfl⟩
theorem D_X3_kindsBy_36 : qd cX3_kindsBy 36 (.iload_n 2) 1 37 := ⟨by decide +kernel, rfl⟩
theorem D_X3_kindsBy_37 : qd cX3_kindsBy 37 (.iload 7) 2 39 := ⟨by decide +kernel, rfl⟩
theorem D_X3_kindsBy_39 : qd cX3_kindsBy 39 (.iastore) 1 40 := ⟨by decide +kernel, rfl⟩
theorem D_X3_kindsBy_40 : qd cX3_kindsBy 40 (.aload 8) 2 42 := ⟨by decide +kernel, rfl⟩
theorem D_X3_kindsBy_42 : qd cX3_kindsBy 42 (.aload_n 3) 1 43 := ⟨by decide +kernel, rfl⟩
theorem D_X3_kindsBy_43 : qd cX3_kindsBy 43 (.iload 4) 2 45 := ⟨by decide +kernel, rfl⟩
theorem D_X3_kindsBy_45 : qd cX3_kindsBy 45 (.iload 5) 2 47 := ⟨by decide +kernel, rfl⟩
theorem D_X3_kindsBy_47 : qd cX3_kindsBy 47 (.invokestatic 95) 3 50 := ⟨by decide +kernel, rfl⟩
theorem D_X3_kindsBy_50 : qj cX3_kindsBy 50 (.ifCond .eq 13) (13) 53 63 := ⟨by decide +kernel, rfl, by decide⟩
theorem D_X3_kindsBy_53 : qd cX3_kindsBy 53 (.iload 6) 2 55 := ⟨by decide +kernel, rfl⟩
theorem D_X3_kindsBy_55 : qd cX3_kindsBy 55 (.iload 7) 2 57 := ⟨by decide +kernel, rfl⟩
theorem D_X3_kindsBy_57 : qd cX3_kindsBy 57 (.invokestatic 47) 3 60 := ⟨by decide +kernel, rfl⟩
theorem D_X3_kindsBy_60 : qd cX3_kindsBy 60 (.ior) 1 61 := ⟨by decide +kernel, rfl⟩
theorem D_X3_kindsBy_61 : qd cX3_kindsBy 61 (.istore 6) 2 63 := ⟨by decide +kernel, rfl⟩
theorem D_X3_kindsBy_63 : qd cX3_kindsBy 63 (.iinc 7 1) 3 66 := ⟨by decide +kernel, rfl⟩
theorem D_X3_kindsBy_66 : qj cX3_kindsBy 66 (.goto (-48)) (-48) 69 18 := ⟨by decide +kernel, rfl, by decide⟩
theorem D_X3_kindsBy_69 : qd cX3_kindsBy 69 (.iload 6) 2 71 := ⟨by decide +kernel, rfl⟩
theorem D_X3_kindsBy_71 : qd cX3_kindsBy 71 (.ireturn) 1 72 := ⟨by decide +kernel, rfl⟩
theorem D_X3_suppersNeeded_0 : qd cX3_suppersNeeded 0 (.aload_n 0) 1 1 := ⟨by decide +kernel, rfl⟩
theorem D_X3_suppersNeeded_1 : qd cX3_suppersNeeded 1 (.aload_n 1) 1 2 := ⟨by decide +kernel, rfl⟩
theorem D_X3_suppersNeeded_2 : qd cX3_suppersNeeded 2 (.invokevirtual 29) 3 5 := ⟨by decide +kernel, rfl⟩
theorem D_X3_suppersNeeded_5 : qd cX3_suppersNeeded 5 (.astore_n 3) 1 6 := ⟨by decide +kernel, rfl⟩
theorem D_X3_suppersNeeded_6 : qd cX3_suppersNeeded 6 (.iconst 0) 1 7 := ⟨by decide +kernel, rfl⟩
theorem D_X3_suppersNeeded_7 : qd cX3_suppersNeeded 7 (.istore 4) 2 9 := ⟨by decide +kernel, rfl⟩
theorem D_X3_suppersNeeded_9 : qd cX3_suppersNeeded 9 (.iconst 0) 1 10 := ⟨by decide +kernel, rfl⟩
theorem D_X3_suppersNeeded_10 : qd cX3_suppersNeeded 10 (.istore 5) 2 12 := ⟨by decide +kernel, rfl⟩
theorem D_X3_suppersNeeded_12 : qd cX3_suppersNeeded 12 (.iload 5) 2 14 := ⟨by decide +kernel, rfl⟩
theorem D_X3_suppersNeeded_14 : qd cX3_suppersNeeded 14 (.iload_n 2) 1 15 := ⟨by decide +kernel, rfl⟩
theorem D_X3_suppersNeeded_15 : qj cX3_suppersNeeded 15 (.if_icmp .ge 33) (33) 18 48 := ⟨by decide +kernel, rfl, by decide⟩
theorem D_X3_suppersNeeded_18 : qd cX3_suppersNeeded 18 (.aload_n 3) 1 19 := ⟨by decide +kernel, rfl⟩
theorem D_X3_suppersNeeded_19 : qd cX3_suppersNeeded 19 (.aload_n 3) 1 20 := ⟨by decide +kernel, rfl⟩
theorem D_X3_suppersNeeded_20 : qd cX3_suppersNeeded 20 (.invokevirtual 111) 3 23 := ⟨by decide +kernel, rfl⟩
theorem D_X3_suppersNeeded_23 : qd cX3_suppersNeeded 23 (.putfield 51) 3 26 := ⟨by decide +kernel, rfl⟩
theorem D_X3_suppersNeeded_26 : qd cX3_suppersNeeded 26 (.iload 4) 2 28 := ⟨by decide +kernel, rfl⟩
theorem D_X3_suppersNeeded_28 : qd cX3_suppersNeeded 28 (.aload_n 3) 1 29 := ⟨by decide +kernel, rfl⟩
theorem D_X3_suppersNeeded_29 : qd cX3_suppersNeeded 29 (.getfield 51) 3 32 := ⟨by decide +kernel, rfl⟩
theorem D_X3_suppersNeeded_32 : qd cX3_suppersNeeded 32 (.invokestatic 74) 3 35 := ⟨by decide +kernel, rfl⟩
theorem D_X3_suppersNeeded_35 : qd cX3_suppersNeeded 35 (.iadd) 1 36 := ⟨by decide +kernel, rfl⟩
theorem D_X3_suppersNeeded_36 : qd cX3_suppersNeeded 36 (.istore 4) 2 38 := ⟨by decide +kernel, rfl⟩
theorem D_X3_suppersNeeded_38 : qd cX3_suppersNeeded 38 (.aload_n 3) 1 39 := ⟨by decide +kernel, rfl⟩
theorem D_X3_suppersNeeded_39 : qd cX3_suppersNeeded 39 (.invokevirtual 33) 3 42 := ⟨by decide +kernel, rfl⟩
theorem D_X3_suppersNeeded_42 : qd cX3_suppersNeeded 42 (.iinc 5 1) 3 45 := ⟨by decide +kernel, rfl⟩
theorem D_X3_suppersNeeded_45 : qj cX3_suppersNeeded 45 (.goto (-33)) (-33) 48 12 := ⟨by decide +kernel, rfl, by decide⟩
theorem D_X3_suppersNeeded_48 : qd cX3_suppersNeeded 48 (.iload 4) 2 50 := ⟨by decide +kernel, rfl⟩
theorem D_X3_suppersNeeded_50 : qd cX3_suppersNeeded 50 (.ireturn) 1 51 := ⟨by decide +kernel, rfl⟩
theorem D_X3_tryYear_0 : qd cX3_tryYear 0 (.iload_n 1) 1 1 := ⟨by decide +kernel, rfl⟩
theorem D_X3_tryYear_1 : qj cX3_tryYear 1 (.ifCond .lt 13) (13) 4 14 := ⟨by decide +kernel, rfl, by decide⟩
theorem D_X3_tryYear_4 : qd cX3_tryYear 4 (.iload_n 1) 1 5 := ⟨by decide +kernel, rfl⟩
theorem D_X3_tryYear_5 : qd cX3_tryYear 5 (.iload_n 2) 1 6 := ⟨by decide +kernel, rfl⟩
theorem D_X3_tryYear_6 : qj cX3_tryYear 6 (.if_icmp .ge 8) (8) 9 14 := ⟨by decide +kernel, rfl, by decide⟩
theorem D_X3_tryYear_9 : qd cX3_tryYear 9 (.iload_n 2) 1 10 := ⟨by decide +kernel, rfl⟩
theorem D_X3_tryYear_10 : qd cX3_tryYear 10 (.iconst 3) 1 11 := ⟨by decide +kernel, rfl⟩
theorem D_X3_tryYear_11 : qj cX3_tryYear 11 (.if_icmp .le 4) (4) 14 15 := ⟨by decide +kernel, rfl, by decide⟩
theorem D_X3_tryYear_14 : qd cX3_tryYear 14 (.return_) 1 15 := ⟨by decide +kernel, rfl⟩
theorem D_X3_tryYear_15 : qd cX3_tryYear 15 (.aload_n 0) 1 16 := ⟨by decide +kernel, rfl⟩
theorem D_X3_tryYear_16 : qd cX3_tryYear 16 (.getfield 20) 3 19 := ⟨by decide +kernel, rfl⟩
theorem D_X3_tryYear_19 : qd cX3_tryYear 19 (.iload_n 1) 1 20 := ⟨by decide +kernel, rfl⟩
theorem D_X3_tryYear_20 : qd cX3_tryYear 20 (.aaload) 1 21 := ⟨by decide +kernel, rfl⟩
theorem D_X3_tryYear_21 : qd cX3_tryYear 21 (.astore 5) 2 23 := ⟨by decide +kernel, rfl⟩
theorem D_X3_tryYear_23 : qd cX3_tryYear 23 (.aload 5) 2 25 := ⟨by decide +kernel, rfl⟩
theorem D_X3_tryYear_25 : qd cX3_tryYear 25 (.invokevirtual 65) 3 28 := ⟨by decide +kernel, rfl⟩
theorem D_X3_tryYear_28 : qd cX3_tryYear 28 (.iload_n 3) 1 29 := ⟨by decide +kernel, rfl⟩
theorem D_X3_tryYear_29 : qd cX3_tryYear 29 (.aload 5) 2 31 := ⟨by decide +kernel, rfl⟩
theorem D_X3_tryYear_31 : qd cX3_tryYear 31 (.getfield 36) 3 34 := ⟨by decide +kernel, rfl⟩
theorem D_X3_tryYear_34 : qd cX3_tryYear 34 (.iconst (-1)) 1 35 := ⟨by decide +kernel, rfl⟩
theorem D_X3_tryYear_35 : qd cX3_tryYear 35 (.ixor) 1 36 := ⟨by decide +kernel, rfl⟩
theorem D_X3_tryYear_36 : qd cX3_tryYear 36 (.iand) 1 37 := ⟨by decide +kernel, rfl⟩
theorem D_X3_tryYear_37 : qj cX3_tryYear 37 (.ifCond .eq 4) (4) 40 41 := ⟨by decide +kernel, rfl, by decide⟩
theorem D_X3_tryYear_40 : qd cX3_tryYear 40 (.return_) 1 41 := ⟨by decide +kernel, rfl⟩
theorem D_X3_tryYear_41 : qd cX3_tryYear 41 (.aload_n 0) 1 42 := ⟨by decide +kernel, rfl⟩
theorem D_X3_tryYear_42 : qd cX3_tryYear 42 (.getfield 15) 3 45 := ⟨by decide +kernel, rfl⟩
theorem D_X3_tryYear_45 : qd cX3_tryYear 45 (.iload_n 1) 1 46 := ⟨by decide +kernel, rfl⟩
theorem D_X3_tryYear_46 : qd cX3_tryYear 46 (.iconst 0) 1 47 := ⟨by decide +kernel, rfl⟩
theorem D_X3_tryYear_47 : qd cX3_tryYear 47 (.iastore) 1 48 := ⟨by decide +kernel, rfl⟩
theorem D_X3_tryYear_48 : qd cX3_tryYear 48 (.iload_n 1) 1 49 := ⟨by decide +kernel, rfl⟩
theorem D_X3_tryYear_49 : qd cX3_tryYear 49 (.iload_n 2) 1 50 := ⟨by decide +kernel, rfl⟩
theorem D_X3_tryYear_50 : qd cX3_tryYear 50 (.iconst 1) 1 51 := ⟨by decide +kernel, rfl⟩
theorem D_X3_tryYear_51 : qd cX3_tryYear 51 (.isub) 1 52 := ⟨by decide +kernel, rfl⟩
theorem D_X3_tryYear_52 : qj cX3_tryYear 52 (.if_icmp .ne 24) (24) 55 76 := ⟨by decide +kernel, rfl, by decide⟩
theorem D_X3_tryYear_55 : qd cX3_tryYear 55 (.aload_n 0) 1 56 := ⟨by decide +kernel, rfl⟩
theorem D_X3_tryYear_56 : qd cX3_tryYear 56 (.iload 4) 2 58 := ⟨by decide +kernel, rfl⟩
theorem D_X3_tryYear_58 : qd cX3_tryYear 58 (.putfield 58) 3 61 := ⟨by decide +kernel, rfl⟩
theorem D_X3_tryYear_61 : qd cX3_tryYear 61 (.aload_n 0) 1 62 := ⟨by decide +kernel, rfl⟩
theorem D_X3_tryYear_62 : qd cX3_tryYear 62 (.getfield 15) 3 65 := ⟨by decide +kernel, rfl⟩
theorem D_X3_tryYear_65 : qd cX3_tryYear 65 (.iconst 0) 1 66 := ⟨by decide +kernel, rfl⟩
theorem D_X3_tryYear_66 : qd cX3_tryYear 66 (.aload_n 0) 1 67 := ⟨by decide +kernel, rfl⟩
theorem D_X3_tryYear_67 : qd cX3_tryYear 67 (.getfield 9) 3 70 := ⟨by decide +kernel, rfl⟩
theorem D_X3_tryYear_70 : qd cX3_tryYear 70 (.iconst 0) 1 71 := ⟨by decide +kernel, rfl⟩
theorem D_X3_tryYear_71 : qd cX3_tryYear 71 (.iconst 3) 1 72 := ⟨by decide +kernel, rfl⟩
theorem D_X3_tryYear_72 : qd cX3_tryYear 72 (.invokestatic 68) 3 75 := ⟨by decide +kernel, rfl⟩
theorem D_X3_tryYear_75 : qd cX3_tryYear 75 (.return_) 1 76 := ⟨by decide +kernel, rfl⟩
theorem D_X3_tryYear_76 : qd cX3_tryYear 76 (.iconst 0) 1 77 := ⟨by decide +kernel, rfl⟩
theorem D_X3_tryYear_77 : qd cX3_tryYear 77 (.istore 6) 2 79 := ⟨by decide +kernel, rfl⟩
theorem D_X3_tryYear_79 : qd cX3_tryYear 79 (.iload 6) 2 81 := ⟨by decide +kernel, rfl⟩
theorem D_X3_tryYear_81 : qd cX3_tryYear 81 (.aload 5) 2 83 := ⟨by decide +kernel, rfl⟩
theorem D_X3_tryYear_83 : qd cX3_tryYear 83 (.getfield 44) 3 86 := ⟨by decide +kernel, rfl⟩
theorem D_X3_tryYear_86 : qd cX3_tryYear 86 (.invokestatic 47) 3 89 := ⟨by decide +kernel, rfl⟩
theorem D_X3_tryYear_89 : qj cX3_tryYear 89 (.if_icmp .ge 100) (100) 92 189 := ⟨by decide +kernel, rfl, by decide⟩
theorem D_X3_tryYear_92 : qd cX3_tryYear 92 (.iload 4) 2 94 := ⟨by decide +kernel, rfl⟩
theorem D_X3_tryYear_94 : qd cX3_tryYear 94 (.iload 6) 2 96 := ⟨by decide +kernel, rfl⟩
theorem D_X3_tryYear_96 : qd cX3_tryYear 96 (.invokestatic 74) 3 99 := ⟨by decide +kernel, rfl⟩
theorem D_X3_tryYear_99 : qd cX3_tryYear 99 (.iadd) 1 100 := ⟨by decide +kernel, rfl⟩
theorem D_X3_tryYear_100 : qd cX3_tryYear 100 (.istore 7) 2 102 := ⟨by decide +kernel, rfl⟩
theorem D_X3_tryYear_102 : qd cX3_tryYear 102 (.iload 7) 2 104 := ⟨by decide +kernel, rfl⟩
theorem D_X3_tryYear_104 : qd cX3_tryYear 104 (.aload_n 0) 1 105 := ⟨by decide +kernel, rfl⟩
theorem D_X3_tryYear_105 : qd cX3_tryYear 105 (.getfield 58) 3 108 := ⟨by decide +kernel, rfl⟩
theorem D_X3_tryYear_108 : qj cX3_tryYear 108 (.if_icmp .ge 75) (75) 111 183 := ⟨by decide +kernel, rfl, by decide⟩
theorem D_X3_tryYear_111 : qd cX3_tryYear 111 (.iload 6) 2 113 := ⟨by decide +kernel, rfl⟩
theorem D_X3_tryYear_113 : qd cX3_tryYear 113 (.aload 5) 2 115 := ⟨by decide +kernel, rfl⟩
theorem D_X3_tryYear_115 : qd cX3_tryYear 115 (.getfield 51) 3 118 := ⟨by decide +kernel, rfl⟩
theorem D_X3_tryYear_118 : qd cX3_tryYear 118 (.iand) 1 119 := ⟨by decide +kernel, rfl⟩
theorem D_X3_tryYear_119 : qj cX3_tryYear 119 (.ifCond .ne 64) (64) 122 183 := ⟨by decide +kernel, rfl, by decide⟩
theorem D_X3_tryYear_122 : qd cX3_tryYear 122 (.aload_n 0) 1 123 := ⟨by decide +kernel, rfl⟩
theorem D_X3_tryYear_123 : qd cX3_tryYear 123 (.getfield 15) 3 126 := ⟨by decide +kernel, rfl⟩
theorem D_X3_tryYear_126 : qd cX3_tryYear 126 (.iload_n 1) 1 127 := ⟨by decide +kernel, rfl⟩
theorem D_X3_tryYear_127 : qd cX3_tryYear 127 (.iload 6) 2 129 := ⟨by decide +kernel, rfl⟩
theorem D_X3_tryYear_129 : qd cX3_tryYear 129 (.iastore) 1 130 := ⟨by decide +kernel, rfl⟩
theorem D_X3_tryYear_130 : qd cX3_tryYear 130 (.aload_n 0) 1 131 := ⟨by decide +kernel, rfl⟩
theorem D_X3_tryYear_131 : qd cX3_tryYear 131 (.getfield 20) 3 134 := ⟨by decide +kernel, rfl⟩
theorem D_X3_tryYear_134 : qd cX3_tryYear 134 (.iload_n 1) 1 135 := ⟨by decide +kernel, rfl⟩
theorem D_X3_tryYear_135 : qd cX3_tryYear 135 (.iconst 1) 1 136 := ⟨by decide +kernel, rfl⟩
theorem D_X3_tryYear_136 : qd cX3_tryYear 136 (.iadd) 1 137 := ⟨by decide +kernel, rfl⟩
theorem D_X3_tryYear_137 : qd cX3_tryYear 137 (.aaload) 1 138 := ⟨by decide +kernel, rfl⟩
theorem D_X3_tryYear_138 : qd cX3_tryYear 138 (.aload 5) 2 140 := ⟨by decide +kernel, rfl⟩
theorem D_X3_tryYear_140 : qd cX3_tryYear 140 (.invokevirtual 25) 3 143 := ⟨by decide +kernel, rfl⟩
theorem D_X3_tryYear_143 : qd cX3_tryYear 143 (.aload_n 0) 1 144 := ⟨by decide +kernel, rfl⟩
theorem D_X3_tryYear_144 : qd cX3_tryYear 144 (.getfield 20) 3 147 := ⟨by decide +kernel, rfl⟩
theorem D_X3_tryYear_147 : qd cX3_tryYear 147 (.iload_n 1) 1 148 := ⟨by decide +kernel, rfl⟩
theorem D_X3_tryYear_148 : qd cX3_tryYear 148 (.iconst 1) 1 149 := ⟨by decide +kernel, rfl⟩
theorem D_X3_tryYear_149 : qd cX3_tryYear 149 (.iadd) 1 150 := ⟨by decide +kernel, rfl⟩
theorem D_X3_tryYear_150 : qd cX3_tryYear 150 (.aaload) 1 151 := ⟨by decide +kernel, rfl⟩
theorem D_X3_tryYear_151 : qd cX3_tryYear 151 (.dup) 1 152 := ⟨by decide +kernel, rfl⟩
theorem D_X3_tryYear_152 : qd cX3_tryYear 152 (.getfield 51) 3 155 := ⟨by decide +kernel, rfl⟩
theorem D_X3_tryYear_155 : qd cX3_tryYear 155 (.iload 6) 2 157 := ⟨by decide +kernel, rfl⟩
theorem D_X3_tryYear_157 : qd cX3_tryYear 157 (.ior) 1 158 := ⟨by decide +kernel, rfl⟩
theorem D_X3_tryYear_158 : qd cX3_tryYear 158 (.putfield 51) 3 161 := ⟨by decide +kernel, rfl⟩
theorem D_X3_tryYear_161 : qd cX3_tryYear 161 (.aload_n 0) 1 162 := ⟨by decide +kernel, rfl⟩
theorem D_X3_tryYear_162 : qd cX3_tryYear 162 (.getfield 20) 3 165 := ⟨by decide +kernel, rfl⟩
theorem D_X3_tryYear_165 : qd cX3_tryYear 165 (.iload_n 1) 1 166 := ⟨by decide +kernel, rfl⟩
theorem D_X3_tryYear_166 : qd cX3_tryYear 166 (.iconst 1) 1 167 := ⟨by decide +kernel, rfl⟩
theorem D_X3_tryYear_167 : qd cX3_tryYear 167 (.iadd) 1 168 := ⟨by decide +kernel, rfl⟩
theorem D_X3_tryYear_168 : qd cX3_tryYear 168 (.aaload) 1 169 := ⟨by decide +kernel, rfl⟩
theorem D_X3_tryYear_169 : qd cX3_tryYear 169 (.invokevirtual 79) 3 172 := ⟨by decide +kernel, rfl⟩
theorem D_X3_tryYear_172 : qd cX3_tryYear 172 (.aload_n 0) 1 173 := ⟨by decide +kernel, rfl⟩
theorem D_X3_tryYear_173 : qd cX3_tryYear 173 (.iload_n 1) 1 174 := ⟨by decide +kernel, rfl⟩
theorem D_X3_tryYear_174 : qd cX3_tryYear 174 (.iconst 1) 1 175 := ⟨by decide +kernel, rfl⟩
theorem D_X3_tryYear_175 : qd cX3_tryYear 175 (.iadd) 1 176 := ⟨by decide +kernel, rfl⟩
theorem D_X3_tryYear_176 : qd cX3_tryYear 176 (.iload_n 2) 1 177 := ⟨by decide +kernel, rfl⟩
theorem D_X3_tryYear_177 : qd cX3_tryYear 177 (.iload_n 3) 1 178 := ⟨by decide +kernel, rfl⟩
theorem D_X3_tryYear_178 : qd cX3_tryYear 178 (.iload 7) 2 180 := ⟨by decide +kernel, rfl⟩
theorem D_X3_tryYear_180 : qd cX3_tryYear 180 (.invokevirtual 61) 3 183 := ⟨by decide +kernel, rfl⟩
theorem D_X3_tryYear_183 : qd cX3_tryYear 183 (.iinc 6 1) 3 186 := ⟨by decide +kernel, rfl⟩
theorem D_X3_tryYear_186 : qj cX3_tryYear 186 (.goto (-107)) (-107) 189 79 := ⟨by decide +kernel, rfl, by decide⟩
theorem D_X3_tryYear_189 : qd cX3_tryYear 189 (.return_) 1 190 := ⟨by decide +kernel, rfl⟩
theorem D_X3_whisperersBy_0 : qd cX3_whisperersBy 0 (.iconst 0) 1 1 := ⟨by decide +kernel, rfl⟩
theorem D_X3_whisperersBy_1 : qd cX3_whisperersBy 1 (.istore 6) 2 3 := ⟨by decide +kernel, rfl⟩
theorem D_X3_whisperersBy_3 : qd cX3_whisperersBy 3 (.iconst 0) 1 4 := ⟨by decide +kernel, rfl⟩
theorem D_X3_whisperersBy_4 : qd cX3_whisperersBy 4 (.istore 7) 2 6 := ⟨by decide +kernel, rfl⟩
theorem D_X3_whisperersBy_6 : qd cX3_whisperersBy 6 (.iload 7) 2 8 := ⟨by decide +kernel, rfl⟩
theorem D_X3_whisperersBy_8 : qd cX3_whisperersBy 8 (.aload_n 1) 1 9 := ⟨by decide +kernel, rfl⟩
theorem D_X3_whisperersBy_9 : qd cX3_whisperersBy 9 (.getfield 44) 3 12 := ⟨by decide +kernel, rfl⟩
theorem D_X3_whisperersBy_12 : qj cX3_whisperersBy 12 (.if_icmp .ge 49) (49) 15 61 := ⟨by decide +kernel, rfl, by decide⟩
theorem D_X3_whisperersBy_15 : qd cX3_whisperersBy 15 (.aload_n 0) 1 16 := ⟨by decide +kernel, rfl⟩
theorem D_X3_whisperersBy_16 : qd cX3_whisperersBy 16 (.aload_n 1) 1 17 := ⟨by decide +kernel, rfl⟩
theorem D_X3_whisperersBy_17 : qd cX3_whisperersBy 17 (.invokevirtual 29) 3 20 := ⟨by decide +kernel, rfl⟩
theorem D_X3_whisperersBy_20 : qd cX3_whisperersBy 20 (.astore 8) 2 22 := ⟨by decide +kernel, rfl⟩
theorem D_X3_whisperersBy_22 : qd cX3_whisperersBy 22 (.aload 8) 2 24 := ⟨by decide +kernel, rfl⟩
theorem D_X3_whisperersBy_24 : qd cX3_whisperersBy 24 (.iload 7) 2 26 := ⟨by decide +kernel, rfl⟩
theorem D_X3_whisperersBy_26 : qd cX3_whisperersBy 26 (.iload_n 2) 1 27 := ⟨by decide +kernel, rfl⟩
theorem D_X3_whisperersBy_27 : qd cX3_whisperersBy 27 (.bipush 27) 2 29 := ⟨by decide +kernel, rfl⟩
theorem D_X3_whisperersBy_29 : qd cX3_whisperersBy 29 (.invokevirtual 99) 3 32 := ⟨by decide +kernel, rfl⟩
theorem D_X3_whisperersBy_32 : qd cX3_whisperersBy 32 (.aload 8) 2 34 := ⟨by decide +kernel, rfl⟩
theorem D_X3_whisperersBy_34 : qd cX3_whisperersBy 34 (.aload_n 3) 1 35 := ⟨by decide +kernel, rfl⟩
theorem D_X3_whisperersBy_35 : qd cX3_whisperersBy 35 (.iload 4) 2 37 := ⟨by decide +kernel, rfl⟩
theorem D_X3_whisperersBy_37 : qd cX3_whisperersBy 37 (.iload 5) 2 39 := ⟨by decide +kernel, rfl⟩
theorem D_X3_whisperersBy_39 : qd cX3_whisperersBy 39 (.invokestatic 95) 3 42 := ⟨by decide +kernel, rfl⟩
theorem D_X3_whisperersBy_42 : qj cX3_whisperersBy 42 (.ifCond .eq 13) (13) 45 55 := ⟨by decide +kernel, rfl, by decide⟩
theorem D_X3_whisperersBy_45 : qd cX3_whisperersBy 45 (.iload 6) 2 47 := ⟨by decide +kernel, rfl⟩
theorem D_X3_whisperersBy_47 : qd cX3_whisperersBy 47 (.iload 7) 2 49 := ⟨by decide +kernel, rfl⟩
theorem D_X3_whisperersBy_49 : qd cX3_whisperersBy 49 (.invokestatic 47) 3 52 := ⟨by decide +kernel, rfl⟩
theorem D_X3_whisperersBy_52 : qd cX3_whisperersBy 52 (.ior) 1 53 := ⟨by decide +kernel, rfl⟩
theorem D_X3_whisperersBy_53 : qd cX3_whisperersBy 53 (.istore 6) 2 55 := ⟨by decide +kernel, rfl⟩
theorem D_X3_whisperersBy_55 : qd cX3_whisperersBy 55 (.iinc 7 1) 3 58 := ⟨by decide +kernel, rfl⟩
theorem D_X3_whisperersBy_58 : qj cX3_whisperersBy 58 (.goto (-52)) (-52) 61 6 := ⟨by decide +kernel, rfl, by decide⟩
theorem D_X3_whisperersBy_61 : qd cX3_whisperersBy 61 (.iload 6) 2 63 := ⟨by decide +kernel, rfl⟩
theorem D_X3_whisperersBy_63 : qd cX3_whisperersBy 63 (.ireturn) 1 64 := ⟨by decide +kernel, rfl⟩
theorem D_X3_yearsByDraws_0 : qd cX3_yearsByDraws 0 (.aload_n 0) 1 1 := ⟨by decide +kernel, rfl⟩
theorem D_X3_yearsByDraws_1 : qd cX3_yearsByDraws 1 (.aload_n 1) 1 2 := ⟨by decide +kernel, rfl⟩
theorem D_X3_yearsByDraws_2 : qd cX3_yearsByDraws 2 (.invokevirtual 29) 3 5 := ⟨by decide +kernel, rfl⟩
theorem D_X3_yearsByDraws_5 : qd cX3_yearsByDraws 5 (.astore 4) 2 7 := ⟨by decide +kernel, rfl⟩
theorem D_X3_yearsByDraws_7 : qd cX3_yearsByDraws 7 (.iload_n 3) 1 8 := ⟨by decide +kernel, rfl⟩
theorem D_X3_yearsByDraws_8 : qd cX3_yearsByDraws 8 (.i2l) 1 9 := ⟨by decide +kernel, rfl⟩
theorem D_X3_yearsByDraws_9 : qd cX3_yearsByDraws 9 (.lstore 5) 2 11 := ⟨by decide +kernel, rfl⟩
theorem D_X3_yearsByDraws_11 : qd cX3_yearsByDraws 11 (.iconst 0) 1 12 := ⟨by decide +kernel, rfl⟩
theorem D_X3_yearsByDraws_12 : qd cX3_yearsByDraws 12 (.istore 7) 2 14 := ⟨by decide +kernel, rfl⟩
theorem D_X3_yearsByDraws_14 : qd cX3_yearsByDraws 14 (.iload 7) 2 16 := ⟨by decide +kernel, rfl⟩
theorem D_X3_yearsByDraws_16 : qd cX3_yearsByDraws 16 (.iload_n 2) 1 17 := ⟨by decide +kernel, rfl⟩
theorem D_X3_yearsByDraws_17 : qj cX3_yearsByDraws 17 (.if_icmp .ge 102) (102) 20 119 := ⟨by decide +kernel, rfl, by decide⟩
theorem D_X3_yearsByDraws_20 : qd cX3_yearsByDraws 20 (.aload 4) 2 22 := ⟨by decide +kernel, rfl⟩
theorem D_X3_yearsByDraws_22 : qd cX3_yearsByDraws 22 (.getfield 44) 3 25 := ⟨by decide +kernel, rfl⟩
theorem D_X3_yearsByDraws_25 : qj cX3_yearsByDraws 25 (.ifCond .le 94) (94) 28 119 := ⟨by decide +kernel, rfl, by decide⟩
theorem D_X3_yearsByDraws_28 : qd cX3_yearsByDraws 28 (.lload 5) 2 30 := ⟨by decide +kernel, rfl⟩
theorem D_X3_yearsByDraws_30 : qd cX3_yearsByDraws 30 (.ldc2_w 124) 3 33 := ⟨by decide +kernel, rfl⟩
theorem D_X3_yearsByDraws_33 : qd cX3_yearsByDraws 33 (.lmul) 1 34 := ⟨by decide +kernel, rfl⟩
theorem D_X3_yearsByDraws_34 : qd cX3_yearsByDraws 34 (.ldc2_w 126) 3 37 := ⟨by decide +kernel, rfl⟩
theorem D_X3_yearsByDraws_37 : qd cX3_yearsByDraws 37 (.lrem) 1 38 := ⟨by decide +kernel, rfl⟩
theorem D_X3_yearsByDraws_38 : qd cX3_yearsByDraws 38 (.lstore 5) 2 40 := ⟨by decide +kernel, rfl⟩
theorem D_X3_yearsByDraws_40 : qd cX3_yearsByDraws 40 (.aload 4) 2 42 := ⟨by decide +kernel, rfl⟩
theorem D_X3_yearsByDraws_42 : qd cX3_yearsByDraws 42 (.dup) 1 43 := ⟨by decide +kernel, rfl⟩
theorem D_X3_yearsByDraws_43 : qd cX3_yearsByDraws 43 (.getfield 51) 3 46 := ⟨by decide +kernel, rfl⟩
theorem D_X3_yearsByDraws_46 : qd cX3_yearsByDraws 46 (.lload 5) 2 48 := ⟨by decide +kernel, rfl⟩
theorem D_X3_yearsByDraws_48 : qd cX3_yearsByDraws 48 (.aload 4) 2 50 := ⟨by decide +kernel, rfl⟩
theorem D_X3_yearsByDraws_50 : qd cX3_yearsByDraws 50 (.getfield 44) 3 53 := ⟨by decide +kernel, rfl⟩
theorem D_X3_yearsByDraws_53 : qd cX3_yearsByDraws 53 (.i2l) 1 54 := ⟨by decide +kernel, rfl⟩
theorem D_X3_yearsByDraws_54 : qd cX3_yearsByDraws 54 (.lrem) 1 55 := ⟨by decide +kernel, rfl⟩
theorem D_X3_yearsByDraws_55 : qd cX3_yearsByDraws 55 (.l2i) 1 56 := ⟨by decide +kernel, rfl⟩
theorem D_X3_yearsByDraws_56 : qd cX3_yearsByDraws 56 (.invokestatic 47) 3 59 := ⟨by decide +kernel, rfl⟩
theorem D_X3_yearsByDraws_59 : qd cX3_yearsByDraws 59 (.ior) 1 60 := ⟨by decide +kernel, rfl⟩
theorem D_X3_yearsByDraws_60 : qd cX3_yearsByDraws 60 (.putfield 51) 3 63 := ⟨by decide +kernel, rfl⟩
theorem D_X3_yearsByDraws_63 : qd cX3_yearsByDraws 63 (.lload 5) 2 65 := ⟨by decide +kernel, rfl⟩
theorem D_X3_yearsByDraws_65 : qd cX3_yearsByDraws 65 (.ldc2_w 128) 3 68 := ⟨by decide +kernel, rfl⟩
theorem D_X3_yearsByDraws_68 : qd cX3_yearsByDraws 68 (.lrem) 1 69 := ⟨by decide +kernel, rfl⟩
theorem D_X3_yearsByDraws_69 : qd cX3_yearsByDraws 69 (.l2i) 1 70 := ⟨by decide +kernel, rfl⟩
theorem D_X3_yearsByDraws_70 : qd cX3_yearsByDraws 70 (.istore 8) 2 72 := ⟨by decide +kernel, rfl⟩
theorem D_X3_yearsByDraws_72 : qd cX3_yearsByDraws 72 (.lload 5) 2 74 := ⟨by decide +kernel, rfl⟩
theorem D_X3_yearsByDraws_74 : qd cX3_yearsByDraws 74 (.ldc2_w 130) 3 77 := ⟨by decide +kernel, rfl⟩
theorem D_X3_yearsByDraws_77 : qd cX3_yearsByDraws 77 (.lrem) 1 78 := ⟨by decide +kernel, rfl⟩
theorem D_X3_yearsByDraws_78 : qd cX3_yearsByDraws 78 (.lconst 0) 1 79 := ⟨by decide +kernel, rfl⟩
theorem D_X3_yearsByDraws_79 : qd cX3_yearsByDraws 79 (.lcmp) 1 80 := ⟨by decide +kernel, rfl⟩
theorem D_X3_yearsByDraws_80 : qj cX3_yearsByDraws 80 (.ifCond .ne 28) (28) 83 108 := ⟨by decide +kernel, rfl, by decide⟩
theorem D_X3_yearsByDraws_83 : qd cX3_yearsByDraws 83 (.iload 8) 2 85 := ⟨by decide +kernel, rfl⟩
theorem D_X3_yearsByDraws_85 : qd cX3_yearsByDraws 85 (.aload 4) 2 87 := ⟨by decide +kernel, rfl⟩
theorem D_X3_yearsByDraws_87 : qd cX3_yearsByDraws 87 (.getfield 44) 3 90 := ⟨by decide +kernel, rfl⟩
theorem D_X3_yearsByDraws_90 : qj cX3_yearsByDraws 90 (.if_icmp .ge 18) (18) 93 108 := ⟨by decide +kernel, rfl, by decide⟩
theorem D_X3_yearsByDraws_93 : qd cX3_yearsByDraws 93 (.aload 4) 2 95 := ⟨by decide +kernel, rfl⟩
theorem D_X3_yearsByDraws_95 : qd cX3_yearsByDraws 95 (.dup) 1 96 := ⟨by decide +kernel, rfl⟩
theorem D_X3_yearsByDraws_96 : qd cX3_yearsByDraws 96 (.getfield 132) 3 99 := ⟨by decide +kernel, rfl⟩
theorem D_X3_yearsByDraws_99 : qd cX3_yearsByDraws 99 (.iload 8) 2 101 := ⟨by decide +kernel, rfl⟩
theorem D_X3_yearsByDraws_101 : qd cX3_yearsByDraws 101 (.invokestatic 47) 3 104 := ⟨by decide +kernel, rfl⟩
theorem D_X3_yearsByDraws_104 : qd cX3_yearsByDraws 104 (.ior) 1 105 := ⟨by decide +kernel, rfl⟩
theorem D_X3_yearsByDraws_105 : qd cX3_yearsByDraws 105 (.putfield 132) 3 108 := ⟨by decide +kernel, rfl⟩
theorem D_X3_yearsByDraws_108 : qd cX3_yearsByDraws 108 (.aload 4) 2 110 := ⟨by decide +kernel, rfl⟩
theorem D_X3_yearsByDraws_110 : qd cX3_yearsByDraws 110 (.invokevirtual 33) 3 113 := ⟨by decide +kernel, rfl⟩
theorem D_X3_yearsByDraws_113 : qd cX3_yearsByDraws 113 (.iinc 7 1) 3 116 := ⟨by decide +kernel, rfl⟩
theorem D_X3_yearsByDraws_116 : qj cX3_yearsByDraws 116 (.goto (-102)) (-102) 119 14 := ⟨by decide +kernel, rfl, by decide⟩
theorem D_X3_yearsByDraws_119 : qd cX3_yearsByDraws 119 (.aload 4) 2 121 := ⟨by decide +kernel, rfl⟩
theorem D_X3_yearsByDraws_121 : qd cX3_yearsByDraws 121 (.areturn) 1 122 := ⟨by decide +kernel, rfl⟩
theorem D_X3_yearsTillDug_0 : qd cX3_yearsTillDug 0 (.aload_n 0) 1 1 := ⟨by decide +kernel, rfl⟩
theorem D_X3_yearsTillDug_1 : qd cX3_yearsTillDug 1 (.aload_n 1) 1 2 := ⟨by decide +kernel, rfl⟩
theorem D_X3_yearsTillDug_2 : qd cX3_yearsTillDug 2 (.invokevirtual 29) 3 5 := ⟨by decide +kernel, rfl⟩
theorem D_X3_yearsTillDug_5 : qd cX3_yearsTillDug 5 (.astore 4) 2 7 := ⟨by decide +kernel, rfl⟩
theorem D_X3_yearsTillDug_7 : qd cX3_yearsTillDug 7 (.iconst 0) 1 8 := ⟨by decide +kernel, rfl⟩
theorem D_X3_yearsTillDug_8 : qd cX3_yearsTillDug 8 (.istore 5) 2 10 := ⟨by decide +kernel, rfl⟩
theorem D_X3_yearsTillDug_10 : qd cX3_yearsTillDug 10 (.iload 5) 2 12 := ⟨by decide +kernel, rfl⟩
theorem D_X3_yearsTillDug_12 : qd cX3_yearsTillDug 12 (.bipush 40) 2 14 := ⟨by decide +kernel, rfl⟩
theorem D_X3_yearsTillDug_14 : qj cX3_yearsTillDug 14 (.if_icmp .gt 48) (48) 17 62 := ⟨by decide +kernel, rfl, by decide⟩
theorem D_X3_yearsTillDug_17 : qd cX3_yearsTillDug 17 (.aload 4) 2 19 := ⟨by decide +kernel, rfl⟩
theorem D_X3_yearsTillDug_19 : qd cX3_yearsTillDug 19 (.getfield 36) 3 22 := ⟨by decide +kernel, rfl⟩
theorem D_X3_yearsTillDug_22 : qd cX3_yearsTillDug 22 (.iload_n 2) 1 23 := ⟨by decide +kernel, rfl⟩
theorem D_X3_yearsTillDug_23 : qd cX3_yearsTillDug 23 (.invokestatic 40) 3 26 := ⟨by decide +kernel, rfl⟩
theorem D_X3_yearsTillDug_26 : qj cX3_yearsTillDug 26 (.ifCond .ne 6) (6) 29 32 := ⟨by decide +kernel, rfl, by decide⟩
theorem D_X3_yearsTillDug_29 : qd cX3_yearsTillDug 29 (.iload 5) 2 31 := ⟨by decide +kernel, rfl⟩
theorem D_X3_yearsTillDug_31 : qd cX3_yearsTillDug 31 (.ireturn) 1 32 := ⟨by decide +kernel, rfl⟩
theorem D_X3_yearsTillDug_32 : qd cX3_yearsTillDug 32 (.iload_n 3) 1 33 := ⟨by decide +kernel, rfl⟩
theorem D_X3_yearsTillDug_33 : qj cX3_yearsTillDug 33 (.ifCond .eq 18) (18) 36 51 := ⟨by decide +kernel, rfl, by decide⟩
theorem D_X3_yearsTillDug_36 : qd cX3_yearsTillDug 36 (.aload 4) 2 38 := ⟨by decide +kernel, rfl⟩
theorem D_X3_yearsTillDug_38 : qd cX3_yearsTillDug 38 (.aload 4) 2 40 := ⟨by decide +kernel, rfl⟩
theorem D_X3_yearsTillDug_40 : qd cX3_yearsTillDug 40 (.getfield 44) 3 43 := ⟨by decide +kernel, rfl⟩
theorem D_X3_yearsTillDug_43 : qd cX3_yearsTillDug 43 (.invokestatic 47) 3 46 := ⟨by decide +kernel, rfl⟩
theorem D_X3_yearsTillDug_46 : qd cX3_yearsTillDug 46 (.iconst 1) 1 47 := ⟨by decide +kernel, rfl⟩
theorem D_X3_yearsTillDug_47 : qd cX3_yearsTillDug 47 (.isub) 1 48 := ⟨by decide +kernel, rfl⟩
theorem D_X3_yearsTillDug_48 : qd cX3_yearsTillDug 48 (.putfield 51) 3 51 := ⟨by decide +kernel, rfl⟩
theorem D_X3_yearsTillDug_51 : qd cX3_yearsTillDug 51 (.aload 4) 2 53 := ⟨by decide +kernel, rfl⟩
theorem D_X3_yearsTillDug_53 : qd cX3_yearsTillDug 53 (.invokevirtual 33) 3 56 := ⟨by decide +kernel, rfl⟩
theorem D_X3_yearsTillDug_56 : qd cX3_yearsTillDug 56 (.iinc 5 1) 3 59 := ⟨by decide +kernel, rfl⟩
theorem D_X3_yearsTillDug_59 : qj cX3_yearsTillDug 59 (.goto (-49)) (-49) 62 10 := ⟨by decide +kernel, rfl, by decide⟩
theorem D_X3_yearsTillDug_62 : qd cX3_yearsTillDug 62 (.ldc 54) 2 64 := ⟨by decide +kernel, rfl⟩
theorem D_X3_yearsTillDug_64 : qd cX3_yearsTillDug 64 (.ireturn) 1 65 := ⟨by decide +kernel, rfl⟩
theorem D_X3_yearsTillForgotten_0 : qd cX3_yearsTillForgotten 0 (.aload_n 1) 1 1 := ⟨by decide +kernel, rfl⟩
theorem D_X3_yearsTillForgotten_1 : qd cX3_yearsTillForgotten 1 (.iload_n 2) 1 2 := ⟨by decide +kernel, rfl⟩
theorem D_X3_yearsTillForgotten_2 : qd cX3_yearsTillForgotten 2 (.iload_n 3) 1 3 := ⟨by decide +kernel, rfl⟩
theorem D_X3_yearsTillForgotten_3 : qd cX3_yearsTillForgotten 3 (.invokevirtual 82) 3 6 := ⟨by decide +kernel, rfl⟩
theorem D_X3_yearsTillForgotten_6 : qd cX3_yearsTillForgotten 6 (.istore 4) 2 8 := ⟨by decide +kernel, rfl⟩
theorem D_X3_yearsTillForgotten_8 : qd cX3_yearsTillForgotten 8 (.iconst 0) 1 9 := ⟨by decide +kernel, rfl⟩
theorem D_X3_yearsTillForgotten_9 : qd cX3_yearsTillForgotten 9 (.istore 5) 2 11 := ⟨by decide +kernel, rfl⟩
theorem D_X3_yearsTillForgotten_11 : qd cX3_yearsTillForgotten 11 (.iload 5) 2 13 := ⟨by decide +kernel, rfl⟩
theorem D_X3_yearsTillForgotten_13 : qd cX3_yearsTillForgotten 13 (.bipush 40) 2 15 := ⟨by decide +kernel, rfl⟩
theorem D_X3_yearsTillForgotten_15 : qj cX3_yearsTillForgotten 15 (.if_icmp .gt 29) (29) 18 44 := ⟨by decide +kernel, rfl, by decide⟩
theorem D_X3_yearsTillForgotten_18 : qd cX3_yearsTillForgotten 18 (.iload 4) 2 20 := ⟨by decide +kernel, rfl⟩
theorem D_X3_yearsTillForgotten_20 : qd cX3_yearsTillForgotten 20 (.aload_n 1) 1 21 := ⟨by decide +kernel, rfl⟩
theorem D_X3_yearsTillForgotten_21 : qd cX3_yearsTillForgotten 21 (.getfield 86) 3 24 := ⟨by decide +kernel, rfl⟩
theorem D_X3_yearsTillForgotten_24 : qj cX3_yearsTillForgotten 24 (.if_icmp .ge 6) (6) 27 30 := ⟨by decide +kernel, rfl, by decide⟩
theorem D_X3_yearsTillForgotten_27 : qd cX3_yearsTillForgotten 27 (.iload 5) 2 29 := ⟨by decide +kernel, rfl⟩
theorem D_X3_yearsTillForgotten_29 : qd cX3_yearsTillForgotten 29 (.ireturn) 1 30 := ⟨by decide +kernel, rfl⟩
theorem D_X3_yearsTillForgotten_30 : qd cX3_yearsTillForgotten 30 (.aload_n 1) 1 31 := ⟨by decide +kernel, rfl⟩
theorem D_X3_yearsTillForgotten_31 : qd cX3_yearsTillForgotten 31 (.iload 4) 2 33 := ⟨by decide +kernel, rfl⟩
theorem D_X3_yearsTillForgotten_33 : qd cX3_yearsTillForgotten 33 (.invokevirtual 89) 3 36 := ⟨by decide +kernel, rfl⟩
theorem D_X3_yearsTillForgotten_36 : qd cX3_yearsTillForgotten 36 (.istore 4) 2 38 := ⟨by decide +kernel, rfl⟩
theorem D_X3_yearsTillForgotten_38 : qd cX3_yearsTillForgotten 38 (.iinc 5 1) 3 41 := ⟨by decide +kernel, rfl⟩
theorem D_X3_yearsTillForgotten_41 : qj cX3_yearsTillForgotten 41 (.goto (-30)) (-30) 44 11 := ⟨by decide +kernel, rfl, by decide⟩
theorem D_X3_yearsTillForgotten_44 : qd cX3_yearsTillForgotten 44 (.ldc 54) 2 46 := ⟨by decide +kernel, rfl⟩
theorem D_X3_yearsTillForgotten_46 : qd cX3_yearsTillForgotten 46 (.ireturn) 1 47 := ⟨by decide +kernel, rfl⟩
end
