section
-- ===== PART A: goes FIRST, ahead of the names: the tables' words, and 'selects' of the private methods out of them =====
/-- a private method of a class that the tables say can be made, by its rows of tables_1 -/
def lw_okq (q : MethodName × Nat) : Prop := (q.1.cls ≠ "java/lang/invoke/MethodHandle" ∧ q.1.cls ≠ "java/lang/invoke/VarHandle") ∧ Cond.instantiable q.1.cls q.2 ∈ tables_1 ∧ Cond.privateMethod q.1 ∈ tables_1 ∧ Cond.instanceMethod q.1 ∈ tables_1
theorem lw_p0 : lw_okq (⟨"DreamGraves", "found", "(I)I"⟩, 8) := ⟨⟨by decide +kernel, by decide +kernel⟩, List.mem_of_getElem? (i := 13) (by decide +kernel), List.mem_of_getElem? (i := 230) (by decide +kernel), List.mem_of_getElem? (i := 231) (by decide +kernel)⟩
theorem lw_p1 : lw_okq (⟨"DreamGraves", "sound", "(I)I"⟩, 8) := ⟨⟨by decide +kernel, by decide +kernel⟩, List.mem_of_getElem? (i := 13) (by decide +kernel), List.mem_of_getElem? (i := 242) (by decide +kernel), List.mem_of_getElem? (i := 243) (by decide +kernel)⟩
theorem lw_p2 : lw_okq (⟨"DreamGraves$Tape", "nextToken", "()V"⟩, 9) := ⟨⟨by decide +kernel, by decide +kernel⟩, List.mem_of_getElem? (i := 23) (by decide +kernel), List.mem_of_getElem? (i := 301) (by decide +kernel), List.mem_of_getElem? (i := 302) (by decide +kernel)⟩
theorem lw_p3 : lw_okq (⟨"DreamGraves$Tape", "takeFigures", "()V"⟩, 9) := ⟨⟨by decide +kernel, by decide +kernel⟩, List.mem_of_getElem? (i := 23) (by decide +kernel), List.mem_of_getElem? (i := 308) (by decide +kernel), List.mem_of_getElem? (i := 309) (by decide +kernel)⟩
theorem lw_p4 : lw_okq (⟨"DreamGraves$Tape", "readLaw", "()Z"⟩, 9) := ⟨⟨by decide +kernel, by decide +kernel⟩, List.mem_of_getElem? (i := 23) (by decide +kernel), List.mem_of_getElem? (i := 312) (by decide +kernel), List.mem_of_getElem? (i := 313) (by decide +kernel)⟩
theorem lw_p5 : lw_okq (⟨"DreamGraves$Tape", "takeSign", "(I)Z"⟩, 9) := ⟨⟨by decide +kernel, by decide +kernel⟩, List.mem_of_getElem? (i := 23) (by decide +kernel), List.mem_of_getElem? (i := 316) (by decide +kernel), List.mem_of_getElem? (i := 317) (by decide +kernel)⟩
theorem lw_p6 : lw_okq (⟨"DreamGraves$Tape", "fail", "(I)Z"⟩, 9) := ⟨⟨by decide +kernel, by decide +kernel⟩, List.mem_of_getElem? (i := 23) (by decide +kernel), List.mem_of_getElem? (i := 320) (by decide +kernel), List.mem_of_getElem? (i := 321) (by decide +kernel)⟩
theorem lw_p7 : lw_okq (⟨"DreamGraves$Tape", "takeNumber", "(II)Z"⟩, 9) := ⟨⟨by decide +kernel, by decide +kernel⟩, List.mem_of_getElem? (i := 23) (by decide +kernel), List.mem_of_getElem? (i := 324) (by decide +kernel), List.mem_of_getElem? (i := 325) (by decide +kernel)⟩
theorem lw_p8 : lw_okq (⟨"DreamGraves$Tape", "readSleepers", "()Z"⟩, 9) := ⟨⟨by decide +kernel, by decide +kernel⟩, List.mem_of_getElem? (i := 23) (by decide +kernel), List.mem_of_getElem? (i := 331) (by decide +kernel), List.mem_of_getElem? (i := 332) (by decide +kernel)⟩
theorem lw_p9 : lw_okq (⟨"DreamGraves$Tape", "readSleeper", "(I)Z"⟩, 9) := ⟨⟨by decide +kernel, by decide +kernel⟩, List.mem_of_getElem? (i := 23) (by decide +kernel), List.mem_of_getElem? (i := 335) (by decide +kernel), List.mem_of_getElem? (i := 336) (by decide +kernel)⟩
theorem lw_p10 : lw_okq (⟨"DreamGraves", "noYard", "()Z"⟩, 8) := ⟨⟨by decide +kernel, by decide +kernel⟩, List.mem_of_getElem? (i := 13) (by decide +kernel), List.mem_of_getElem? (i := 377) (by decide +kernel), List.mem_of_getElem? (i := 378) (by decide +kernel)⟩
theorem lw_p11 : lw_okq (⟨"DreamGraves$Yard", "rememberedBy", "(I)I"⟩, 10) := ⟨⟨by decide +kernel, by decide +kernel⟩, List.mem_of_getElem? (i := 29) (by decide +kernel), List.mem_of_getElem? (i := 404) (by decide +kernel), List.mem_of_getElem? (i := 405) (by decide +kernel)⟩
theorem lw_p12 : lw_okq (⟨"DreamGraves$Yard", "nextBehind", "(I)I"⟩, 10) := ⟨⟨by decide +kernel, by decide +kernel⟩, List.mem_of_getElem? (i := 29) (by decide +kernel), List.mem_of_getElem? (i := 414) (by decide +kernel), List.mem_of_getElem? (i := 415) (by decide +kernel)⟩
theorem lw_p13 : lw_okq (⟨"DreamGraves$Yard", "graveOfYear", "()I"⟩, 10) := ⟨⟨by decide +kernel, by decide +kernel⟩, List.mem_of_getElem? (i := 29) (by decide +kernel), List.mem_of_getElem? (i := 418) (by decide +kernel), List.mem_of_getElem? (i := 419) (by decide +kernel)⟩
theorem lw_p14 : lw_okq (⟨"DreamGraves$Yard", "forgetByAll", "(I)V"⟩, 10) := ⟨⟨by decide +kernel, by decide +kernel⟩, List.mem_of_getElem? (i := 29) (by decide +kernel), List.mem_of_getElem? (i := 422) (by decide +kernel), List.mem_of_getElem? (i := 423) (by decide +kernel)⟩
theorem lw_p15 : lw_okq (⟨"DreamGraves$Yard", "fadeFor", "(I)V"⟩, 10) := ⟨⟨by decide +kernel, by decide +kernel⟩, List.mem_of_getElem? (i := 29) (by decide +kernel), List.mem_of_getElem? (i := 431) (by decide +kernel), List.mem_of_getElem? (i := 432) (by decide +kernel)⟩
def lw_privs_1 : List (MethodName × Nat) := [(⟨"DreamGraves", "found", "(I)I"⟩, 8), (⟨"DreamGraves", "sound", "(I)I"⟩, 8), (⟨"DreamGraves$Tape", "nextToken", "()V"⟩, 9), (⟨"DreamGraves$Tape", "takeFigures", "()V"⟩, 9), (⟨"DreamGraves$Tape", "readLaw", "()Z"⟩, 9), (⟨"DreamGraves$Tape", "takeSign", "(I)Z"⟩, 9), (⟨"DreamGraves$Tape", "fail", "(I)Z"⟩, 9), (⟨"DreamGraves$Tape", "takeNumber", "(II)Z"⟩, 9), (⟨"DreamGraves$Tape", "readSleepers", "()Z"⟩, 9), (⟨"DreamGraves$Tape", "readSleeper", "(I)Z"⟩, 9), (⟨"DreamGraves", "noYard", "()Z"⟩, 8), (⟨"DreamGraves$Yard", "rememberedBy", "(I)I"⟩, 10), (⟨"DreamGraves$Yard", "nextBehind", "(I)I"⟩, 10), (⟨"DreamGraves$Yard", "graveOfYear", "()I"⟩, 10), (⟨"DreamGraves$Yard", "forgetByAll", "(I)V"⟩, 10), (⟨"DreamGraves$Yard", "fadeFor", "(I)V"⟩, 10)]
theorem lw_r1 : ∀ q ∈ lw_privs_1, lw_okq q := List.forall_mem_cons.mpr ⟨lw_p0, List.forall_mem_cons.mpr ⟨lw_p1, List.forall_mem_cons.mpr ⟨lw_p2, List.forall_mem_cons.mpr ⟨lw_p3, List.forall_mem_cons.mpr ⟨lw_p4, List.forall_mem_cons.mpr ⟨lw_p5, List.forall_mem_cons.mpr ⟨lw_p6, List.forall_mem_cons.mpr ⟨lw_p7, List.forall_mem_cons.mpr ⟨lw_p8, List.forall_mem_cons.mpr ⟨lw_p9, List.forall_mem_cons.mpr ⟨lw_p10, List.forall_mem_cons.mpr ⟨lw_p11, List.forall_mem_cons.mpr ⟨lw_p12, List.forall_mem_cons.mpr ⟨lw_p13, List.forall_mem_cons.mpr ⟨lw_p14, List.forall_mem_cons.mpr ⟨lw_p15, fun _ h => absurd h List.not_mem_nil⟩⟩⟩⟩⟩⟩⟩⟩⟩⟩⟩⟩⟩⟩⟩⟩
theorem lw_p16 : lw_okq (⟨"DreamGraves", "isSleeper", "(I)Z"⟩, 8) := ⟨⟨by decide +kernel, by decide +kernel⟩, List.mem_of_getElem? (i := 13) (by decide +kernel), List.mem_of_getElem? (i := 443) (by decide +kernel), List.mem_of_getElem? (i := 444) (by decide +kernel)⟩
theorem lw_p17 : lw_okq (⟨"DreamGraves", "isGrave", "(I)Z"⟩, 8) := ⟨⟨by decide +kernel, by decide +kernel⟩, List.mem_of_getElem? (i := 13) (by decide +kernel), List.mem_of_getElem? (i := 464) (by decide +kernel), List.mem_of_getElem? (i := 465) (by decide +kernel)⟩
theorem lw_p18 : lw_okq (⟨"DreamGraves$Seer", "copyOf", "(LDreamGraves$Yard;)LDreamGraves$Yard;"⟩, 4) := ⟨⟨by decide +kernel, by decide +kernel⟩, List.mem_of_getElem? (i := 140) (by decide +kernel), List.mem_of_getElem? (i := 506) (by decide +kernel), List.mem_of_getElem? (i := 507) (by decide +kernel)⟩
theorem lw_p19 : lw_okq (⟨"DreamGraves$Seer", "tryYear", "(IIII)V"⟩, 4) := ⟨⟨by decide +kernel, by decide +kernel⟩, List.mem_of_getElem? (i := 140) (by decide +kernel), List.mem_of_getElem? (i := 542) (by decide +kernel), List.mem_of_getElem? (i := 543) (by decide +kernel)⟩
theorem lw_p20 : lw_okq (⟨"DreamGraves$Asker", "sizeOf", "(LDreamGraves$Yard;II)I"⟩, 2) := ⟨⟨by decide +kernel, by decide +kernel⟩, List.mem_of_getElem? (i := 163) (by decide +kernel), List.mem_of_getElem? (i := 667) (by decide +kernel), List.mem_of_getElem? (i := 668) (by decide +kernel)⟩
theorem lw_p21 : lw_okq (⟨"DreamGraves$Asker", "give", "(ILDreamGraves$Yard;II)I"⟩, 2) := ⟨⟨by decide +kernel, by decide +kernel⟩, List.mem_of_getElem? (i := 163) (by decide +kernel), List.mem_of_getElem? (i := 676) (by decide +kernel), List.mem_of_getElem? (i := 677) (by decide +kernel)⟩
theorem lw_p22 : lw_okq (⟨"DreamGraves$Asker", "leave", "(I)V"⟩, 2) := ⟨⟨by decide +kernel, by decide +kernel⟩, List.mem_of_getElem? (i := 163) (by decide +kernel), List.mem_of_getElem? (i := 680) (by decide +kernel), List.mem_of_getElem? (i := 681) (by decide +kernel)⟩
theorem lw_p23 : lw_okq (⟨"DreamGraves$Asker", "markOf", "(LDreamGraves$Yard;II)I"⟩, 2) := ⟨⟨by decide +kernel, by decide +kernel⟩, List.mem_of_getElem? (i := 163) (by decide +kernel), List.mem_of_getElem? (i := 685) (by decide +kernel), List.mem_of_getElem? (i := 686) (by decide +kernel)⟩
theorem lw_p24 : lw_okq (⟨"DreamGraves", "rowsThere", "()I"⟩, 8) := ⟨⟨by decide +kernel, by decide +kernel⟩, List.mem_of_getElem? (i := 13) (by decide +kernel), List.mem_of_getElem? (i := 700) (by decide +kernel), List.mem_of_getElem? (i := 701) (by decide +kernel)⟩
theorem lw_p25 : lw_okq (⟨"DreamGravesModel", "find", "(I)I"⟩, 25) := ⟨⟨by decide +kernel, by decide +kernel⟩, List.mem_of_getElem? (i := 708) (by decide +kernel), List.mem_of_getElem? (i := 804) (by decide +kernel), List.mem_of_getElem? (i := 805) (by decide +kernel)⟩
theorem lw_p26 : lw_okq (⟨"DreamGravesModel", "well", "(I)I"⟩, 25) := ⟨⟨by decide +kernel, by decide +kernel⟩, List.mem_of_getElem? (i := 708) (by decide +kernel), List.mem_of_getElem? (i := 809) (by decide +kernel), List.mem_of_getElem? (i := 810) (by decide +kernel)⟩
theorem lw_p27 : lw_okq (⟨"DreamGravesModel", "readYard", "()Z"⟩, 25) := ⟨⟨by decide +kernel, by decide +kernel⟩, List.mem_of_getElem? (i := 708) (by decide +kernel), List.mem_of_getElem? (i := 838) (by decide +kernel), List.mem_of_getElem? (i := 839) (by decide +kernel)⟩
theorem lw_p28 : lw_okq (⟨"DreamGravesModel", "nextToken", "()V"⟩, 25) := ⟨⟨by decide +kernel, by decide +kernel⟩, List.mem_of_getElem? (i := 708) (by decide +kernel), List.mem_of_getElem? (i := 842) (by decide +kernel), List.mem_of_getElem? (i := 843) (by decide +kernel)⟩
theorem lw_p29 : lw_okq (⟨"DreamGravesModel", "takes", "(I)Z"⟩, 25) := ⟨⟨by decide +kernel, by decide +kernel⟩, List.mem_of_getElem? (i := 708) (by decide +kernel), List.mem_of_getElem? (i := 850) (by decide +kernel), List.mem_of_getElem? (i := 851) (by decide +kernel)⟩
theorem lw_p30 : lw_okq (⟨"DreamGravesModel", "isLetter", "(I)Z"⟩, 25) := ⟨⟨by decide +kernel, by decide +kernel⟩, List.mem_of_getElem? (i := 708) (by decide +kernel), List.mem_of_getElem? (i := 854) (by decide +kernel), List.mem_of_getElem? (i := 855) (by decide +kernel)⟩
theorem lw_p31 : lw_okq (⟨"DreamGravesModel", "faults", "(I)Z"⟩, 25) := ⟨⟨by decide +kernel, by decide +kernel⟩, List.mem_of_getElem? (i := 708) (by decide +kernel), List.mem_of_getElem? (i := 858) (by decide +kernel), List.mem_of_getElem? (i := 859) (by decide +kernel)⟩
def lw_privs_2 : List (MethodName × Nat) := [(⟨"DreamGraves", "isSleeper", "(I)Z"⟩, 8), (⟨"DreamGraves", "isGrave", "(I)Z"⟩, 8), (⟨"DreamGraves$Seer", "copyOf", "(LDreamGraves$Yard;)LDreamGraves$Yard;"⟩, 4), (⟨"DreamGraves$Seer", "tryYear", "(IIII)V"⟩, 4), (⟨"DreamGraves$Asker", "sizeOf", "(LDreamGraves$Yard;II)I"⟩, 2), (⟨"DreamGraves$Asker", "give", "(ILDreamGraves$Yard;II)I"⟩, 2), (⟨"DreamGraves$Asker", "leave", "(I)V"⟩, 2), (⟨"DreamGraves$Asker", "markOf", "(LDreamGraves$Yard;II)I"⟩, 2), (⟨"DreamGraves", "rowsThere", "()I"⟩, 8), (⟨"DreamGravesModel", "find", "(I)I"⟩, 25), (⟨"DreamGravesModel", "well", "(I)I"⟩, 25), (⟨"DreamGravesModel", "readYard", "()Z"⟩, 25), (⟨"DreamGravesModel", "nextToken", "()V"⟩, 25), (⟨"DreamGravesModel", "takes", "(I)Z"⟩, 25), (⟨"DreamGravesModel", "isLetter", "(I)Z"⟩, 25), (⟨"DreamGravesModel", "faults", "(I)Z"⟩, 25)]
theorem lw_r2 : ∀ q ∈ lw_privs_2, lw_okq q := List.forall_mem_cons.mpr ⟨lw_p16, List.forall_mem_cons.mpr ⟨lw_p17, List.forall_mem_cons.mpr ⟨lw_p18, List.forall_mem_cons.mpr ⟨lw_p19, List.forall_mem_cons.mpr ⟨lw_p20, List.forall_mem_cons.mpr ⟨lw_p21, List.forall_mem_cons.mpr ⟨lw_p22, List.forall_mem_cons.mpr ⟨lw_p23, List.forall_mem_cons.mpr ⟨lw_p24, List.forall_mem_cons.mpr ⟨lw_p25, List.forall_mem_cons.mpr ⟨lw_p26, List.forall_mem_cons.mpr ⟨lw_p27, List.forall_mem_cons.mpr ⟨lw_p28, List.forall_mem_cons.mpr ⟨lw_p29, List.forall_mem_cons.mpr ⟨lw_p30, List.forall_mem_cons.mpr ⟨lw_p31, fun _ h => absurd h List.not_mem_nil⟩⟩⟩⟩⟩⟩⟩⟩⟩⟩⟩⟩⟩⟩⟩⟩
theorem lw_p32 : lw_okq (⟨"DreamGravesModel", "takesNumber", "(IIII)Z"⟩, 25) := ⟨⟨by decide +kernel, by decide +kernel⟩, List.mem_of_getElem? (i := 708) (by decide +kernel), List.mem_of_getElem? (i := 862) (by decide +kernel), List.mem_of_getElem? (i := 863) (by decide +kernel)⟩
theorem lw_p33 : lw_okq (⟨"DreamGravesModel", "readSleeper", "(I)Z"⟩, 25) := ⟨⟨by decide +kernel, by decide +kernel⟩, List.mem_of_getElem? (i := 708) (by decide +kernel), List.mem_of_getElem? (i := 866) (by decide +kernel), List.mem_of_getElem? (i := 867) (by decide +kernel)⟩
theorem lw_p34 : lw_okq (⟨"DreamGravesModel", "note", "()V"⟩, 25) := ⟨⟨by decide +kernel, by decide +kernel⟩, List.mem_of_getElem? (i := 708) (by decide +kernel), List.mem_of_getElem? (i := 885) (by decide +kernel), List.mem_of_getElem? (i := 886) (by decide +kernel)⟩
theorem lw_p35 : lw_okq (⟨"DreamGravesModel", "oneYear", "()V"⟩, 25) := ⟨⟨by decide +kernel, by decide +kernel⟩, List.mem_of_getElem? (i := 708) (by decide +kernel), List.mem_of_getElem? (i := 889) (by decide +kernel), List.mem_of_getElem? (i := 890) (by decide +kernel)⟩
theorem lw_p36 : lw_okq (⟨"DreamGravesModel", "allDreams", "()I"⟩, 25) := ⟨⟨by decide +kernel, by decide +kernel⟩, List.mem_of_getElem? (i := 708) (by decide +kernel), List.mem_of_getElem? (i := 893) (by decide +kernel), List.mem_of_getElem? (i := 894) (by decide +kernel)⟩
theorem lw_p37 : lw_okq (⟨"DreamGravesModel", "dreams", "(I)I"⟩, 25) := ⟨⟨by decide +kernel, by decide +kernel⟩, List.mem_of_getElem? (i := 708) (by decide +kernel), List.mem_of_getElem? (i := 897) (by decide +kernel), List.mem_of_getElem? (i := 898) (by decide +kernel)⟩
theorem lw_p38 : lw_okq (⟨"DreamGravesModel", "mostOf", "(II)I"⟩, 25) := ⟨⟨by decide +kernel, by decide +kernel⟩, List.mem_of_getElem? (i := 708) (by decide +kernel), List.mem_of_getElem? (i := 901) (by decide +kernel), List.mem_of_getElem? (i := 902) (by decide +kernel)⟩
theorem lw_p39 : lw_okq (⟨"DreamGravesModel", "memoryOf", "(II)I"⟩, 25) := ⟨⟨by decide +kernel, by decide +kernel⟩, List.mem_of_getElem? (i := 708) (by decide +kernel), List.mem_of_getElem? (i := 908) (by decide +kernel), List.mem_of_getElem? (i := 909) (by decide +kernel)⟩
theorem lw_p40 : lw_okq (⟨"DreamGravesModel", "lessOf", "(I)I"⟩, 25) := ⟨⟨by decide +kernel, by decide +kernel⟩, List.mem_of_getElem? (i := 708) (by decide +kernel), List.mem_of_getElem? (i := 912) (by decide +kernel), List.mem_of_getElem? (i := 913) (by decide +kernel)⟩
theorem lw_p41 : lw_okq (⟨"DreamGravesModel", "isSleeper", "(I)Z"⟩, 25) := ⟨⟨by decide +kernel, by decide +kernel⟩, List.mem_of_getElem? (i := 708) (by decide +kernel), List.mem_of_getElem? (i := 920) (by decide +kernel), List.mem_of_getElem? (i := 921) (by decide +kernel)⟩
theorem lw_p42 : lw_okq (⟨"DreamGravesModel", "suppered", "()I"⟩, 25) := ⟨⟨by decide +kernel, by decide +kernel⟩, List.mem_of_getElem? (i := 708) (by decide +kernel), List.mem_of_getElem? (i := 924) (by decide +kernel), List.mem_of_getElem? (i := 925) (by decide +kernel)⟩
theorem lw_p43 : lw_okq (⟨"DreamGravesModel", "isGrave", "(I)Z"⟩, 25) := ⟨⟨by decide +kernel, by decide +kernel⟩, List.mem_of_getElem? (i := 708) (by decide +kernel), List.mem_of_getElem? (i := 939) (by decide +kernel), List.mem_of_getElem? (i := 940) (by decide +kernel)⟩
theorem lw_p44 : lw_okq (⟨"DreamGravesModel", "memoryBy", "(I)I"⟩, 25) := ⟨⟨by decide +kernel, by decide +kernel⟩, List.mem_of_getElem? (i := 708) (by decide +kernel), List.mem_of_getElem? (i := 951) (by decide +kernel), List.mem_of_getElem? (i := 952) (by decide +kernel)⟩
theorem lw_p45 : lw_okq (⟨"DreamGravesModel", "putAside", "()V"⟩, 25) := ⟨⟨by decide +kernel, by decide +kernel⟩, List.mem_of_getElem? (i := 708) (by decide +kernel), List.mem_of_getElem? (i := 968) (by decide +kernel), List.mem_of_getElem? (i := 969) (by decide +kernel)⟩
theorem lw_p46 : lw_okq (⟨"DreamGravesModel", "takeBack", "()V"⟩, 25) := ⟨⟨by decide +kernel, by decide +kernel⟩, List.mem_of_getElem? (i := 708) (by decide +kernel), List.mem_of_getElem? (i := 972) (by decide +kernel), List.mem_of_getElem? (i := 973) (by decide +kernel)⟩
theorem lw_p47 : lw_okq (⟨"DreamGravesModel", "dugIn", "(IZ)I"⟩, 25) := ⟨⟨by decide +kernel, by decide +kernel⟩, List.mem_of_getElem? (i := 708) (by decide +kernel), List.mem_of_getElem? (i := 980) (by decide +kernel), List.mem_of_getElem? (i := 981) (by decide +kernel)⟩
def lw_privs_3 : List (MethodName × Nat) := [(⟨"DreamGravesModel", "takesNumber", "(IIII)Z"⟩, 25), (⟨"DreamGravesModel", "readSleeper", "(I)Z"⟩, 25), (⟨"DreamGravesModel", "note", "()V"⟩, 25), (⟨"DreamGravesModel", "oneYear", "()V"⟩, 25), (⟨"DreamGravesModel", "allDreams", "()I"⟩, 25), (⟨"DreamGravesModel", "dreams", "(I)I"⟩, 25), (⟨"DreamGravesModel", "mostOf", "(II)I"⟩, 25), (⟨"DreamGravesModel", "memoryOf", "(II)I"⟩, 25), (⟨"DreamGravesModel", "lessOf", "(I)I"⟩, 25), (⟨"DreamGravesModel", "isSleeper", "(I)Z"⟩, 25), (⟨"DreamGravesModel", "suppered", "()I"⟩, 25), (⟨"DreamGravesModel", "isGrave", "(I)Z"⟩, 25), (⟨"DreamGravesModel", "memoryBy", "(I)I"⟩, 25), (⟨"DreamGravesModel", "putAside", "()V"⟩, 25), (⟨"DreamGravesModel", "takeBack", "()V"⟩, 25), (⟨"DreamGravesModel", "dugIn", "(IZ)I"⟩, 25)]
theorem lw_r3 : ∀ q ∈ lw_privs_3, lw_okq q := List.forall_mem_cons.mpr ⟨lw_p32, List.forall_mem_cons.mpr ⟨lw_p33, List.forall_mem_cons.mpr ⟨lw_p34, List.forall_mem_cons.mpr ⟨lw_p35, List.forall_mem_cons.mpr ⟨lw_p36, List.forall_mem_cons.mpr ⟨lw_p37, List.forall_mem_cons.mpr ⟨lw_p38, List.forall_mem_cons.mpr ⟨lw_p39, List.forall_mem_cons.mpr ⟨lw_p40, List.forall_mem_cons.mpr ⟨lw_p41, List.forall_mem_cons.mpr ⟨lw_p42, List.forall_mem_cons.mpr ⟨lw_p43, List.forall_mem_cons.mpr ⟨lw_p44, List.forall_mem_cons.mpr ⟨lw_p45, List.forall_mem_cons.mpr ⟨lw_p46, List.forall_mem_cons.mpr ⟨lw_p47, fun _ h => absurd h List.not_mem_nil⟩⟩⟩⟩⟩⟩⟩⟩⟩⟩⟩⟩⟩⟩⟩⟩
theorem lw_p48 : lw_okq (⟨"DreamGravesModel", "feedAll", "()V"⟩, 25) := ⟨⟨by decide +kernel, by decide +kernel⟩, List.mem_of_getElem? (i := 708) (by decide +kernel), List.mem_of_getElem? (i := 984) (by decide +kernel), List.mem_of_getElem? (i := 985) (by decide +kernel)⟩
theorem lw_p49 : lw_okq (⟨"DreamGravesModel", "findWay", "(II)I"⟩, 25) := ⟨⟨by decide +kernel, by decide +kernel⟩, List.mem_of_getElem? (i := 708) (by decide +kernel), List.mem_of_getElem? (i := 998) (by decide +kernel), List.mem_of_getElem? (i := 999) (by decide +kernel)⟩
theorem lw_p50 : lw_okq (⟨"DreamGravesModel", "isKeptBy", "(II)Z"⟩, 25) := ⟨⟨by decide +kernel, by decide +kernel⟩, List.mem_of_getElem? (i := 708) (by decide +kernel), List.mem_of_getElem? (i := 1002) (by decide +kernel), List.mem_of_getElem? (i := 1003) (by decide +kernel)⟩
theorem lw_p51 : lw_okq (⟨"DreamGravesModel", "giveSuppers", "(I)V"⟩, 25) := ⟨⟨by decide +kernel, by decide +kernel⟩, List.mem_of_getElem? (i := 708) (by decide +kernel), List.mem_of_getElem? (i := 1006) (by decide +kernel), List.mem_of_getElem? (i := 1007) (by decide +kernel)⟩
theorem lw_p52 : lw_okq (⟨"DreamGravesModel", "lacks", "(III)I"⟩, 25) := ⟨⟨by decide +kernel, by decide +kernel⟩, List.mem_of_getElem? (i := 708) (by decide +kernel), List.mem_of_getElem? (i := 1031) (by decide +kernel), List.mem_of_getElem? (i := 1032) (by decide +kernel)⟩
theorem lw_p53 : lw_okq (⟨"DreamGravesModel", "isSo", "(II)Z"⟩, 25) := ⟨⟨by decide +kernel, by decide +kernel⟩, List.mem_of_getElem? (i := 708) (by decide +kernel), List.mem_of_getElem? (i := 1035) (by decide +kernel), List.mem_of_getElem? (i := 1036) (by decide +kernel)⟩
theorem lw_p54 : lw_okq (⟨"DreamGravesModel", "needsSupper", "(I)Z"⟩, 25) := ⟨⟨by decide +kernel, by decide +kernel⟩, List.mem_of_getElem? (i := 708) (by decide +kernel), List.mem_of_getElem? (i := 1048) (by decide +kernel), List.mem_of_getElem? (i := 1049) (by decide +kernel)⟩
theorem lw_p55 : lw_okq (⟨"DreamGravesModel", "sizeOf", "(I)I"⟩, 25) := ⟨⟨by decide +kernel, by decide +kernel⟩, List.mem_of_getElem? (i := 708) (by decide +kernel), List.mem_of_getElem? (i := 1090) (by decide +kernel), List.mem_of_getElem? (i := 1091) (by decide +kernel)⟩
theorem lw_p56 : lw_okq (⟨"DreamGravesModel", "begin", "(I)V"⟩, 25) := ⟨⟨by decide +kernel, by decide +kernel⟩, List.mem_of_getElem? (i := 708) (by decide +kernel), List.mem_of_getElem? (i := 1094) (by decide +kernel), List.mem_of_getElem? (i := 1095) (by decide +kernel)⟩
theorem lw_p57 : lw_okq (⟨"DreamGravesModel", "dreamerSize", "(I)I"⟩, 25) := ⟨⟨by decide +kernel, by decide +kernel⟩, List.mem_of_getElem? (i := 708) (by decide +kernel), List.mem_of_getElem? (i := 1098) (by decide +kernel), List.mem_of_getElem? (i := 1099) (by decide +kernel)⟩
theorem lw_p58 : lw_okq (⟨"DreamGravesModel", "lent", "(II)I"⟩, 25) := ⟨⟨by decide +kernel, by decide +kernel⟩, List.mem_of_getElem? (i := 708) (by decide +kernel), List.mem_of_getElem? (i := 1102) (by decide +kernel), List.mem_of_getElem? (i := 1103) (by decide +kernel)⟩
theorem lw_p59 : lw_okq (⟨"DreamGravesModel", "markOf", "(I)I"⟩, 25) := ⟨⟨by decide +kernel, by decide +kernel⟩, List.mem_of_getElem? (i := 708) (by decide +kernel), List.mem_of_getElem? (i := 1106) (by decide +kernel), List.mem_of_getElem? (i := 1107) (by decide +kernel)⟩
theorem lw_p60 : lw_okq (⟨"DreamGravesModel", "dreamerMark", "(I)I"⟩, 25) := ⟨⟨by decide +kernel, by decide +kernel⟩, List.mem_of_getElem? (i := 708) (by decide +kernel), List.mem_of_getElem? (i := 1110) (by decide +kernel), List.mem_of_getElem? (i := 1111) (by decide +kernel)⟩
theorem lw_p61 : lw_okq (⟨"DreamGravesModel", "sizeOfWife", "(I)I"⟩, 25) := ⟨⟨by decide +kernel, by decide +kernel⟩, List.mem_of_getElem? (i := 708) (by decide +kernel), List.mem_of_getElem? (i := 1114) (by decide +kernel), List.mem_of_getElem? (i := 1115) (by decide +kernel)⟩
theorem lw_p62 : lw_okq (⟨"DreamGravesModel", "wifeSize", "(I)I"⟩, 25) := ⟨⟨by decide +kernel, by decide +kernel⟩, List.mem_of_getElem? (i := 708) (by decide +kernel), List.mem_of_getElem? (i := 1118) (by decide +kernel), List.mem_of_getElem? (i := 1119) (by decide +kernel)⟩
def lw_privs_4 : List (MethodName × Nat) := [(⟨"DreamGravesModel", "feedAll", "()V"⟩, 25), (⟨"DreamGravesModel", "findWay", "(II)I"⟩, 25), (⟨"DreamGravesModel", "isKeptBy", "(II)Z"⟩, 25), (⟨"DreamGravesModel", "giveSuppers", "(I)V"⟩, 25), (⟨"DreamGravesModel", "lacks", "(III)I"⟩, 25), (⟨"DreamGravesModel", "isSo", "(II)Z"⟩, 25), (⟨"DreamGravesModel", "needsSupper", "(I)Z"⟩, 25), (⟨"DreamGravesModel", "sizeOf", "(I)I"⟩, 25), (⟨"DreamGravesModel", "begin", "(I)V"⟩, 25), (⟨"DreamGravesModel", "dreamerSize", "(I)I"⟩, 25), (⟨"DreamGravesModel", "lent", "(II)I"⟩, 25), (⟨"DreamGravesModel", "markOf", "(I)I"⟩, 25), (⟨"DreamGravesModel", "dreamerMark", "(I)I"⟩, 25), (⟨"DreamGravesModel", "sizeOfWife", "(I)I"⟩, 25), (⟨"DreamGravesModel", "wifeSize", "(I)I"⟩, 25)]
theorem lw_r4 : ∀ q ∈ lw_privs_4, lw_okq q := List.forall_mem_cons.mpr ⟨lw_p48, List.forall_mem_cons.mpr ⟨lw_p49, List.forall_mem_cons.mpr ⟨lw_p50, List.forall_mem_cons.mpr ⟨lw_p51, List.forall_mem_cons.mpr ⟨lw_p52, List.forall_mem_cons.mpr ⟨lw_p53, List.forall_mem_cons.mpr ⟨lw_p54, List.forall_mem_cons.mpr ⟨lw_p55, List.forall_mem_cons.mpr ⟨lw_p56, List.forall_mem_cons.mpr ⟨lw_p57, List.forall_mem_cons.mpr ⟨lw_p58, List.forall_mem_cons.mpr ⟨lw_p59, List.forall_mem_cons.mpr ⟨lw_p60, List.forall_mem_cons.mpr ⟨lw_p61, List.forall_mem_cons.mpr ⟨lw_p62, fun _ h => absurd h List.not_mem_nil⟩⟩⟩⟩⟩⟩⟩⟩⟩⟩⟩⟩⟩⟩⟩
def lw_privs : List (MethodName × Nat) := lw_privs_1 ++ (lw_privs_2 ++ (lw_privs_3 ++ (lw_privs_4)))
def lw_tbl : List Cond := k2_sels lw_privs ++ tables_1
theorem lw_privs_ok : ∀ q ∈ lw_privs, lw_okq q := by
  show ∀ q ∈ lw_privs_1 ++ (lw_privs_2 ++ (lw_privs_3 ++ (lw_privs_4))), lw_okq q
  exact List.forall_mem_append.mpr ⟨lw_r1, List.forall_mem_append.mpr ⟨lw_r2, List.forall_mem_append.mpr ⟨lw_r3, lw_r4⟩⟩⟩
end
section
def RX0 : String := "DreamGraves$Asker"
def TX0 : u_T := fun k => match k with
  | 0 => ("DreamGraves$Asker", "traced", "I", false)
  | _ => ("DreamGraves$Asker", "left", "[I", true)
def tyX0 : Nat → FieldType := fun k => match k with
  | 0 => .int
  | _ => .array .int
abbrev wsX00 : List Cond := u_ws RX0 TX0 2
theorem nmX0 : ∀ a, a < 2 → ∀ b, b < 2 → a ≠ b → (TX0 a).2.1 ≠ (TX0 b).2.1 := by decide +kernel
theorem tyX0_ok : ∀ k, k < 2 → parseFieldDescriptor (TX0 k).2.2.1 = some (tyX0 k) := by decide +kernel
abbrev cX0_init : ByteArray := prog_2_method_1_code
def yX0_init : MethodName := ⟨RX0, "<init>", "()V"⟩
abbrev cX0_answer : ByteArray := prog_2_method_2_code
def yX0_answer : MethodName := ⟨RX0, "answer", "(LDreamGraves$Yard;II)I"⟩
abbrev cX0_sizeOf : ByteArray := prog_2_method_3_code
def yX0_sizeOf : MethodName := ⟨RX0, "sizeOf", "(LDreamGraves$Yard;II)I"⟩
abbrev cX0_markOf : ByteArray := prog_2_method_4_code
def yX0_markOf : MethodName := ⟨RX0, "markOf", "(LDreamGraves$Yard;II)I"⟩
abbrev cX0_kindOf : ByteArray := prog_2_method_5_code
def yX0_kindOf : MethodName := ⟨RX0, "kindOf", "(LDreamGraves$Yard;I)I"⟩
abbrev cX0_give : ByteArray := prog_2_method_6_code
def yX0_give : MethodName := ⟨RX0, "give", "(ILDreamGraves$Yard;II)I"⟩
abbrev cX0_leave : ByteArray := prog_2_method_7_code
def yX0_leave : MethodName := ⟨RX0, "leave", "(I)V"⟩
def RX1 : String := "DreamGraves$Past"
def TX1 : u_T := fun k => match k with
  | 0 => ("DreamGraves$Past", "size", "I", false)
  | 1 => ("DreamGraves$Past", "oldest", "I", false)
  | _ => ("DreamGraves$Past", "yards", "[LDreamGraves$Yard;", true)
def tyX1 : Nat → FieldType := fun k => match k with
  | 0 => .int
  | 1 => .int
  | _ => .array (.object "DreamGraves$Yard")
abbrev wsX10 : List Cond := u_ws RX1 TX1 3
theorem nmX1 : ∀ a, a < 3 → ∀ b, b < 3 → a ≠ b → (TX1 a).2.1 ≠ (TX1 b).2.1 := by decide +kernel
theorem tyX1_ok : ∀ k, k < 3 → parseFieldDescriptor (TX1 k).2.2.1 = some (tyX1 k) := by decide +kernel
abbrev cX1_init : ByteArray := prog_3_method_1_code
def yX1_init : MethodName := ⟨RX1, "<init>", "()V"⟩
abbrev cX1_clear : ByteArray := prog_3_method_2_code
def yX1_clear : MethodName := ⟨RX1, "clear", "()V"⟩
abbrev cX1_keep : ByteArray := prog_3_method_3_code
def yX1_keep : MethodName := ⟨RX1, "keep", "(LDreamGraves$Yard;)V"⟩
abbrev cX1_giveBack : ByteArray := prog_3_method_4_code
def yX1_giveBack : MethodName := ⟨RX1, "giveBack", "(LDreamGraves$Yard;)Z"⟩
def RX2 : String := "DreamGraves$Row"
def TX2 : u_T := fun k => match k with
  | 0 => ("DreamGraves$Row", "lane", "I", false)
  | 1 => ("DreamGraves$Row", "size", "I", false)
  | _ => ("DreamGraves$Row", "items", "[I", true)
def tyX2 : Nat → FieldType := fun k => match k with
  | 0 => .int
  | 1 => .int
  | _ => .array .int
abbrev wsX20 : List Cond := u_ws RX2 TX2 3
theorem nmX2 : ∀ a, a < 3 → ∀ b, b < 3 → a ≠ b → (TX2 a).2.1 ≠ (TX2 b).2.1 := by decide +kernel
theorem tyX2_ok : ∀ k, k < 3 → parseFieldDescriptor (TX2 k).2.2.1 = some (tyX2 k) := by decide +kernel
abbrev cX2_init : ByteArray := prog_4_method_1_code
def yX2_init : MethodName := ⟨RX2, "<init>", "()V"⟩
abbrev cX2_isMissing : ByteArray := prog_4_method_2_code
def yX2_isMissing : MethodName := ⟨RX2, "isMissing", "()Z"⟩
abbrev cX2_lay : ByteArray := prog_4_method_3_code
def yX2_lay : MethodName := ⟨RX2, "lay", "(II)V"⟩
abbrev cX2_holds : ByteArray := prog_4_method_4_code
def yX2_holds : MethodName := ⟨RX2, "holds", "(II)Z"⟩
abbrev cX2_findingAt : ByteArray := prog_4_method_5_code
def yX2_findingAt : MethodName := ⟨RX2, "findingAt", "(II)I"⟩
abbrev cX2_put : ByteArray := prog_4_method_6_code
def yX2_put : MethodName := ⟨RX2, "put", "(II)I"⟩
def RX3 : String := "DreamGraves$Seer"
def TX3 : u_T := fun k => match k with
  | 0 => ("DreamGraves$Seer", "fewest", "I", false)
  | 1 => ("DreamGraves$Seer", "way", "[I", true)
  | 2 => ("DreamGraves$Seer", "given", "[I", true)
  | _ => ("DreamGraves$Seer", "seen", "[LDreamGraves$Yard;", true)
def tyX3 : Nat → FieldType := fun k => match k with
  | 0 => .int
  | 1 => .array .int
  | 2 => .array .int
  | _ => .array (.object "DreamGraves$Yard")
abbrev wsX30 : List Cond := u_ws RX3 TX3 4
theorem nmX3 : ∀ a, a < 4 → ∀ b, b < 4 → a ≠ b → (TX3 a).2.1 ≠ (TX3 b).2.1 := by decide +kernel
theorem tyX3_ok : ∀ k, k < 4 → parseFieldDescriptor (TX3 k).2.2.1 = some (tyX3 k) := by decide +kernel
abbrev cX3_init : ByteArray := prog_5_method_1_code
def yX3_init : MethodName := ⟨RX3, "<init>", "()V"⟩
abbrev cX3_copyOf : ByteArray := prog_5_method_2_code
def yX3_copyOf : MethodName := ⟨RX3, "copyOf", "(LDreamGraves$Yard;)LDreamGraves$Yard;"⟩
abbrev cX3_keptBehind : ByteArray := prog_5_method_3_code
def yX3_keptBehind : MethodName := ⟨RX3, "keptBehind", "(LDreamGraves$Yard;I)I"⟩
abbrev cX3_yearsTillDug : ByteArray := prog_5_method_4_code
def yX3_yearsTillDug : MethodName := ⟨RX3, "yearsTillDug", "(LDreamGraves$Yard;IZ)I"⟩
abbrev cX3_graveDugFirst : ByteArray := prog_5_method_5_code
def yX3_graveDugFirst : MethodName := ⟨RX3, "graveDugFirst", "(LDreamGraves$Yard;)I"⟩
abbrev cX3_firstOf : ByteArray := prog_5_method_6_code
def yX3_firstOf : MethodName := ⟨RX3, "firstOf", "(I)I"⟩
abbrev cX3_findFewestSuppers : ByteArray := prog_5_method_7_code
def yX3_findFewestSuppers : MethodName := ⟨RX3, "findFewestSuppers", "(LDreamGraves$Yard;II)Z"⟩
abbrev cX3_tryYear : ByteArray := prog_5_method_8_code
def yX3_tryYear : MethodName := ⟨RX3, "tryYear", "(IIII)V"⟩
abbrev cX3_yearsTillForgotten : ByteArray := prog_5_method_9_code
def yX3_yearsTillForgotten : MethodName := ⟨RX3, "yearsTillForgotten", "(LDreamGraves$Yard;II)I"⟩
abbrev cX3_kindsBy : ByteArray := prog_5_method_10_code
def yX3_kindsBy : MethodName := ⟨RX3, "kindsBy", "(LDreamGraves$Yard;ILDreamGraves$Row;II)I"⟩
abbrev cX3_whisperersBy : ByteArray := prog_5_method_11_code
def yX3_whisperersBy : MethodName := ⟨RX3, "whisperersBy", "(LDreamGraves$Yard;ILDreamGraves$Row;II)I"⟩
abbrev cX3_goesAsTold : ByteArray := prog_5_method_12_code
def yX3_goesAsTold : MethodName := ⟨RX3, "goesAsTold", "(LDreamGraves$Yard;LDreamGraves$Row;II)Z"⟩
abbrev cX3_suppersNeeded : ByteArray := prog_5_method_13_code
def yX3_suppersNeeded : MethodName := ⟨RX3, "suppersNeeded", "(LDreamGraves$Yard;I)I"⟩
abbrev cX3_chanceOfKeeping : ByteArray := prog_5_method_14_code
def yX3_chanceOfKeeping : MethodName := ⟨RX3, "chanceOfKeeping", "(LDreamGraves$Yard;IIZ)J"⟩
abbrev cX3_commonDivisor : ByteArray := prog_5_method_15_code
def yX3_commonDivisor : MethodName := ⟨RX3, "commonDivisor", "(JJ)J"⟩
abbrev cX3_yearsByDraws : ByteArray := prog_5_method_16_code
def yX3_yearsByDraws : MethodName := ⟨RX3, "yearsByDraws", "(LDreamGraves$Yard;II)LDreamGraves$Yard;"⟩
def RX4 : String := "DreamGraves$Tape"
def TX4 : u_T := fun k => match k with
  | 0 => ("DreamGraves$Tape", "draft", "LDreamGraves$Yard;", true)
  | 1 => ("DreamGraves$Tape", "size", "I", false)
  | 2 => ("DreamGraves$Tape", "latestFault", "I", false)
  | 3 => ("DreamGraves$Tape", "bytes", "[I", true)
  | 4 => ("DreamGraves$Tape", "start", "I", false)
  | 5 => ("DreamGraves$Tape", "behind", "I", false)
  | 6 => ("DreamGraves$Tape", "token", "I", false)
  | 7 => ("DreamGraves$Tape", "value", "I", false)
  | _ => ("DreamGraves$Tape", "taken", "I", false)
def tyX4 : Nat → FieldType := fun k => match k with
  | 0 => .object "DreamGraves$Yard"
  | 1 => .int
  | 2 => .int
  | 3 => .array .int
  | 4 => .int
  | 5 => .int
  | 6 => .int
  | 7 => .int
  | _ => .int
abbrev wsX40 : List Cond := u_ws RX4 TX4 9
theorem nmX4 : ∀ a, a < 9 → ∀ b, b < 9 → a ≠ b → (TX4 a).2.1 ≠ (TX4 b).2.1 := by decide +kernel
theorem tyX4_ok : ∀ k, k < 9 → parseFieldDescriptor (TX4 k).2.2.1 = some (tyX4 k) := by decide +kernel
abbrev cX4_init : ByteArray := prog_6_method_1_code
def yX4_init : MethodName := ⟨RX4, "<init>", "()V"⟩
abbrev cX4_add : ByteArray := prog_6_method_2_code
def yX4_add : MethodName := ⟨RX4, "add", "(I)Z"⟩
abbrev cX4_read : ByteArray := prog_6_method_3_code
def yX4_read : MethodName := ⟨RX4, "read", "()I"⟩
abbrev cX4_readLaw : ByteArray := prog_6_method_4_code
def yX4_readLaw : MethodName := ⟨RX4, "readLaw", "()Z"⟩
abbrev cX4_readSleepers : ByteArray := prog_6_method_5_code
def yX4_readSleepers : MethodName := ⟨RX4, "readSleepers", "()Z"⟩
abbrev cX4_readSleeper : ByteArray := prog_6_method_6_code
def yX4_readSleeper : MethodName := ⟨RX4, "readSleeper", "(I)Z"⟩
abbrev cX4_kindTold : ByteArray := prog_6_method_7_code
def yX4_kindTold : MethodName := ⟨RX4, "kindTold", "(I)I"⟩
abbrev cX4_fail : ByteArray := prog_6_method_8_code
def yX4_fail : MethodName := ⟨RX4, "fail", "(I)Z"⟩
abbrev cX4_takeSign : ByteArray := prog_6_method_9_code
def yX4_takeSign : MethodName := ⟨RX4, "takeSign", "(I)Z"⟩
abbrev cX4_takeNumber : ByteArray := prog_6_method_10_code
def yX4_takeNumber : MethodName := ⟨RX4, "takeNumber", "(II)Z"⟩
abbrev cX4_nextToken : ByteArray := prog_6_method_11_code
def yX4_nextToken : MethodName := ⟨RX4, "nextToken", "()V"⟩
abbrev cX4_takeFigures : ByteArray := prog_6_method_12_code
def yX4_takeFigures : MethodName := ⟨RX4, "takeFigures", "()V"⟩
abbrev cX4_isFigure : ByteArray := prog_6_method_13_code
def yX4_isFigure : MethodName := ⟨RX4, "isFigure", "(I)Z"⟩
def RX5 : String := "DreamGraves$Yard"
def TX5 : u_T := fun k => match k with
  | 0 => ("DreamGraves$Yard", "graves", "I", false)
  | 1 => ("DreamGraves$Yard", "least", "I", false)
  | 2 => ("DreamGraves$Yard", "share", "I", false)
  | 3 => ("DreamGraves$Yard", "sleepers", "I", false)
  | 4 => ("DreamGraves$Yard", "year", "I", false)
  | 5 => ("DreamGraves$Yard", "kept", "I", false)
  | 6 => ("DreamGraves$Yard", "suppers", "I", false)
  | 7 => ("DreamGraves$Yard", "fevers", "I", false)
  | 8 => ("DreamGraves$Yard", "kinds", "[I", true)
  | _ => ("DreamGraves$Yard", "memories", "[I", true)
def tyX5 : Nat → FieldType := fun k => match k with
  | 0 => .int
  | 1 => .int
  | 2 => .int
  | 3 => .int
  | 4 => .int
  | 5 => .int
  | 6 => .int
  | 7 => .int
  | 8 => .array .int
  | _ => .array .int
abbrev wsX50 : List Cond := u_ws RX5 TX5 10
theorem nmX5 : ∀ a, a < 10 → ∀ b, b < 10 → a ≠ b → (TX5 a).2.1 ≠ (TX5 b).2.1 := by decide +kernel
theorem tyX5_ok : ∀ k, k < 10 → parseFieldDescriptor (TX5 k).2.2.1 = some (tyX5 k) := by decide +kernel
abbrev cX5_init : ByteArray := prog_7_method_1_code
def yX5_init : MethodName := ⟨RX5, "<init>", "()V"⟩
abbrev cX5_isNone : ByteArray := prog_7_method_2_code
def yX5_isNone : MethodName := ⟨RX5, "isNone", "()Z"⟩
abbrev cX5_clear : ByteArray := prog_7_method_3_code
def yX5_clear : MethodName := ⟨RX5, "clear", "()V"⟩
abbrev cX5_become : ByteArray := prog_7_method_4_code
def yX5_become : MethodName := ⟨RX5, "become", "(LDreamGraves$Yard;)V"⟩
abbrev cX5_hasRoom : ByteArray := prog_7_method_5_code
def yX5_hasRoom : MethodName := ⟨RX5, "hasRoom", "(II)Z"⟩
abbrev cX5_memoryOf : ByteArray := prog_7_method_6_code
def yX5_memoryOf : MethodName := ⟨RX5, "memoryOf", "(II)I"⟩
abbrev cX5_remember : ByteArray := prog_7_method_7_code
def yX5_remember : MethodName := ⟨RX5, "remember", "(III)V"⟩
abbrev cX5_allMemoryOf : ByteArray := prog_7_method_8_code
def yX5_allMemoryOf : MethodName := ⟨RX5, "allMemoryOf", "(I)I"⟩
abbrev cX5_allMemory : ByteArray := prog_7_method_9_code
def yX5_allMemory : MethodName := ⟨RX5, "allMemory", "()I"⟩
abbrev cX5_clearest : ByteArray := prog_7_method_10_code
def yX5_clearest : MethodName := ⟨RX5, "clearest", "(III)I"⟩
abbrev cX5_dreamsOf : ByteArray := prog_7_method_11_code
def yX5_dreamsOf : MethodName := ⟨RX5, "dreamsOf", "(I)I"⟩
abbrev cX5_nextBehind : ByteArray := prog_7_method_12_code
def yX5_nextBehind : MethodName := ⟨RX5, "nextBehind", "(I)I"⟩
abbrev cX5_graveOfYear : ByteArray := prog_7_method_13_code
def yX5_graveOfYear : MethodName := ⟨RX5, "graveOfYear", "()I"⟩
abbrev cX5_rememberedBy : ByteArray := prog_7_method_14_code
def yX5_rememberedBy : MethodName := ⟨RX5, "rememberedBy", "(I)I"⟩
abbrev cX5_dreamersOf : ByteArray := prog_7_method_15_code
def yX5_dreamersOf : MethodName := ⟨RX5, "dreamersOf", "(I)I"⟩
abbrev cX5_pass : ByteArray := prog_7_method_16_code
def yX5_pass : MethodName := ⟨RX5, "pass", "()V"⟩
abbrev cX5_digUndreamt : ByteArray := prog_7_method_17_code
def yX5_digUndreamt : MethodName := ⟨RX5, "digUndreamt", "()V"⟩
abbrev cX5_forgetByAll : ByteArray := prog_7_method_18_code
def yX5_forgetByAll : MethodName := ⟨RX5, "forgetByAll", "(I)V"⟩
abbrev cX5_endYear : ByteArray := prog_7_method_19_code
def yX5_endYear : MethodName := ⟨RX5, "endYear", "()V"⟩
abbrev cX5_fadeFor : ByteArray := prog_7_method_20_code
def yX5_fadeFor : MethodName := ⟨RX5, "fadeFor", "(I)V"⟩
abbrev cX5_faded : ByteArray := prog_7_method_21_code
def yX5_faded : MethodName := ⟨RX5, "faded", "(I)I"⟩
abbrev cX5_inNeed : ByteArray := prog_7_method_22_code
def yX5_inNeed : MethodName := ⟨RX5, "inNeed", "()I"⟩
def RX6 : String := "DreamGraves"
def TX6 : u_T := fun k => match k with
  | 0 => ("DreamGraves", "rows", "[LDreamGraves$Row;", true)
  | 1 => ("DreamGraves", "tape", "LDreamGraves$Tape;", true)
  | 2 => ("DreamGraves", "yard", "LDreamGraves$Yard;", true)
  | 3 => ("DreamGraves", "past", "LDreamGraves$Past;", true)
  | 4 => ("DreamGraves", "images", "[LDreamGraves$Yard;", true)
  | 5 => ("DreamGraves", "seer", "LDreamGraves$Seer;", true)
  | 6 => ("DreamGraves", "asker", "LDreamGraves$Asker;", true)
  | _ => ("DreamGraves", "finding", "I", false)
def tyX6 : Nat → FieldType := fun k => match k with
  | 0 => .array (.object "DreamGraves$Row")
  | 1 => .object "DreamGraves$Tape"
  | 2 => .object "DreamGraves$Yard"
  | 3 => .object "DreamGraves$Past"
  | 4 => .array (.object "DreamGraves$Yard")
  | 5 => .object "DreamGraves$Seer"
  | 6 => .object "DreamGraves$Asker"
  | _ => .int
abbrev wsX60 : List Cond := u_ws RX6 TX6 8
theorem nmX6 : ∀ a, a < 8 → ∀ b, b < 8 → a ≠ b → (TX6 a).2.1 ≠ (TX6 b).2.1 := by decide +kernel
theorem tyX6_ok : ∀ k, k < 8 → parseFieldDescriptor (TX6 k).2.2.1 = some (tyX6 k) := by decide +kernel
abbrev cX6_init : ByteArray := prog_1_method_1_code
def yX6_init : MethodName := ⟨RX6, "<init>", "()V"⟩
abbrev cX6_row : ByteArray := prog_1_method_2_code
def yX6_row : MethodName := ⟨RX6, "row", "(III)I"⟩
abbrev cX6_set : ByteArray := prog_1_method_3_code
def yX6_set : MethodName := ⟨RX6, "set", "(III)I"⟩
abbrev cX6_copy : ByteArray := prog_1_method_4_code
def yX6_copy : MethodName := ⟨RX6, "copy", "(IIIII)I"⟩
abbrev cX6_drop : ByteArray := prog_1_method_5_code
def yX6_drop : MethodName := ⟨RX6, "drop", "(I)I"⟩
abbrev cX6_feed : ByteArray := prog_1_method_6_code
def yX6_feed : MethodName := ⟨RX6, "feed", "(I)I"⟩
abbrev cX6_yard : ByteArray := prog_1_method_7_code
def yX6_yard : MethodName := ⟨RX6, "yard", "()I"⟩
abbrev cX6_fault : ByteArray := prog_1_method_8_code
def yX6_fault : MethodName := ⟨RX6, "fault", "()I"⟩
abbrev cX6_undo : ByteArray := prog_1_method_9_code
def yX6_undo : MethodName := ⟨RX6, "undo", "()I"⟩
abbrev cX6_years : ByteArray := prog_1_method_10_code
def yX6_years : MethodName := ⟨RX6, "years", "(I)I"⟩
abbrev cX6_supper : ByteArray := prog_1_method_11_code
def yX6_supper : MethodName := ⟨RX6, "supper", "(I)I"⟩
abbrev cX6_fever : ByteArray := prog_1_method_12_code
def yX6_fever : MethodName := ⟨RX6, "fever", "(I)I"⟩
abbrev cX6_tell : ByteArray := prog_1_method_13_code
def yX6_tell : MethodName := ⟨RX6, "tell", "(II)I"⟩
abbrev cX6_bury : ByteArray := prog_1_method_14_code
def yX6_bury : MethodName := ⟨RX6, "bury", "(II)I"⟩
abbrev cX6_sleeper : ByteArray := prog_1_method_15_code
def yX6_sleeper : MethodName := ⟨RX6, "sleeper", "(II)I"⟩
abbrev cX6_memory : ByteArray := prog_1_method_16_code
def yX6_memory : MethodName := ⟨RX6, "memory", "(II)I"⟩
abbrev cX6_grave : ByteArray := prog_1_method_17_code
def yX6_grave : MethodName := ⟨RX6, "grave", "(II)I"⟩
abbrev cX6_ahead : ByteArray := prog_1_method_18_code
def yX6_ahead : MethodName := ⟨RX6, "ahead", "(I)I"⟩
abbrev cX6_dug : ByteArray := prog_1_method_19_code
def yX6_dug : MethodName := ⟨RX6, "dug", "(I)I"⟩
abbrev cX6_firstDug : ByteArray := prog_1_method_20_code
def yX6_firstDug : MethodName := ⟨RX6, "firstDug", "()I"⟩
abbrev cX6_suppers : ByteArray := prog_1_method_21_code
def yX6_suppers : MethodName := ⟨RX6, "suppers", "(III)I"⟩
abbrev cX6_bound : ByteArray := prog_1_method_22_code
def yX6_bound : MethodName := ⟨RX6, "bound", "(I)I"⟩
abbrev cX6_forgets : ByteArray := prog_1_method_23_code
def yX6_forgets : MethodName := ⟨RX6, "forgets", "(II)I"⟩
abbrev cX6_most : ByteArray := prog_1_method_24_code
def yX6_most : MethodName := ⟨RX6, "most", "(II)I"⟩
abbrev cX6_pair : ByteArray := prog_1_method_25_code
def yX6_pair : MethodName := ⟨RX6, "pair", "(II)I"⟩
abbrev cX6_who : ByteArray := prog_1_method_26_code
def yX6_who : MethodName := ⟨RX6, "who", "(IIII)I"⟩
abbrev cX6_whispered : ByteArray := prog_1_method_27_code
def yX6_whispered : MethodName := ⟨RX6, "whispered", "(IIII)I"⟩
abbrev cX6_cheese : ByteArray := prog_1_method_28_code
def yX6_cheese : MethodName := ⟨RX6, "cheese", "(I)I"⟩
abbrev cX6_awake : ByteArray := prog_1_method_29_code
def yX6_awake : MethodName := ⟨RX6, "awake", "(III)J"⟩
abbrev cX6_drawn : ByteArray := prog_1_method_30_code
def yX6_drawn : MethodName := ⟨RX6, "drawn", "(III)I"⟩
abbrev cX6_image : ByteArray := prog_1_method_31_code
def yX6_image : MethodName := ⟨RX6, "image", "(I)I"⟩
abbrev cX6_restore : ByteArray := prog_1_method_32_code
def yX6_restore : MethodName := ⟨RX6, "restore", "(I)I"⟩
abbrev cX6_kind : ByteArray := prog_1_method_33_code
def yX6_kind : MethodName := ⟨RX6, "kind", "(I)I"⟩
abbrev cX6_as : ByteArray := prog_1_method_34_code
def yX6_as : MethodName := ⟨RX6, "as", "(II)I"⟩
abbrev cX6_ask : ByteArray := prog_1_method_35_code
def yX6_ask : MethodName := ⟨RX6, "ask", "(II)I"⟩
abbrev cX6_trace : ByteArray := prog_1_method_36_code
def yX6_trace : MethodName := ⟨RX6, "trace", "(I)I"⟩
abbrev cX6_count : ByteArray := prog_1_method_37_code
def yX6_count : MethodName := ⟨RX6, "count", "(I)I"⟩
abbrev cX6_status : ByteArray := prog_1_method_38_code
def yX6_status : MethodName := ⟨RX6, "status", "()I"⟩
abbrev cX6_found : ByteArray := prog_1_method_39_code
def yX6_found : MethodName := ⟨RX6, "found", "(I)I"⟩
abbrev cX6_sound : ByteArray := prog_1_method_40_code
def yX6_sound : MethodName := ⟨RX6, "sound", "(I)I"⟩
abbrev cX6_isRow : ByteArray := prog_1_method_41_code
def yX6_isRow : MethodName := ⟨RX6, "isRow", "(I)Z"⟩
abbrev cX6_noYard : ByteArray := prog_1_method_42_code
def yX6_noYard : MethodName := ⟨RX6, "noYard", "()Z"⟩
abbrev cX6_isSleeper : ByteArray := prog_1_method_43_code
def yX6_isSleeper : MethodName := ⟨RX6, "isSleeper", "(I)Z"⟩
abbrev cX6_isGrave : ByteArray := prog_1_method_44_code
def yX6_isGrave : MethodName := ⟨RX6, "isGrave", "(I)Z"⟩
abbrev cX6_rowsThere : ByteArray := prog_1_method_45_code
def yX6_rowsThere : MethodName := ⟨RX6, "rowsThere", "()I"⟩
abbrev cX6_isOfKind : ByteArray := prog_1_method_46_code
def yX6_isOfKind : MethodName := ⟨RX6, "isOfKind", "(II)Z"⟩
abbrev cX6_bit : ByteArray := prog_1_method_47_code
def yX6_bit : MethodName := ⟨RX6, "bit", "(I)I"⟩
abbrev cX6_hasBit : ByteArray := prog_1_method_48_code
def yX6_hasBit : MethodName := ⟨RX6, "hasBit", "(II)Z"⟩
def RX7 : String := "DreamGravesModel"
def TX7 : u_T := fun k => match k with
  | 0 => ("DreamGravesModel", "lanes", "[I", true)
  | 1 => ("DreamGravesModel", "sizes", "[I", true)
  | 2 => ("DreamGravesModel", "items", "[I", true)
  | 3 => ("DreamGravesModel", "status", "I", false)
  | 4 => ("DreamGravesModel", "isThere", "Z", false)
  | 5 => ("DreamGravesModel", "st", "[I", true)
  | 6 => ("DreamGravesModel", "moved", "[I", true)
  | 7 => ("DreamGravesModel", "tape", "[I", true)
  | 8 => ("DreamGravesModel", "bytes", "I", false)
  | 9 => ("DreamGravesModel", "latest", "I", false)
  | 10 => ("DreamGravesModel", "place", "I", false)
  | 11 => ("DreamGravesModel", "token", "I", false)
  | 12 => ("DreamGravesModel", "value", "I", false)
  | 13 => ("DreamGravesModel", "begins", "I", false)
  | 14 => ("DreamGravesModel", "wrong", "I", false)
  | 15 => ("DreamGravesModel", "read", "[I", true)
  | 16 => ("DreamGravesModel", "acts", "[I", true)
  | 17 => ("DreamGravesModel", "actMany", "I", false)
  | 18 => ("DreamGravesModel", "aside", "[I", true)
  | 19 => ("DreamGravesModel", "way", "[I", true)
  | 20 => ("DreamGravesModel", "bestWay", "I", false)
  | 21 => ("DreamGravesModel", "isHeld", "[Z", true)
  | 22 => ("DreamGravesModel", "held", "[I", true)
  | 23 => ("DreamGravesModel", "trace", "[I", true)
  | _ => ("DreamGravesModel", "traced", "I", false)
def tyX7 : Nat → FieldType := fun k => match k with
  | 0 => .array .int
  | 1 => .array .int
  | 2 => .array .int
  | 3 => .int
  | 4 => .boolean
  | 5 => .array .int
  | 6 => .array .int
  | 7 => .array .int
  | 8 => .int
  | 9 => .int
  | 10 => .int
  | 11 => .int
  | 12 => .int
  | 13 => .int
  | 14 => .int
  | 15 => .array .int
  | 16 => .array .int
  | 17 => .int
  | 18 => .array .int
  | 19 => .array .int
  | 20 => .int
  | 21 => .array .boolean
  | 22 => .array .int
  | 23 => .array .int
  | _ => .int
abbrev wsX70 : List Cond := u_ws RX7 TX7 25
theorem nmX7 : ∀ a, a < 25 → ∀ b, b < 25 → a ≠ b → (TX7 a).2.1 ≠ (TX7 b).2.1 := by decide +kernel
theorem tyX7_ok : ∀ k, k < 25 → parseFieldDescriptor (TX7 k).2.2.1 = some (tyX7 k) := by decide +kernel
abbrev cX7_init : ByteArray := prog_9_method_1_code
def yX7_init : MethodName := ⟨RX7, "<init>", "()V"⟩
abbrev cX7_in : ByteArray := prog_9_method_2_code
def yX7_in : MethodName := ⟨RX7, "in", "(JJJ)Z"⟩
abbrev cX7_has : ByteArray := prog_9_method_3_code
def yX7_has : MethodName := ⟨RX7, "has", "(II)Z"⟩
abbrev cX7_ones : ByteArray := prog_9_method_4_code
def yX7_ones : MethodName := ⟨RX7, "ones", "(I)I"⟩
abbrev cX7_find : ByteArray := prog_9_method_5_code
def yX7_find : MethodName := ⟨RX7, "find", "(I)I"⟩
abbrev cX7_well : ByteArray := prog_9_method_6_code
def yX7_well : MethodName := ⟨RX7, "well", "(I)I"⟩
abbrev cX7_isRow : ByteArray := prog_9_method_7_code
def yX7_isRow : MethodName := ⟨RX7, "isRow", "(I)Z"⟩
abbrev cX7_row : ByteArray := prog_9_method_8_code
def yX7_row : MethodName := ⟨RX7, "row", "(III)I"⟩
abbrev cX7_asLane : ByteArray := prog_9_method_9_code
def yX7_asLane : MethodName := ⟨RX7, "asLane", "(II)I"⟩
abbrev cX7_set : ByteArray := prog_9_method_10_code
def yX7_set : MethodName := ⟨RX7, "set", "(III)I"⟩
abbrev cX7_copy : ByteArray := prog_9_method_11_code
def yX7_copy : MethodName := ⟨RX7, "copy", "(IIIII)I"⟩
abbrev cX7_drop : ByteArray := prog_9_method_12_code
def yX7_drop : MethodName := ⟨RX7, "drop", "(I)I"⟩
abbrev cX7_feed : ByteArray := prog_9_method_13_code
def yX7_feed : MethodName := ⟨RX7, "feed", "(I)I"⟩
abbrev cX7_nextToken : ByteArray := prog_9_method_14_code
def yX7_nextToken : MethodName := ⟨RX7, "nextToken", "()V"⟩
abbrev cX7_faults : ByteArray := prog_9_method_15_code
def yX7_faults : MethodName := ⟨RX7, "faults", "(I)Z"⟩
abbrev cX7_isLetter : ByteArray := prog_9_method_16_code
def yX7_isLetter : MethodName := ⟨RX7, "isLetter", "(I)Z"⟩
abbrev cX7_takes : ByteArray := prog_9_method_17_code
def yX7_takes : MethodName := ⟨RX7, "takes", "(I)Z"⟩
abbrev cX7_takesNumber : ByteArray := prog_9_method_18_code
def yX7_takesNumber : MethodName := ⟨RX7, "takesNumber", "(IIII)Z"⟩
abbrev cX7_readSleeper : ByteArray := prog_9_method_19_code
def yX7_readSleeper : MethodName := ⟨RX7, "readSleeper", "(I)Z"⟩
abbrev cX7_readYard : ByteArray := prog_9_method_20_code
def yX7_readYard : MethodName := ⟨RX7, "readYard", "()Z"⟩
abbrev cX7_yard : ByteArray := prog_9_method_21_code
def yX7_yard : MethodName := ⟨RX7, "yard", "()I"⟩
abbrev cX7_fault : ByteArray := prog_9_method_22_code
def yX7_fault : MethodName := ⟨RX7, "fault", "()I"⟩
abbrev cX7_isSleeper : ByteArray := prog_9_method_23_code
def yX7_isSleeper : MethodName := ⟨RX7, "isSleeper", "(I)Z"⟩
abbrev cX7_isGrave : ByteArray := prog_9_method_24_code
def yX7_isGrave : MethodName := ⟨RX7, "isGrave", "(I)Z"⟩
abbrev cX7_memoryOf : ByteArray := prog_9_method_25_code
def yX7_memoryOf : MethodName := ⟨RX7, "memoryOf", "(II)I"⟩
abbrev cX7_mostOf : ByteArray := prog_9_method_26_code
def yX7_mostOf : MethodName := ⟨RX7, "mostOf", "(II)I"⟩
abbrev cX7_dreams : ByteArray := prog_9_method_27_code
def yX7_dreams : MethodName := ⟨RX7, "dreams", "(I)I"⟩
abbrev cX7_allDreams : ByteArray := prog_9_method_28_code
def yX7_allDreams : MethodName := ⟨RX7, "allDreams", "()I"⟩
abbrev cX7_lessOf : ByteArray := prog_9_method_29_code
def yX7_lessOf : MethodName := ⟨RX7, "lessOf", "(I)I"⟩
abbrev cX7_oneYear : ByteArray := prog_9_method_30_code
def yX7_oneYear : MethodName := ⟨RX7, "oneYear", "()V"⟩
abbrev cX7_note : ByteArray := prog_9_method_31_code
def yX7_note : MethodName := ⟨RX7, "note", "()V"⟩
abbrev cX7_undo : ByteArray := prog_9_method_32_code
def yX7_undo : MethodName := ⟨RX7, "undo", "()I"⟩
abbrev cX7_years : ByteArray := prog_9_method_33_code
def yX7_years : MethodName := ⟨RX7, "years", "(I)I"⟩
abbrev cX7_suppered : ByteArray := prog_9_method_34_code
def yX7_suppered : MethodName := ⟨RX7, "suppered", "()I"⟩
abbrev cX7_supper : ByteArray := prog_9_method_35_code
def yX7_supper : MethodName := ⟨RX7, "supper", "(I)I"⟩
abbrev cX7_fever : ByteArray := prog_9_method_36_code
def yX7_fever : MethodName := ⟨RX7, "fever", "(I)I"⟩
abbrev cX7_tell : ByteArray := prog_9_method_37_code
def yX7_tell : MethodName := ⟨RX7, "tell", "(II)I"⟩
abbrev cX7_bury : ByteArray := prog_9_method_38_code
def yX7_bury : MethodName := ⟨RX7, "bury", "(II)I"⟩
abbrev cX7_memoryBy : ByteArray := prog_9_method_39_code
def yX7_memoryBy : MethodName := ⟨RX7, "memoryBy", "(I)I"⟩
abbrev cX7_sleeper : ByteArray := prog_9_method_40_code
def yX7_sleeper : MethodName := ⟨RX7, "sleeper", "(II)I"⟩
abbrev cX7_memory : ByteArray := prog_9_method_41_code
def yX7_memory : MethodName := ⟨RX7, "memory", "(II)I"⟩
abbrev cX7_grave : ByteArray := prog_9_method_42_code
def yX7_grave : MethodName := ⟨RX7, "grave", "(II)I"⟩
abbrev cX7_putAside : ByteArray := prog_9_method_43_code
def yX7_putAside : MethodName := ⟨RX7, "putAside", "()V"⟩
abbrev cX7_takeBack : ByteArray := prog_9_method_44_code
def yX7_takeBack : MethodName := ⟨RX7, "takeBack", "()V"⟩
abbrev cX7_ahead : ByteArray := prog_9_method_45_code
def yX7_ahead : MethodName := ⟨RX7, "ahead", "(I)I"⟩
abbrev cX7_feedAll : ByteArray := prog_9_method_46_code
def yX7_feedAll : MethodName := ⟨RX7, "feedAll", "()V"⟩
abbrev cX7_dugIn : ByteArray := prog_9_method_47_code
def yX7_dugIn : MethodName := ⟨RX7, "dugIn", "(IZ)I"⟩
abbrev cX7_dug : ByteArray := prog_9_method_48_code
def yX7_dug : MethodName := ⟨RX7, "dug", "(I)I"⟩
abbrev cX7_firstDug : ByteArray := prog_9_method_49_code
def yX7_firstDug : MethodName := ⟨RX7, "firstDug", "()I"⟩
abbrev cX7_giveSuppers : ByteArray := prog_9_method_50_code
def yX7_giveSuppers : MethodName := ⟨RX7, "giveSuppers", "(I)V"⟩
abbrev cX7_isKeptBy : ByteArray := prog_9_method_51_code
def yX7_isKeptBy : MethodName := ⟨RX7, "isKeptBy", "(II)Z"⟩
abbrev cX7_findWay : ByteArray := prog_9_method_52_code
def yX7_findWay : MethodName := ⟨RX7, "findWay", "(II)I"⟩
abbrev cX7_suppers : ByteArray := prog_9_method_53_code
def yX7_suppers : MethodName := ⟨RX7, "suppers", "(III)I"⟩
abbrev cX7_bound : ByteArray := prog_9_method_54_code
def yX7_bound : MethodName := ⟨RX7, "bound", "(I)I"⟩
abbrev cX7_forgets : ByteArray := prog_9_method_55_code
def yX7_forgets : MethodName := ⟨RX7, "forgets", "(II)I"⟩
abbrev cX7_most : ByteArray := prog_9_method_56_code
def yX7_most : MethodName := ⟨RX7, "most", "(II)I"⟩
abbrev cX7_pair : ByteArray := prog_9_method_57_code
def yX7_pair : MethodName := ⟨RX7, "pair", "(II)I"⟩
abbrev cX7_lacks : ByteArray := prog_9_method_58_code
def yX7_lacks : MethodName := ⟨RX7, "lacks", "(III)I"⟩
abbrev cX7_isSo : ByteArray := prog_9_method_59_code
def yX7_isSo : MethodName := ⟨RX7, "isSo", "(II)Z"⟩
abbrev cX7_who : ByteArray := prog_9_method_60_code
def yX7_who : MethodName := ⟨RX7, "who", "(IIII)I"⟩
abbrev cX7_whispered : ByteArray := prog_9_method_61_code
def yX7_whispered : MethodName := ⟨RX7, "whispered", "(IIII)I"⟩
abbrev cX7_needsSupper : ByteArray := prog_9_method_62_code
def yX7_needsSupper : MethodName := ⟨RX7, "needsSupper", "(I)Z"⟩
abbrev cX7_cheese : ByteArray := prog_9_method_63_code
def yX7_cheese : MethodName := ⟨RX7, "cheese", "(I)I"⟩
abbrev cX7_awake : ByteArray := prog_9_method_64_code
def yX7_awake : MethodName := ⟨RX7, "awake", "(III)J"⟩
abbrev cX7_drawn : ByteArray := prog_9_method_65_code
def yX7_drawn : MethodName := ⟨RX7, "drawn", "(III)I"⟩
abbrev cX7_image : ByteArray := prog_9_method_66_code
def yX7_image : MethodName := ⟨RX7, "image", "(I)I"⟩
abbrev cX7_restore : ByteArray := prog_9_method_67_code
def yX7_restore : MethodName := ⟨RX7, "restore", "(I)I"⟩
abbrev cX7_kind : ByteArray := prog_9_method_68_code
def yX7_kind : MethodName := ⟨RX7, "kind", "(I)I"⟩
abbrev cX7_isKind : ByteArray := prog_9_method_69_code
def yX7_isKind : MethodName := ⟨RX7, "isKind", "(II)Z"⟩
abbrev cX7_as : ByteArray := prog_9_method_70_code
def yX7_as : MethodName := ⟨RX7, "as", "(II)I"⟩
abbrev cX7_begin : ByteArray := prog_9_method_71_code
def yX7_begin : MethodName := ⟨RX7, "begin", "(I)V"⟩
abbrev cX7_lent : ByteArray := prog_9_method_72_code
def yX7_lent : MethodName := ⟨RX7, "lent", "(II)I"⟩
abbrev cX7_dreamerMark : ByteArray := prog_9_method_73_code
def yX7_dreamerMark : MethodName := ⟨RX7, "dreamerMark", "(I)I"⟩
abbrev cX7_wifeSize : ByteArray := prog_9_method_74_code
def yX7_wifeSize : MethodName := ⟨RX7, "wifeSize", "(I)I"⟩
abbrev cX7_sizeOfWife : ByteArray := prog_9_method_75_code
def yX7_sizeOfWife : MethodName := ⟨RX7, "sizeOfWife", "(I)I"⟩
abbrev cX7_markOf : ByteArray := prog_9_method_76_code
def yX7_markOf : MethodName := ⟨RX7, "markOf", "(I)I"⟩
abbrev cX7_dreamerSize : ByteArray := prog_9_method_77_code
def yX7_dreamerSize : MethodName := ⟨RX7, "dreamerSize", "(I)I"⟩
abbrev cX7_sizeOf : ByteArray := prog_9_method_78_code
def yX7_sizeOf : MethodName := ⟨RX7, "sizeOf", "(I)I"⟩
abbrev cX7_ask : ByteArray := prog_9_method_79_code
def yX7_ask : MethodName := ⟨RX7, "ask", "(II)I"⟩
abbrev cX7_trace : ByteArray := prog_9_method_80_code
def yX7_trace : MethodName := ⟨RX7, "trace", "(I)I"⟩
abbrev cX7_count : ByteArray := prog_9_method_81_code
def yX7_count : MethodName := ⟨RX7, "count", "(I)I"⟩
abbrev cX7_status : ByteArray := prog_9_method_82_code
def yX7_status : MethodName := ⟨RX7, "status", "()I"⟩
def RJ6 : String := "java/lang/Integer"
def TJ6 : u_T := fun k => match k with
  | _ => ("", "", "", false)
def tyJ6 : Nat → FieldType := fun k => match k with
  | _ => .int
abbrev wsJ60 : List Cond := u_ws RJ6 TJ6 0
theorem nmJ6 : ∀ a, a < 0 → ∀ b, b < 0 → a ≠ b → (TJ6 a).2.1 ≠ (TJ6 b).2.1 := by decide +kernel
theorem tyJ6_ok : ∀ k, k < 0 → parseFieldDescriptor (TJ6 k).2.2.1 = some (tyJ6 k) := by decide +kernel
abbrev cJ6_bitCount_0f7a4 : ByteArray := prog_10_method_49_code
def yJ6_bitCount_0f7a4 : MethodName := ⟨RJ6, "bitCount", "(I)I"⟩
def RJ10 : String := "java/lang/System"
def TJ10 : u_T := fun k => match k with
  | _ => ("", "", "", false)
def tyJ10 : Nat → FieldType := fun k => match k with
  | _ => .int
abbrev wsJ100 : List Cond := u_ws RJ10 TJ10 0
theorem nmJ10 : ∀ a, a < 0 → ∀ b, b < 0 → a ≠ b → (TJ10 a).2.1 ≠ (TJ10 b).2.1 := by decide +kernel
theorem tyJ10_ok : ∀ k, k < 0 → parseFieldDescriptor (TJ10 k).2.2.1 = some (tyJ10 k) := by decide +kernel
def RJ7 : String := "java/util/Arrays"
def TJ7 : u_T := fun k => match k with
  | _ => ("", "", "", false)
def tyJ7 : Nat → FieldType := fun k => match k with
  | _ => .int
abbrev wsJ70 : List Cond := u_ws RJ7 TJ7 0
theorem nmJ7 : ∀ a, a < 0 → ∀ b, b < 0 → a ≠ b → (TJ7 a).2.1 ≠ (TJ7 b).2.1 := by decide +kernel
theorem tyJ7_ok : ∀ k, k < 0 → parseFieldDescriptor (TJ7 k).2.2.1 = some (tyJ7 k) := by decide +kernel
abbrev cJ7_fill_53178 : ByteArray := prog_12_method_103_code
def yJ7_fill_53178 : MethodName := ⟨RJ7, "fill", "([II)V"⟩
def RL : String := "DreamGravesLaw"
abbrev cL_law : ByteArray := code
def yL_law : MethodName := ⟨RL, "law", "([I)Z"⟩
abbrev vwCl : List vw_C := [(RX0, TX0, 2), (RX1, TX1, 3), (RX2, TX2, 3), (RX3, TX3, 4), (RX4, TX4, 9), (RX5, TX5, 10), (RX6, TX6, 8), (RX7, TX7, 25)]
end
section
/-! THE FRAME: an abstract heap is a list of cells, the cell k at the address base + k; one predicate Y of a point of a method, a row an instruction; a contract Ctm of a method. -/
/-- the tables' words that stay -/
def lwg : List Cond := lw_tbl.filter goodWord
theorem lwg_good : GoodIn lwg lwg := fun w h => ⟨h, good_of_word (List.mem_filter.mp h).2⟩
theorem lwg_of {w : Cond} (h : w ∈ lw_tbl) (hg : goodWord w = true) : w ∈ lwg := List.mem_filter.mpr ⟨h, hg⟩
abbrev qX : Type := Program × Launch × Env × Room × State × MethodId × Array Value × List Frame × Method × Code × (State → Prop)
/-- class numbers; 0 int[], 1 boolean[], 2 Row[], 3 Yard[], 4 the base, 5 and 6 the two static tables -/
abbrev qG : Type := va_G × (Nat → Nat)
abbrev qr (G : qG) (a : Nat) : Value := .ref (G.2 4 + a)
abbrev qI (G : qG) (n : Nat) (f : Nat → Int32) : va_E := .inl (G.2 0, n, .inl f)
abbrev qZ (G : qG) (n : Nat) (f : Nat → Int32) : va_E := .inl (G.2 1, n, .inl f)
abbrev qR (G : qG) (n : Nat) (f : Nat → Option Nat) : va_E := .inl (G.2 2, n, .inr (.inr (.inr (.inr f))))
abbrev qY (G : qG) (n : Nat) (f : Nat → Option Nat) : va_E := .inl (G.2 3, n, .inr (.inr (.inr (.inr f))))
abbrev qT (G : qG) : List (ClassId × FieldType) := [(G.2 0, .int), (G.2 1, .boolean), (G.2 2, .object "DreamGraves$Row"), (G.2 3, .object "DreamGraves$Yard")]
abbrev qA (G : qG) : Nat → Prop := fun q => G.2 4 ≤ q
/-- the list as the kit's world -/
def qw (b : Nat) (h : List va_E) : va_W := h.mapIdx (fun k e => (b + k, e))
theorem qw_at {b : Nat} {h : List va_E} {k : Nat} {e : va_E} (hk : h[k]? = some e) : (qw b h)[k]? = some (b + k, e) := by
  simp [qw, hk]
theorem qw_of {b : Nat} {h : List va_E} {k : Nat} {q : Nat × va_E} (hk : (qw b h)[k]? = some q) : q.1 = b + k ∧ h[k]? = some q.2 := by
  simp only [qw, List.getElem?_mapIdx, Option.map_eq_some_iff] at hk
  obtain ⟨e, h1, rfl⟩ := hk
  exact ⟨rfl, h1⟩
theorem qw_set {b : Nat} {h : List va_E} {k : Nat} {e : va_E} : (qw b h).set k (b + k, e) = qw b (h.set k e) := by
  apply List.ext_getElem?
  intro j
  by_cases hj : j = k
  · subst hj
    by_cases hl : j < h.length
    · rw [List.getElem?_set_self (by simpa [qw] using hl)]
      exact (qw_at (List.getElem?_set_self hl)).symm
    · rw [List.getElem?_eq_none (by simp [qw]; omega), List.getElem?_eq_none (by simp [qw]; omega)]
  · rw [List.getElem?_set_ne (Ne.symm hj)]
    simp only [qw, List.getElem?_mapIdx]
    rw [List.getElem?_set_ne (Ne.symm hj)]
theorem qw_D {b : Nat} {h : List va_E} : va_D (fun q => b ≤ q) (qw b h) := by
  refine ⟨fun i j x y hx hy e => ?_, fun k q hk => ?_⟩
  · have h1 := (qw_of hx).1
    have h2 := (qw_of hy).1
    omega
  · have h1 := (qw_of hk).1
    show b ≤ q.1
    omega
/-- the heap holds the list -/
def qH (G : qG) (h : List va_E) (H : Heap) : Prop := va_P G.1 vwCl (qw (G.2 4) h) H
theorem qH_set {G : qG} {h : List va_E} {H1 : Heap} {k : Nat} {e : va_E} (hP : va_P G.1 vwCl ((qw (G.2 4) h).set k (G.2 4 + k, e)) H1) : qH G (h.set k e) H1 := by
  rw [qw_set] at hP
  exact hP
theorem qH_le {G : qG} {h : List va_E} {H : Heap} (hP : qH G h H) : h = [] ∨ G.2 4 + h.length ≤ H.size := by
  cases hh : h with
  | nil => exact Or.inl rfl
  | cons a t =>
    refine Or.inr ?_
    have hl : h.length - 1 < h.length := by rw [hh]; simp
    have := (hP _ _ (qw_at (List.getElem?_eq_getElem hl))).lt
    rw [← hh]
    simp only at this
    omega
/-- the nest's links, used by their numbers -/
def qNl : List Cond := tables_1.filter (fun w => match w with | .methodLinkNest _ _ _ _ => true | _ => false)
def qtS : Nat → Value := fun j => .int (nI ([10, 11, 12, 11, 13, 14].getD j 0))
def qtM : Nat → Value := fun j => .int (nI ([20, 21, 24, 22, 23, 23].getD j 0))
/-- what is fixed: tables, nests, statics -/
def qF (G : qG) (U : State) (H : Heap) : Prop :=
  va_K G.1 vwCl (qT G) U ∧ (∀ w ∈ qNl, va_Nw w U) ∧ va_AO "DreamGraves$Row" U ∧ va_AO "DreamGraves$Yard" U ∧
  va_Z "DreamGraves$Asker" "SIZE_BODIES" "[I" (.ref (G.2 5)) (qA G) U H ∧ va_T .int (G.2 5) 6 qtS (qA G) U H ∧
  va_Z "DreamGraves$Asker" "MARK_BODIES" "[I" (.ref (G.2 6)) (qA G) U H ∧ va_T .int (G.2 6) 6 qtM (qA G) U H
theorem qNl_form : ∀ w ∈ qNl, ∃ a i x h, w = .methodLinkNest a i x h := by
  intro w hw
  have h := (List.mem_filter.mp hw).2
  split at h
  · exact ⟨_, _, _, _, rfl⟩
  · cases h
theorem qF_moved {G : qG} {s U : State} {H H1 : Heap} (hW : s.WarmedH U.vm) (hq : ∀ a : Nat, a < H.size → ¬ qA G a → H1[a]? = H[a]?) (h : qF G s H) : qF G U H1 := by
  obtain ⟨h1, h2, h3, h4, h5, h6, h7, h8⟩ := h
  refine ⟨va_K.moved hW.alike h1, fun w hw => ?_, va_AO.moved hW.alike h3, va_AO.moved hW.alike h4, va_Z.kept (va_Z.moved hW.alike h5) hq, va_T.kept (va_T.moved hW.alike h6) hq, va_Z.kept (va_Z.moved hW.alike h7) hq, va_T.kept (va_T.moved hW.alike h8) hq⟩
  obtain ⟨a, i, x, hh, rfl⟩ := qNl_form w hw
  exact va_Nw.warmM hW (h2 _ hw)
theorem qF_blind {G : qG} {U : State} {H : Heap} {g : JFrame} {mk : MethodId} {a : Array Value} (h : qF G U H) : qF G (U.calling g mk a) H := by
  obtain ⟨h1, h2, h3, h4, h5, h6, h7, h8⟩ := h
  have hv : U.vm.Alike (U.calling g mk a).vm := Vm.Alike.refl U.vm
  refine ⟨va_K.moved hv h1, fun w hw => ?_, va_AO.moved hv h3, va_AO.moved hv h4, va_Z.moved hv h5, va_T.moved hv h6, va_Z.moved hv h7, va_T.moved hv h8⟩
  obtain ⟨a, i, x, hh, rfl⟩ := qNl_form w hw
  exact va_Nw.same rfl (rfl : U.vm = (U.calling g mk _).vm) (h2 _ hw)
def qW (G : qG) (h : List va_E) (U : State) : Prop := qH G h U.heap ∧ qF G U U.heap
abbrev qm (d mc ms : Nat) : Room := { frames := d, cells := mc, slots := ms, locals := 40 * d }
abbrev qP (G : qG) (mc : Nat) (av : List Value) (h : List va_E) : Array Value → State → Prop := va_Pc av (fun U => qW G h U ∧ G.2 4 ≤ U.heap.size ∧ (mc ≠ 0 → U.heap.size = G.2 4 + h.length))
abbrev qQ (G : qG) (r : Option Value) (h' : List va_E) : Array Value → State → Outcome → State → Prop := fun _ st o t => o = .returned r ∧ qW G h' t ∧ va_F (qA G) st t
/-- the contract: on these arguments and this heap the method answers r and leaves h' -/
def Ctm (l : Launch) (G : qG) (y : MethodName) (d mc ms : Nat) (av : List Value) (h : List va_E) (r : Option Value) (h' : List va_E) : Prop :=
  ∃ (bytes : ByteArray) (maxL : Nat) (ret : Option FieldType), Cond.code y bytes maxL ret ∈ lwg ∧ maxL ≤ 20 ∧ Met l y (Cond.code y bytes maxL ret :: lwg) (qm d mc ms) (qP G mc av h) (qQ G r h') mc ms (qA G)
abbrev Ct (l : Launch) (G : qG) (y : MethodName) (d : Nat) (av : List Value) (h : List va_E) (r : Option Value) (h' : List va_E) : Prop := Ctm l G y d 0 0 av h r h'
/-- the locals by their places -/
def qlv : Nat → List (Option Value) → List (Nat × Value)
  | _, [] => []
  | i, none :: t => qlv (i + 1) t
  | i, some v :: t => (i, v) :: qlv (i + 1) t
theorem qlv_mem : ∀ (lv : List (Option Value)) (i k : Nat) (v : Value), lv[k]? = some (some v) → (i + k, v) ∈ qlv i lv
  | [], i, k, v, h => by simp at h
  | none :: t, i, 0, v, h => by simp at h
  | none :: t, i, k + 1, v, h => by
    have := qlv_mem t (i + 1) k v (by simpa using h)
    rw [show i + (k + 1) = i + 1 + k by omega]
    exact this
  | some w :: t, i, 0, v, h => by
    simp at h
    subst h
    exact List.mem_cons_self
  | some w :: t, i, k + 1, v, h => by
    have := qlv_mem t (i + 1) k v (by simpa using h)
    rw [show i + (k + 1) = i + 1 + k by omega]
    exact List.mem_cons_of_mem _ this
theorem qlv_of : ∀ (lv : List (Option Value)) (i : Nat) (q : Nat × Value), q ∈ qlv i lv → ∃ k, q.1 = i + k ∧ lv[k]? = some (some q.2)
  | [], i, q, h => by simp [qlv] at h
  | none :: t, i, q, h => by
    obtain ⟨k, h1, h2⟩ := qlv_of t (i + 1) q h
    exact ⟨k + 1, by omega, by simpa using h2⟩
  | some w :: t, i, q, h => by
    rcases List.mem_cons.mp h with rfl | h
    · exact ⟨0, rfl, rfl⟩
    · obtain ⟨k, h1, h2⟩ := qlv_of t (i + 1) q h
      exact ⟨k + 1, by omega, by simpa using h2⟩
def qh (ls : Array Slot) (nL : Nat) (lv : List (Option Value)) : Prop := lv_has ls nL (qlv 0 lv)
theorem qh_at {ls : Array Slot} {nL k : Nat} {lv : List (Option Value)} {v : Value} (h : qh ls nL lv) (hk : lv[k]? = some (some v)) : ls[k]? = some (.val v) := by
  have := h.2.2 (0 + k, v) (qlv_mem lv 0 k v hk)
  simpa using this
/-- no long stands just ahead of place i -/
def qok (lv : List (Option Value)) (i : Nat) : Prop := ∀ (j : Nat) (w : Value), j + 1 = i → lv[j]? = some (some w) → w.category = 1
theorem qok_0 {lv : List (Option Value)} : qok lv 0 := fun j w h => by omega
theorem qok_n {lv : List (Option Value)} {j : Nat} (h : lv[j]? = some none) : qok lv (j + 1) := fun k w e hk => by
  obtain rfl : k = j := by omega
  rw [h] at hk
  cases hk
theorem qok_s {lv : List (Option Value)} {j : Nat} {v : Value} (h : lv[j]? = some (some v)) (hc : v.category = 1) : qok lv (j + 1) := fun k w e hk => by
  obtain rfl : k = j := by omega
  rw [h] at hk
  cases hk
  exact hc
theorem qh_s1 {ls ls' : Array Slot} {nL i : Nat} {lv : List (Option Value)} {v : Value} (ho : qok lv i) (h : lv_has ls' nL ((i, v) :: (qlv 0 lv).filter (fun q => !(q.1 == i) && !(q.1 + 1 == i && q.2.category == 2)))) : qh ls' nL (lv.set i (some v)) := by
  refine ⟨h.1, h.2.1, fun q hq => ?_⟩
  obtain ⟨k, h1, h2⟩ := qlv_of _ 0 q hq
  by_cases hk : k = i
  · subst hk
    by_cases hl : k < lv.length
    · rw [List.getElem?_set_self hl] at h2
      have e2 := Option.some.inj (Option.some.inj h2)
      have := h.2.2 (k, v) List.mem_cons_self
      rw [h1, Nat.zero_add, ← e2]
      exact this
    · rw [List.getElem?_eq_none (by simp; omega)] at h2
      cases h2
  · rw [List.getElem?_set_ne (Ne.symm hk)] at h2
    refine h.2.2 q (List.mem_cons_of_mem _ (List.mem_filter.mpr ⟨?_, ?_⟩))
    · have := qlv_mem lv 0 k q.2 h2
      rw [← h1] at this
      exact this
    · have e : q.1 = k := by omega
      by_cases hc : k + 1 = i
      · have := ho k q.2 hc h2
        simp [e, hk, this]
      · simp [e, hk, hc]
theorem qh_s2 {ls ls' : Array Slot} {nL i : Nat} {lv : List (Option Value)} {v : Value} (ho : qok lv i) (h : lv_has ls' nL ((i, v) :: (qlv 0 lv).filter (fun q => !(q.1 == i) && (!(q.1 == i + 1) && !(q.1 + 1 == i && q.2.category == 2))))) : qh ls' nL ((lv.set i (some v)).set (i + 1) none) := by
  refine ⟨h.1, h.2.1, fun q hq => ?_⟩
  obtain ⟨k, h1, h2⟩ := qlv_of _ 0 q hq
  by_cases hk1 : k = i + 1
  · subst hk1
    rw [List.getElem?_set] at h2
    simp at h2
  · rw [List.getElem?_set_ne (Ne.symm hk1)] at h2
    by_cases hk : k = i
    · subst hk
      by_cases hl : k < lv.length
      · rw [List.getElem?_set_self hl] at h2
        have e2 := Option.some.inj (Option.some.inj h2)
        have := h.2.2 (k, v) List.mem_cons_self
        rw [h1, Nat.zero_add, ← e2]
        exact this
      · rw [List.getElem?_eq_none (by simp; omega)] at h2
        cases h2
    · rw [List.getElem?_set_ne (Ne.symm hk)] at h2
      refine h.2.2 q (List.mem_cons_of_mem _ (List.mem_filter.mpr ⟨?_, ?_⟩))
      · have := qlv_mem lv 0 k q.2 h2
        rw [← h1] at this
        exact this
      · have e : q.1 = k := by omega
        by_cases hc : k + 1 = i
        · have := ho k q.2 hc h2
          simp [e, hk, hk1, this]
        · simp [e, hk, hk1, hc]
/-- a point of a method -/
def Y (X : qX) (G : qG) (nL kc ks pc : Nat) (lv : List (Option Value)) (st : List Value) (h : List va_E) : Prop :=
  ∀ (H : Heap) (locs : List Loc) (ls : Array Slot), qH G h H → va_S (qA G) X.2.2.2.2.1.heap H locs → qh ls nL lv →
    W X.1 X.2.1 X.2.2.1 X.2.2.2.1 X.2.2.2.2.1 X.2.2.2.2.2.1 X.2.2.2.2.2.2.1 X.2.2.2.2.2.2.2.1 X.2.2.2.2.2.2.2.2.1 X.2.2.2.2.2.2.2.2.2.1 H locs kc ks X.2.2.2.2.2.2.2.2.2.2 (F0 X.2.2.2.2.2.1 pc ls st)
/-- what holds all through a method's body -/
def qC (X : qX) (G : qG) (cc : ByteArray) (nL : Nat) (own : String) (d : Nat) : Prop :=
  X.1.tables.exec = Jvm.exec ∧ X.2.2.2.2.2.2.2.2.2.1.code = cc ∧ X.2.2.2.2.2.2.2.2.2.1.maxLocals = nL ∧ X.2.2.2.2.1.vm.findClass own = some X.2.2.2.2.2.1.cls ∧ (∀ w ∈ lwg, w.before X.2.2.2.2.2.2.1 X.2.2.2.2.1 = true) ∧
  d ≤ X.2.2.2.1.frames ∧ 40 * d ≤ X.2.2.2.1.locals ∧ qF G X.2.2.2.2.1 X.2.2.2.2.1.heap ∧ G.2 4 ≤ X.2.2.2.2.1.heap.size ∧ X.2.2.2.2.2.2.2.2.1.locks = false
/-- its end: the answer and the heap that are due -/
def qE (X : qX) (G : qG) (rt : Option FieldType) (kc ks : Nat) (r : Option Value) (h' : List va_E) : Prop :=
  X.2.2.2.2.2.2.2.2.2.2 = MQ X.2.2.2.2.2.2.2.1 (qQ G r h') X.2.2.2.2.2.2.1 X.2.2.2.2.1 kc ks (qA G) ∧ X.2.2.2.2.2.2.2.2.1.sig.returnType = rt
def qd (cc : ByteArray) (pc : Nat) (i : Instr) (n pc' : Nat) : Prop := decode cc pc = .ok (i, n) ∧ pc + n = pc'
end
section
section
variable {X : qX} {G : qG} {cc : ByteArray} {nL kc ks pc pc' d : Nat} {own : String} {lv : List (Option Value)} {st : List Value} {h : List va_E}
theorem y_eq {lv' : List (Option Value)} {st' : List Value} {h' : List va_E} (h1 : lv = lv') (h2 : st = st') (h3 : h = h') (k : Y X G nL kc ks pc lv' st' h') : Y X G nL kc ks pc lv st h := by
  subst h1; subst h2; subst h3; exact k
theorem y_hp {h' : List va_E} (h3 : h = h') (k : Y X G nL kc ks pc lv st h') : Y X G nL kc ks pc lv st h := h3 ▸ k
theorem y_st {st' : List Value} (h3 : st = st') (k : Y X G nL kc ks pc lv st' h) : Y X G nL kc ks pc lv st h := h3 ▸ k
theorem y_lv {lv' : List (Option Value)} (h3 : lv = lv') (k : Y X G nL kc ks pc lv' st h) : Y X G nL kc ks pc lv st h := h3 ▸ k
theorem y_top {x y : Int32} (e : x = y) (k : Y X G nL kc ks pc lv (.int y :: st) h) : Y X G nL kc ks pc lv (.int x :: st) h := e ▸ k
theorem y_topl {x y : Int64} (e : x = y) (k : Y X G nL kc ks pc lv (.long y :: st) h) : Y X G nL kc ks pc lv (.long x :: st) h := e ▸ k
theorem y_iconst {i : Int} {v : Int32} (C : qC X G cc nL own d) (hd : qd cc pc (.iconst i) 1 pc') (hv : Int32.ofInt i = v) (k : Y X G nL kc ks pc' lv (.int v :: st) h) : Y X G nL kc ks pc lv (st) h := by
  obtain ⟨hd, rfl⟩ := hd
  exact fun H locs ls a b c => lv_iconst C.1 C.2.1 hd hv (k H locs ls a b c)
theorem y_bipush {i : Int} {v : Int32} (C : qC X G cc nL own d) (hd : qd cc pc (.bipush i) 2 pc') (hv : (Int8.ofInt i).toInt32 = v) (k : Y X G nL kc ks pc' lv (.int v :: st) h) : Y X G nL kc ks pc lv (st) h := by
  obtain ⟨hd, rfl⟩ := hd
  exact fun H locs ls a b c => lv_bipush C.1 C.2.1 hd hv (k H locs ls a b c)
theorem y_sipush {i : Int} {v : Int32} (C : qC X G cc nL own d) (hd : qd cc pc (.sipush i) 3 pc') (hv : (Int16.ofInt i).toInt32 = v) (k : Y X G nL kc ks pc' lv (.int v :: st) h) : Y X G nL kc ks pc lv (st) h := by
  obtain ⟨hd, rfl⟩ := hd
  exact fun H locs ls a b c => lv_sipush C.1 C.2.1 hd hv (k H locs ls a b c)
theorem y_lconst {i : Fin 2} {v : Int64} (C : qC X G cc nL own d) (hd : qd cc pc (.lconst i) 1 pc') (hv : Int64.ofNat (i : Nat) = v) (k : Y X G nL kc ks pc' lv (.long v :: st) h) : Y X G nL kc ks pc lv (st) h := by
  obtain ⟨hd, rfl⟩ := hd
  exact fun H locs ls a b c => lv_lconst C.1 C.2.1 hd hv (k H locs ls a b c)
theorem y_iload_n {i : Fin 4} {x : Int32} (C : qC X G cc nL own d) (hd : qd cc pc (.iload_n i) 1 pc') (hl : lv[(i : Nat)]? = some (some (.int x))) (k : Y X G nL kc ks pc' lv (.int x :: st) h) : Y X G nL kc ks pc lv (st) h := by
  obtain ⟨hd, rfl⟩ := hd
  exact fun H locs ls a b c => lv_iload_n C.1 C.2.1 hd rfl (qh_at c hl) (k H locs ls a b c)
theorem y_iload {i : Nat} {x : Int32} (C : qC X G cc nL own d) (hd : qd cc pc (.iload i) 2 pc') (hl : lv[i]? = some (some (.int x))) (k : Y X G nL kc ks pc' lv (.int x :: st) h) : Y X G nL kc ks pc lv (st) h := by
  obtain ⟨hd, rfl⟩ := hd
  exact fun H locs ls a b c => lv_iload C.1 C.2.1 hd (qh_at c hl) (k H locs ls a b c)
theorem y_lload_n {i : Fin 4} {x : Int64} (C : qC X G cc nL own d) (hd : qd cc pc (.lload_n i) 1 pc') (hl : lv[(i : Nat)]? = some (some (.long x))) (k : Y X G nL kc ks pc' lv (.long x :: st) h) : Y X G nL kc ks pc lv (st) h := by
  obtain ⟨hd, rfl⟩ := hd
  exact fun H locs ls a b c => lv_lload_n C.1 C.2.1 hd rfl (qh_at c hl) (k H locs ls a b c)
theorem y_lload {i : Nat} {x : Int64} (C : qC X G cc nL own d) (hd : qd cc pc (.lload i) 2 pc') (hl : lv[i]? = some (some (.long x))) (k : Y X G nL kc ks pc' lv (.long x :: st) h) : Y X G nL kc ks pc lv (st) h := by
  obtain ⟨hd, rfl⟩ := hd
  exact fun H locs ls a b c => lv_lload C.1 C.2.1 hd (qh_at c hl) (k H locs ls a b c)
theorem y_aload_n {i : Fin 4} {x : Nat} (C : qC X G cc nL own d) (hd : qd cc pc (.aload_n i) 1 pc') (hl : lv[(i : Nat)]? = some (some (.ref x))) (k : Y X G nL kc ks pc' lv (.ref x :: st) h) : Y X G nL kc ks pc lv (st) h := by
  obtain ⟨hd, rfl⟩ := hd
  exact fun H locs ls a b c => lv_aload_n C.1 C.2.1 hd rfl (qh_at c hl) (k H locs ls a b c)
theorem y_aload {i : Nat} {x : Nat} (C : qC X G cc nL own d) (hd : qd cc pc (.aload i) 2 pc') (hl : lv[i]? = some (some (.ref x))) (k : Y X G nL kc ks pc' lv (.ref x :: st) h) : Y X G nL kc ks pc lv (st) h := by
  obtain ⟨hd, rfl⟩ := hd
  exact fun H locs ls a b c => lv_aload C.1 C.2.1 hd (qh_at c hl) (k H locs ls a b c)
theorem y_istore {i : Nat} {x : Int32} (C : qC X G cc nL own d) (hd : qd cc pc (.istore i) 2 pc') (hn : i < nL) (ho : qok lv i) (k : Y X G nL kc ks pc' (lv.set i (some (.int x))) st h) : Y X G nL kc ks pc lv (.int x :: st) h := by
  obtain ⟨hd, rfl⟩ := hd
  exact fun H locs ls a b c => lv_istore C.1 C.2.1 hd c hn rfl (fun ls' c' => k H locs ls' a b (qh_s1 (ls := ls) ho c'))
theorem y_istore_n {i : Fin 4} {x : Int32} (C : qC X G cc nL own d) (hd : qd cc pc (.istore_n i) 1 pc') (hn : (i : Nat) < nL) (ho : qok lv (i : Nat)) (k : Y X G nL kc ks pc' (lv.set (i : Nat) (some (.int x))) st h) : Y X G nL kc ks pc lv (.int x :: st) h := by
  obtain ⟨hd, rfl⟩ := hd
  exact fun H locs ls a b c => lv_istore_n C.1 C.2.1 hd rfl c hn rfl (fun ls' c' => k H locs ls' a b (qh_s1 (ls := ls) ho c'))
theorem y_astore {i : Nat} {x : Nat} (C : qC X G cc nL own d) (hd : qd cc pc (.astore i) 2 pc') (hn : i < nL) (ho : qok lv i) (k : Y X G nL kc ks pc' (lv.set i (some (.ref x))) st h) : Y X G nL kc ks pc lv (.ref x :: st) h := by
  obtain ⟨hd, rfl⟩ := hd
  exact fun H locs ls a b c => lv_astore C.1 C.2.1 hd c hn rfl (fun ls' c' => k H locs ls' a b (qh_s1 (ls := ls) ho c'))
theorem y_astore_n {i : Fin 4} {x : Nat} (C : qC X G cc nL own d) (hd : qd cc pc (.astore_n i) 1 pc') (hn : (i : Nat) < nL) (ho : qok lv (i : Nat)) (k : Y X G nL kc ks pc' (lv.set (i : Nat) (some (.ref x))) st h) : Y X G nL kc ks pc lv (.ref x :: st) h := by
  obtain ⟨hd, rfl⟩ := hd
  exact fun H locs ls a b c => lv_astore_n C.1 C.2.1 hd rfl c hn rfl (fun ls' c' => k H locs ls' a b (qh_s1 (ls := ls) ho c'))
theorem y_lstore {i : Nat} {x : Int64} (C : qC X G cc nL own d) (hd : qd cc pc (.lstore i) 2 pc') (hn : i + 1 < nL) (ho : qok lv i) (k : Y X G nL kc ks pc' ((lv.set i (some (.long x))).set (i + 1) none) st h) : Y X G nL kc ks pc lv (.long x :: st) h := by
  obtain ⟨hd, rfl⟩ := hd
  exact fun H locs ls a b c => lv_lstore C.1 C.2.1 hd c hn rfl (fun ls' c' => k H locs ls' a b (qh_s2 (ls := ls) ho c'))
theorem y_lstore_n {i : Fin 4} {x : Int64} (C : qC X G cc nL own d) (hd : qd cc pc (.lstore_n i) 1 pc') (hn : (i : Nat) + 1 < nL) (ho : qok lv (i : Nat)) (k : Y X G nL kc ks pc' ((lv.set (i : Nat) (some (.long x))).set ((i : Nat) + 1) none) st h) : Y X G nL kc ks pc lv (.long x :: st) h := by
  obtain ⟨hd, rfl⟩ := hd
  exact fun H locs ls a b c => lv_lstore_n C.1 C.2.1 hd rfl c hn rfl (fun ls' c' => k H locs ls' a b (qh_s2 (ls := ls) ho c'))
theorem qlv_idx {lv : List (Option Value)} {i : Nat} {v : Value} (h : lv[i]? = some (some v)) : ∃ k : Nat, (qlv 0 lv)[k]? = some (i, v) := by
  have := qlv_mem lv 0 i v h
  rw [Nat.zero_add] at this
  exact List.getElem?_of_mem this
theorem y_iinc {i : Nat} {n : Int} {x v : Int32} (C : qC X G cc nL own d) (hd : qd cc pc (.iinc i n) 3 pc') (hl : lv[i]? = some (some (.int x))) (hv : x + Int32.ofInt n = v) (hn : i < nL) (ho : qok lv i) (k : Y X G nL kc ks pc' (lv.set i (some (.int v))) st h) : Y X G nL kc ks pc lv st h := by
  obtain ⟨hd, rfl⟩ := hd
  obtain ⟨kk, hk⟩ := qlv_idx hl
  exact fun H locs ls a b c => lv_iinc C.1 C.2.1 hd c hk hv hn rfl (fun ls' c' => k H locs ls' a b (qh_s1 (ls := ls) ho c'))
theorem y_iadd {x y : Int32} (C : qC X G cc nL own d) (hd : qd cc pc (.iadd) 1 pc') (k : Y X G nL kc ks pc' lv (.int (x + y) :: st) h) : Y X G nL kc ks pc lv (.int y :: .int x :: st) h := by
  obtain ⟨hd, rfl⟩ := hd
  exact fun H locs ls a b c => lv_iadd C.1 C.2.1 hd (k H locs ls a b c)
theorem y_isub {x y : Int32} (C : qC X G cc nL own d) (hd : qd cc pc (.isub) 1 pc') (k : Y X G nL kc ks pc' lv (.int (x - y) :: st) h) : Y X G nL kc ks pc lv (.int y :: .int x :: st) h := by
  obtain ⟨hd, rfl⟩ := hd
  exact fun H locs ls a b c => lv_isub C.1 C.2.1 hd (k H locs ls a b c)
theorem y_imul {x y : Int32} (C : qC X G cc nL own d) (hd : qd cc pc (.imul) 1 pc') (k : Y X G nL kc ks pc' lv (.int (x * y) :: st) h) : Y X G nL kc ks pc lv (.int y :: .int x :: st) h := by
  obtain ⟨hd, rfl⟩ := hd
  exact fun H locs ls a b c => lv_imul C.1 C.2.1 hd (k H locs ls a b c)
theorem y_iand {x y : Int32} (C : qC X G cc nL own d) (hd : qd cc pc (.iand) 1 pc') (k : Y X G nL kc ks pc' lv (.int (x &&& y) :: st) h) : Y X G nL kc ks pc lv (.int y :: .int x :: st) h := by
  obtain ⟨hd, rfl⟩ := hd
  exact fun H locs ls a b c => lv_iand C.1 C.2.1 hd (k H locs ls a b c)
theorem y_ior {x y : Int32} (C : qC X G cc nL own d) (hd : qd cc pc (.ior) 1 pc') (k : Y X G nL kc ks pc' lv (.int (x ||| y) :: st) h) : Y X G nL kc ks pc lv (.int y :: .int x :: st) h := by
  obtain ⟨hd, rfl⟩ := hd
  exact fun H locs ls a b c => lv_ior C.1 C.2.1 hd (k H locs ls a b c)
theorem y_ixor {x y : Int32} (C : qC X G cc nL own d) (hd : qd cc pc (.ixor) 1 pc') (k : Y X G nL kc ks pc' lv (.int (x ^^^ y) :: st) h) : Y X G nL kc ks pc lv (.int y :: .int x :: st) h := by
  obtain ⟨hd, rfl⟩ := hd
  exact fun H locs ls a b c => lv_ixor C.1 C.2.1 hd (k H locs ls a b c)
theorem y_ishl {x y : Int32} (C : qC X G cc nL own d) (hd : qd cc pc (.ishl) 1 pc') (k : Y X G nL kc ks pc' lv (.int (x <<< (y &&& 31)) :: st) h) : Y X G nL kc ks pc lv (.int y :: .int x :: st) h := by
  obtain ⟨hd, rfl⟩ := hd
  exact fun H locs ls a b c => lv_ishl C.1 C.2.1 hd (k H locs ls a b c)
theorem y_ishr {x y : Int32} (C : qC X G cc nL own d) (hd : qd cc pc (.ishr) 1 pc') (k : Y X G nL kc ks pc' lv (.int (x >>> (y &&& 31)) :: st) h) : Y X G nL kc ks pc lv (.int y :: .int x :: st) h := by
  obtain ⟨hd, rfl⟩ := hd
  exact fun H locs ls a b c => lv_ishr C.1 C.2.1 hd (k H locs ls a b c)
theorem y_iushr {x y : Int32} (C : qC X G cc nL own d) (hd : qd cc pc (.iushr) 1 pc') (k : Y X G nL kc ks pc' lv (.int ((x.toUInt32 >>> (y.toUInt32 &&& Int32.toUInt32 31)).toInt32) :: st) h) : Y X G nL kc ks pc lv (.int y :: .int x :: st) h := by
  obtain ⟨hd, rfl⟩ := hd
  exact fun H locs ls a b c => lv_iushr C.1 C.2.1 hd rfl (k H locs ls a b c)
theorem y_idiv {x y : Int32} (C : qC X G cc nL own d) (hd : qd cc pc (.idiv) 1 pc') (hne : ¬ y = 0) (k : Y X G nL kc ks pc' lv (.int (x / y) :: st) h) : Y X G nL kc ks pc lv (.int y :: .int x :: st) h := by
  obtain ⟨hd, rfl⟩ := hd
  exact fun H locs ls a b c => lv_idiv C.1 C.2.1 hd hne (k H locs ls a b c)
theorem y_irem {x y : Int32} (C : qC X G cc nL own d) (hd : qd cc pc (.irem) 1 pc') (hne : ¬ y = 0) (k : Y X G nL kc ks pc' lv (.int (x - x / y * y) :: st) h) : Y X G nL kc ks pc lv (.int y :: .int x :: st) h := by
  obtain ⟨hd, rfl⟩ := hd
  exact fun H locs ls a b c => lv_irem C.1 C.2.1 hd hne (k H locs ls a b c)
theorem y_ineg {x : Int32} (C : qC X G cc nL own d) (hd : qd cc pc (.ineg) 1 pc') (k : Y X G nL kc ks pc' lv (.int (-x) :: st) h) : Y X G nL kc ks pc lv (.int x :: st) h := by
  obtain ⟨hd, rfl⟩ := hd
  exact fun H locs ls a b c => lv_ineg C.1 C.2.1 hd (k H locs ls a b c)
theorem y_ladd {x y : Int64} (C : qC X G cc nL own d) (hd : qd cc pc (.ladd) 1 pc') (k : Y X G nL kc ks pc' lv (.long (x + y) :: st) h) : Y X G nL kc ks pc lv (.long y :: .long x :: st) h := by
  obtain ⟨hd, rfl⟩ := hd
  exact fun H locs ls a b c => lv_ladd C.1 C.2.1 hd (k H locs ls a b c)
theorem y_lsub {x y : Int64} (C : qC X G cc nL own d) (hd : qd cc pc (.lsub) 1 pc') (k : Y X G nL kc ks pc' lv (.long (x - y) :: st) h) : Y X G nL kc ks pc lv (.long y :: .long x :: st) h := by
  obtain ⟨hd, rfl⟩ := hd
  exact fun H locs ls a b c => lv_lsub C.1 C.2.1 hd (k H locs ls a b c)
theorem y_lmul {x y : Int64} (C : qC X G cc nL own d) (hd : qd cc pc (.lmul) 1 pc') (k : Y X G nL kc ks pc' lv (.long (x * y) :: st) h) : Y X G nL kc ks pc lv (.long y :: .long x :: st) h := by
  obtain ⟨hd, rfl⟩ := hd
  exact fun H locs ls a b c => lv_lmul C.1 C.2.1 hd (k H locs ls a b c)
theorem y_ldiv {x y : Int64} (C : qC X G cc nL own d) (hd : qd cc pc (.ldiv) 1 pc') (hne : ¬ y = 0) (k : Y X G nL kc ks pc' lv (.long (x / y) :: st) h) : Y X G nL kc ks pc lv (.long y :: .long x :: st) h := by
  obtain ⟨hd, rfl⟩ := hd
  exact fun H locs ls a b c => lv_ldiv C.1 C.2.1 hd hne (k H locs ls a b c)
theorem y_lrem {x y : Int64} (C : qC X G cc nL own d) (hd : qd cc pc (.lrem) 1 pc') (hne : ¬ y = 0) (k : Y X G nL kc ks pc' lv (.long (x - x / y * y) :: st) h) : Y X G nL kc ks pc lv (.long y :: .long x :: st) h := by
  obtain ⟨hd, rfl⟩ := hd
  exact fun H locs ls a b c => lv_lrem C.1 C.2.1 hd hne (k H locs ls a b c)
theorem y_i2l {x : Int32} (C : qC X G cc nL own d) (hd : qd cc pc (.i2l) 1 pc') (k : Y X G nL kc ks pc' lv (.long x.toInt64 :: st) h) : Y X G nL kc ks pc lv (.int x :: st) h := by
  obtain ⟨hd, rfl⟩ := hd
  exact fun H locs ls a b c => lv_i2l C.1 C.2.1 hd rfl (k H locs ls a b c)
theorem y_l2i {x : Int64} (C : qC X G cc nL own d) (hd : qd cc pc (.l2i) 1 pc') (k : Y X G nL kc ks pc' lv (.int x.toInt32 :: st) h) : Y X G nL kc ks pc lv (.long x :: st) h := by
  obtain ⟨hd, rfl⟩ := hd
  exact fun H locs ls a b c => lv_l2i C.1 C.2.1 hd rfl (k H locs ls a b c)
theorem y_i2b {x : Int32} (C : qC X G cc nL own d) (hd : qd cc pc (.i2b) 1 pc') (k : Y X G nL kc ks pc' lv (.int x.toInt8.toInt32 :: st) h) : Y X G nL kc ks pc lv (.int x :: st) h := by
  obtain ⟨hd, rfl⟩ := hd
  exact fun H locs ls a b c => lv_i2b C.1 C.2.1 hd rfl (k H locs ls a b c)
theorem y_i2s {x : Int32} (C : qC X G cc nL own d) (hd : qd cc pc (.i2s) 1 pc') (k : Y X G nL kc ks pc' lv (.int x.toInt16.toInt32 :: st) h) : Y X G nL kc ks pc lv (.int x :: st) h := by
  obtain ⟨hd, rfl⟩ := hd
  exact fun H locs ls a b c => lv_i2s C.1 C.2.1 hd rfl (k H locs ls a b c)
theorem y_dup {va : Value} (C : qC X G cc nL own d) (hd : qd cc pc (.dup) 1 pc') (hva : va.category = 1) (k : Y X G nL kc ks pc' lv (va :: va :: st) h) : Y X G nL kc ks pc lv (va :: st) h := by
  obtain ⟨hd, rfl⟩ := hd
  exact fun H locs ls a b c => lv_dup C.1 C.2.1 hd hva (k H locs ls a b c)
theorem y_pop {va : Value} (C : qC X G cc nL own d) (hd : qd cc pc (.pop) 1 pc') (hva : va.category = 1) (k : Y X G nL kc ks pc' lv (st) h) : Y X G nL kc ks pc lv (va :: st) h := by
  obtain ⟨hd, rfl⟩ := hd
  exact fun H locs ls a b c => lv_pop C.1 C.2.1 hd hva (k H locs ls a b c)
theorem y_dup2 {va vb : Value} (C : qC X G cc nL own d) (hd : qd cc pc (.dup2) 1 pc') (hva : va.category = 1) (hvb : vb.category = 1) (k : Y X G nL kc ks pc' lv (va :: vb :: va :: vb :: st) h) : Y X G nL kc ks pc lv (va :: vb :: st) h := by
  obtain ⟨hd, rfl⟩ := hd
  exact fun H locs ls a b c => lv_dup2_11 C.1 C.2.1 hd hva hvb (k H locs ls a b c)
def qj (cc : ByteArray) (pc : Nat) (i : Instr) (off : Int) (pc' tgt : Nat) : Prop := decode cc pc = .ok (i, 3) ∧ pc + 3 = pc' ∧ (pc : Int) + off = (tgt : Int)
theorem y_if_eq {x : Int32} {off : Int} {tgt : Nat} {P : Prop} (C : qC X G cc nL own d) (hd : qj cc pc (.ifCond .eq off) off pc' tgt) (hP : x = 0 ↔ P) (kt : P → Y X G nL kc ks tgt lv st h) (kf : ¬ P → Y X G nL kc ks pc' lv st h) : Y X G nL kc ks pc lv (.int x :: st) h := by
  obtain ⟨hd, rfl, ht⟩ := hd
  exact fun H locs ls a b c => lv_if_eq C.1 C.2.1 hd ht (fun q => kt (hP.mp q) H locs ls a b c) (fun q => kf (fun z => q (hP.mpr z)) H locs ls a b c)
theorem y_icmp_eq {x y : Int32} {off : Int} {tgt : Nat} {P : Prop} (C : qC X G cc nL own d) (hd : qj cc pc (.if_icmp .eq off) off pc' tgt) (hP : x = y ↔ P) (kt : P → Y X G nL kc ks tgt lv st h) (kf : ¬ P → Y X G nL kc ks pc' lv st h) : Y X G nL kc ks pc lv (.int y :: .int x :: st) h := by
  obtain ⟨hd, rfl, ht⟩ := hd
  exact fun H locs ls a b c => lv_icmp_eq C.1 C.2.1 hd ht (fun q => kt (hP.mp q) H locs ls a b c) (fun q => kf (fun z => q (hP.mpr z)) H locs ls a b c)
theorem y_if_ne {x : Int32} {off : Int} {tgt : Nat} {P : Prop} (C : qC X G cc nL own d) (hd : qj cc pc (.ifCond .ne off) off pc' tgt) (hP : x = 0 ↔ P) (kt : ¬ P → Y X G nL kc ks tgt lv st h) (kf : P → Y X G nL kc ks pc' lv st h) : Y X G nL kc ks pc lv (.int x :: st) h := by
  obtain ⟨hd, rfl, ht⟩ := hd
  exact fun H locs ls a b c => lv_if_ne C.1 C.2.1 hd ht (fun q => kt (fun z => q (hP.mpr z)) H locs ls a b c) (fun q => kf (hP.mp q) H locs ls a b c)
theorem y_icmp_ne {x y : Int32} {off : Int} {tgt : Nat} {P : Prop} (C : qC X G cc nL own d) (hd : qj cc pc (.if_icmp .ne off) off pc' tgt) (hP : x = y ↔ P) (kt : ¬ P → Y X G nL kc ks tgt lv st h) (kf : P → Y X G nL kc ks pc' lv st h) : Y X G nL kc ks pc lv (.int y :: .int x :: st) h := by
  obtain ⟨hd, rfl, ht⟩ := hd
  exact fun H locs ls a b c => lv_icmp_ne C.1 C.2.1 hd ht (fun q => kt (fun z => q (hP.mpr z)) H locs ls a b c) (fun q => kf (hP.mp q) H locs ls a b c)
theorem y_if_lt {x : Int32} {off : Int} {tgt : Nat} {P : Prop} (C : qC X G cc nL own d) (hd : qj cc pc (.ifCond .lt off) off pc' tgt) (hP : x < 0 ↔ P) (kt : P → Y X G nL kc ks tgt lv st h) (kf : ¬ P → Y X G nL kc ks pc' lv st h) : Y X G nL kc ks pc lv (.int x :: st) h := by
  obtain ⟨hd, rfl, ht⟩ := hd
  exact fun H locs ls a b c => lv_if_lt C.1 C.2.1 hd ht (fun q => kt (hP.mp q) H locs ls a b c) (fun q => kf (fun z => q (hP.mpr z)) H locs ls a b c)
theorem y_icmp_lt {x y : Int32} {off : Int} {tgt : Nat} {P : Prop} (C : qC X G cc nL own d) (hd : qj cc pc (.if_icmp .lt off) off pc' tgt) (hP : x < y ↔ P) (kt : P → Y X G nL kc ks tgt lv st h) (kf : ¬ P → Y X G nL kc ks pc' lv st h) : Y X G nL kc ks pc lv (.int y :: .int x :: st) h := by
  obtain ⟨hd, rfl, ht⟩ := hd
  exact fun H locs ls a b c => lv_icmp_lt C.1 C.2.1 hd ht (fun q => kt (hP.mp q) H locs ls a b c) (fun q => kf (fun z => q (hP.mpr z)) H locs ls a b c)
theorem y_if_ge {x : Int32} {off : Int} {tgt : Nat} {P : Prop} (C : qC X G cc nL own d) (hd : qj cc pc (.ifCond .ge off) off pc' tgt) (hP : 0 ≤ x ↔ P) (kt : P → Y X G nL kc ks tgt lv st h) (kf : ¬ P → Y X G nL kc ks pc' lv st h) : Y X G nL kc ks pc lv (.int x :: st) h := by
  obtain ⟨hd, rfl, ht⟩ := hd
  exact fun H locs ls a b c => lv_if_ge C.1 C.2.1 hd ht (fun q => kt (hP.mp q) H locs ls a b c) (fun q => kf (fun z => q (hP.mpr z)) H locs ls a b c)
theorem y_icmp_ge {x y : Int32} {off : Int} {tgt : Nat} {P : Prop} (C : qC X G cc nL own d) (hd : qj cc pc (.if_icmp .ge off) off pc' tgt) (hP : y ≤ x ↔ P) (kt : P → Y X G nL kc ks tgt lv st h) (kf : ¬ P → Y X G nL kc ks pc' lv st h) : Y X G nL kc ks pc lv (.int y :: .int x :: st) h := by
  obtain ⟨hd, rfl, ht⟩ := hd
  exact fun H locs ls a b c => lv_icmp_ge C.1 C.2.1 hd ht (fun q => kt (hP.mp q) H locs ls a b c) (fun q => kf (fun z => q (hP.mpr z)) H locs ls a b c)
theorem y_if_gt {x : Int32} {off : Int} {tgt : Nat} {P : Prop} (C : qC X G cc nL own d) (hd : qj cc pc (.ifCond .gt off) off pc' tgt) (hP : 0 < x ↔ P) (kt : P → Y X G nL kc ks tgt lv st h) (kf : ¬ P → Y X G nL kc ks pc' lv st h) : Y X G nL kc ks pc lv (.int x :: st) h := by
  obtain ⟨hd, rfl, ht⟩ := hd
  exact fun H locs ls a b c => lv_if_gt C.1 C.2.1 hd ht (fun q => kt (hP.mp q) H locs ls a b c) (fun q => kf (fun z => q (hP.mpr z)) H locs ls a b c)
theorem y_icmp_gt {x y : Int32} {off : Int} {tgt : Nat} {P : Prop} (C : qC X G cc nL own d) (hd : qj cc pc (.if_icmp .gt off) off pc' tgt) (hP : y < x ↔ P) (kt : P → Y X G nL kc ks tgt lv st h) (kf : ¬ P → Y X G nL kc ks pc' lv st h) : Y X G nL kc ks pc lv (.int y :: .int x :: st) h := by
  obtain ⟨hd, rfl, ht⟩ := hd
  exact fun H locs ls a b c => lv_icmp_gt C.1 C.2.1 hd ht (fun q => kt (hP.mp q) H locs ls a b c) (fun q => kf (fun z => q (hP.mpr z)) H locs ls a b c)
theorem y_if_le {x : Int32} {off : Int} {tgt : Nat} {P : Prop} (C : qC X G cc nL own d) (hd : qj cc pc (.ifCond .le off) off pc' tgt) (hP : x ≤ 0 ↔ P) (kt : P → Y X G nL kc ks tgt lv st h) (kf : ¬ P → Y X G nL kc ks pc' lv st h) : Y X G nL kc ks pc lv (.int x :: st) h := by
  obtain ⟨hd, rfl, ht⟩ := hd
  exact fun H locs ls a b c => lv_if_le C.1 C.2.1 hd ht (fun q => kt (hP.mp q) H locs ls a b c) (fun q => kf (fun z => q (hP.mpr z)) H locs ls a b c)
theorem y_icmp_le {x y : Int32} {off : Int} {tgt : Nat} {P : Prop} (C : qC X G cc nL own d) (hd : qj cc pc (.if_icmp .le off) off pc' tgt) (hP : x ≤ y ↔ P) (kt : P → Y X G nL kc ks tgt lv st h) (kf : ¬ P → Y X G nL kc ks pc' lv st h) : Y X G nL kc ks pc lv (.int y :: .int x :: st) h := by
  obtain ⟨hd, rfl, ht⟩ := hd
  exact fun H locs ls a b c => lv_icmp_le C.1 C.2.1 hd ht (fun q => kt (hP.mp q) H locs ls a b c) (fun q => kf (fun z => q (hP.mpr z)) H locs ls a b c)
theorem y_goto {off : Int} {tgt : Nat} (C : qC X G cc nL own d) (hd : qj cc pc (.goto off) off pc' tgt) (k : Y X G nL kc ks tgt lv st h) : Y X G nL kc ks pc lv st h := by
  obtain ⟨hd, rfl, ht⟩ := hd
  exact fun H locs ls a b c => lv_goto C.1 C.2.1 hd ht (k H locs ls a b c)
theorem y_lookup {dflt off : Int} {ps : Array (Int × Int)} {len tgt : Nat} {x : Int32} (C : qC X G cc nL own d) (hd : qd cc pc (.lookupswitch dflt ps) len pc') (hp : (ps.toList.zip (ps.toList.drop 1)).all (fun (a, next) => a.1 < next.1) = true) (ho : Op.lookupswitch.offset ps.toList dflt x.toInt = off) (ht : (pc : Int) + off = (tgt : Int)) (k : Y X G nL kc ks tgt lv st h) : Y X G nL kc ks pc lv (.int x :: st) h :=
  fun H locs ls a b c => lv_lookup C.1 C.2.1 hd.1 hp ho ht (k H locs ls a b c)
theorem y_tabOut {dflt lo hi : Int} {offs : Array Int} {len tgt : Nat} {x : Int32} (C : qC X G cc nL own d) (hd : qd cc pc (.tableswitch dflt lo hi offs) len pc') (hx : x.toInt < lo ∨ hi < x.toInt) (ht : (pc : Int) + dflt = (tgt : Int)) (k : Y X G nL kc ks tgt lv st h) : Y X G nL kc ks pc lv (.int x :: st) h :=
  fun H locs ls a b c => lv_tableOut C.1 C.2.1 hd.1 hx ht (k H locs ls a b c)
theorem y_tabIn {dflt lo hi off : Int} {offs : Array Int} {len tgt : Nat} {x : Int32} (C : qC X G cc nL own d) (hd : qd cc pc (.tableswitch dflt lo hi offs) len pc') (h1 : ¬ x.toInt < lo) (h2 : ¬ hi < x.toInt) (ho : offs[(x.toInt - lo).toNat]? = some off) (ht : (pc : Int) + off = (tgt : Int)) (k : Y X G nL kc ks tgt lv st h) : Y X G nL kc ks pc lv (.int x :: st) h :=
  fun H locs ls a b c => lv_tableIn C.1 C.2.1 hd.1 h1 h2 ho ht (k H locs ls a b c)
theorem y_lcmp {x y : Int64} (C : qC X G cc nL own d) (hd : qd cc pc (.lcmp) 1 pc') (k : Y X G nL kc ks pc' lv (.int (lg_cmp x y) :: st) h) : Y X G nL kc ks pc lv (.long y :: .long x :: st) h := by
  obtain ⟨hd, rfl⟩ := hd
  exact fun H locs ls a b c => W.lcmp C.1 C.2.1 hd (k H locs ls a b c)
theorem y_ldc {idx : Nat} {v : Int32} (C : qC X G cc nL own d) (hd : qd cc pc (.ldc idx) 2 pc') (hw : Cond.constant own idx v ∈ lwg) (k : Y X G nL kc ks pc' lv (.int v :: st) h) : Y X G nL kc ks pc lv st h := by
  obtain ⟨hd, rfl⟩ := hd
  exact fun H locs ls a b c => lv_ldc C.1 C.2.1 C.2.2.2.1 (C.2.2.2.2.1 _ hw) hd (k H locs ls a b c)
theorem y_ldcw {idx : Nat} {v : Int32} (C : qC X G cc nL own d) (hd : qd cc pc (.ldc_w idx) 3 pc') (hw : Cond.constant own idx v ∈ lwg) (k : Y X G nL kc ks pc' lv (.int v :: st) h) : Y X G nL kc ks pc lv st h := by
  obtain ⟨hd, rfl⟩ := hd
  exact fun H locs ls a b c => lv_ldcw C.1 C.2.1 C.2.2.2.1 (C.2.2.2.2.1 _ hw) hd (k H locs ls a b c)
theorem y_ldc2 {idx : Nat} {v : Int64} (C : qC X G cc nL own d) (hd : qd cc pc (.ldc2_w idx) 3 pc') (hw : Cond.constantLong own idx v ∈ lwg) (k : Y X G nL kc ks pc' lv (.long v :: st) h) : Y X G nL kc ks pc lv st h := by
  obtain ⟨hd, rfl⟩ := hd
  exact fun H locs ls a b c => lv_ldc2 C.1 C.2.1 C.2.2.2.1 (C.2.2.2.2.1 _ hw) hd (k H locs ls a b c)
/-- a field's link: entry idx of own's pool is field k of the class ci -/
def qfl (own : String) (idx ci k : Nat) (ty : FieldType) (fin : Bool) : Prop := ∃ (D : String) (T : u_T) (N : Nat) (ty0 : Nat → FieldType), vwCl[ci]? = some (D, T, N) ∧ k < N ∧ (∀ w ∈ u_ws D T N, w ∈ lwg) ∧ (∀ k, k < N → parseFieldDescriptor (T k).2.2.1 = some (ty0 k)) ∧ (∀ a, a < N → ∀ b, b < N → a ≠ b → (T a).2.1 ≠ (T b).2.1) ∧ Cond.fieldLink own idx (T k).1 (T k).2.1 (T k).2.2.1 ∈ lwg ∧ parseFieldDescriptor (T k).2.2.1 = some ty ∧ (T k).2.2.2 = fin ∧ (T k).1 = D
theorem y_get {idx a ci k : Nat} {fs : List Value} {v : Value} {ty : FieldType} {fin : Bool} (C : qC X G cc nL own d) (hd : qd cc pc (.getfield idx) 3 pc') (hf : qfl own idx ci k ty fin) (hl : h[a]? = some (.inr (ci, fs))) (hv : fs[k]? = some v) (kk : Y X G nL kc ks pc' lv (v :: st) h) : Y X G nL kc ks pc lv (qr G a :: st) h := by
  obtain ⟨hd, rfl⟩ := hd
  obtain ⟨D, T, N, ty0, f1, f2, f3, f4, f5, f6, f7, f8, f9⟩ := hf
  exact fun H locs ls a b c => va_get C.1 C.2.1 C.2.2.2.2.1 f3 C.2.2.2.1 C.2.2.2.2.2.2.2.1.1 a _ (qw_at hl) f1 k f2 (C.2.2.2.2.1 _ f6) (fun _ h => h) hv hd (kk H locs ls a b c)
theorem y_put {idx a ci k : Nat} {fs : List Value} {v : Value} {ty : FieldType} {h' : List va_E} (C : qC X G cc nL own d) (hd : qd cc pc (.putfield idx) 3 pc') (hf : qfl own idx ci k ty false) (hl : h[a]? = some (.inr (ci, fs))) (hk : k < fs.length) (hn : narrow ty v = v) (hfit : fits ty v = true) (hh : h.set a (.inr (ci, fs.set k v)) = h') (kk : Y X G nL kc ks pc' lv st h') : Y X G nL kc ks pc lv (v :: qr G a :: st) h := by
  obtain ⟨hd, rfl⟩ := hd
  subst hh
  obtain ⟨D, T, N, ty0, f1, f2, f3, f4, f5, f6, f7, f8, f9⟩ := hf
  intro H locs ls e b c
  exact va_put C.1 C.2.1 C.2.2.2.2.1 f3 ty0 f4 f5 C.2.2.2.1 C.2.2.2.2.2.2.2.1.1 e qw_D b _ (qw_at hl) f1 k f2 (C.2.2.2.2.1 _ f6) (fun _ h => h) f8 f7 hn hfit hk hd (fun H1 locs1 p1 p2 p3 => kk H1 locs1 ls (qH_set p1) p3 c)
theorem y_putF {idx a ci k : Nat} {fs : List Value} {v : Value} {ty : FieldType} {h' : List va_E} (C : qC X G cc nL own d) (hd : qd cc pc (.putfield idx) 3 pc') (hf : qfl own idx ci k ty true) (hnm : X.2.2.2.2.2.2.2.2.1.name = "<init>") (hcl : (vwCl[ci]?).map (·.1) = some own) (hl : h[a]? = some (.inr (ci, fs))) (hk : k < fs.length) (hn : narrow ty v = v) (hfit : fits ty v = true) (hh : h.set a (.inr (ci, fs.set k v)) = h') (kk : Y X G nL kc ks pc' lv st h') : Y X G nL kc ks pc lv (v :: qr G a :: st) h := by
  obtain ⟨hd, rfl⟩ := hd
  subst hh
  obtain ⟨D, T, N, ty0, f1, f2, f3, f4, f5, f6, f7, f8, f9⟩ := hf
  rw [f1] at hcl
  have hD : D = own := Option.some.inj hcl
  intro H locs ls e b c
  exact va_putF C.1 C.2.1 C.2.2.2.2.1 f3 ty0 f4 f5 C.2.2.2.1 C.2.2.2.2.2.2.2.1.1 e qw_D b _ (qw_at hl) f1 k f2 (C.2.2.2.2.1 _ f6) (fun _ h => h) f8 hnm (f9.trans hD) f7 hn hfit hk hd (fun H1 locs1 p1 p2 p3 => kk H1 locs1 ls (qH_set p1) p3 c)
theorem y_ild {a n : Nat} {f : Nat → Int32} {i : Int32} (C : qC X G cc nL own d) (hd : qd cc pc (.iaload) 1 pc') (hl : h[a]? = some (qI G n f)) (hin : vp_in i n) (kk : Y X G nL kc ks pc' lv (.int (f i.toNatClampNeg) :: st) h) : Y X G nL kc ks pc lv (.int i :: qr G a :: st) h := by
  obtain ⟨hd, rfl⟩ := hd
  exact fun H locs ls e b c => va_iald C.1 C.2.1 C.2.2.2.2.2.2.2.1.1 e _ 0 (qw_at hl) rfl hin hd (kk H locs ls e b c)
theorem y_zld {a n : Nat} {f : Nat → Int32} {i : Int32} (C : qC X G cc nL own d) (hd : qd cc pc (.baload) 1 pc') (hl : h[a]? = some (qZ G n f)) (hin : vp_in i n) (kk : Y X G nL kc ks pc' lv (.int (f i.toNatClampNeg) :: st) h) : Y X G nL kc ks pc lv (.int i :: qr G a :: st) h := by
  obtain ⟨hd, rfl⟩ := hd
  exact fun H locs ls e b c => va_zald C.1 C.2.1 C.2.2.2.2.2.2.2.1.1 e _ 1 (qw_at hl) rfl hin hd (kk H locs ls e b c)
theorem y_ist {a n : Nat} {f : Nat → Int32} {i x : Int32} {h' : List va_E} (C : qC X G cc nL own d) (hd : qd cc pc (.iastore) 1 pc') (hl : h[a]? = some (qI G n f)) (hin : vp_in i n) (hh : h.set a (qI G n (upd f i.toNatClampNeg x)) = h') (kk : Y X G nL kc ks pc' lv st h') : Y X G nL kc ks pc lv (.int x :: .int i :: qr G a :: st) h := by
  obtain ⟨hd, rfl⟩ := hd
  subst hh
  exact fun H locs ls e b c => va_iast C.1 C.2.1 C.2.2.2.2.2.2.2.1.1 e qw_D b _ 0 (qw_at hl) rfl hin hd (fun H1 locs1 p1 p2 p3 => kk H1 locs1 ls (qH_set p1) p3 c)
theorem y_zst {a n : Nat} {f : Nat → Int32} {i x : Int32} {h' : List va_E} (C : qC X G cc nL own d) (hd : qd cc pc (.bastore) 1 pc') (hl : h[a]? = some (qZ G n f)) (hin : vp_in i n) (hh : h.set a (qZ G n (upd f i.toNatClampNeg (vp_nar .boolean x))) = h') (kk : Y X G nL kc ks pc' lv st h') : Y X G nL kc ks pc lv (.int x :: .int i :: qr G a :: st) h := by
  obtain ⟨hd, rfl⟩ := hd
  subst hh
  exact fun H locs ls e b c => va_zast C.1 C.2.1 C.2.2.2.2.2.2.2.1.1 e qw_D b _ 1 (qw_at hl) rfl hin hd (fun H1 locs1 p1 p2 p3 => kk H1 locs1 ls (qH_set p1) p3 c)
theorem y_ald {a n t0 : Nat} {E : String} {cA : ClassId} {f : Nat → Option Nat} {i : Int32} {v : Value} (C : qC X G cc nL own d) (hd : qd cc pc (.aaload) 1 pc') (hl : h[a]? = some (.inl (cA, n, .inr (.inr (.inr (.inr f)))))) (ht : (qT G)[t0]? = some (cA, .object E)) (hin : vp_in i n) (hv : va_rf (f i.toNatClampNeg) = v) (kk : Y X G nL kc ks pc' lv (v :: st) h) : Y X G nL kc ks pc lv (.int i :: qr G a :: st) h := by
  obtain ⟨hd, rfl⟩ := hd
  subst hv
  exact fun H locs ls e b c => va_aldq C.1 C.2.1 C.2.2.2.2.2.2.2.1.1 e _ t0 (qw_at hl) ht hin hd (kk H locs ls e b c)
theorem y_ast {a n t0 v ci : Nat} {E : String} {T : u_T} {N : Nat} {cA : ClassId} {f : Nat → Option Nat} {i : Int32} {fs : List Value} {h' : List va_E} (C : qC X G cc nL own d) (hd : qd cc pc (.aastore) 1 pc') (hl : h[a]? = some (.inl (cA, n, .inr (.inr (.inr (.inr f)))))) (ht : (qT G)[t0]? = some (cA, .object E)) (hv : h[v]? = some (.inr (ci, fs))) (hc : vwCl[ci]? = some (E, T, N)) (hin : vp_in i n) (hh : h.set a (.inl (cA, n, .inr (.inr (.inr (.inr (va_up f i.toNatClampNeg (some (G.2 4 + v)))))))) = h') (kk : Y X G nL kc ks pc' lv st h') : Y X G nL kc ks pc lv (qr G v :: .int i :: qr G a :: st) h := by
  obtain ⟨hd, rfl⟩ := hd
  subst hh
  exact fun H locs ls e b c => va_astq C.1 C.2.1 C.2.2.2.2.2.2.2.1.1 e qw_D b _ t0 _ ci (qw_at hl) ht (qw_at hv) hc hin hd (fun H1 locs1 p1 p2 p3 => kk H1 locs1 ls (qH_set p1) p3 c)
theorem y_alen {a t0 : Nat} {cA : ClassId} {x : vp_A} {ty : FieldType} {v : Int32} (C : qC X G cc nL own d) (hd : qd cc pc (.arraylength) 1 pc') (hl : h[a]? = some (.inl (cA, x))) (ht : (qT G)[t0]? = some (cA, ty)) (hv : Int32.ofNat x.1 = v) (kk : Y X G nL kc ks pc' lv (.int v :: st) h) : Y X G nL kc ks pc lv (qr G a :: st) h := by
  obtain ⟨hd, rfl⟩ := hd
  exact fun H locs ls e b c => va_alen C.1 C.2.1 C.2.2.2.2.2.2.2.1.1 e _ t0 (qw_at hl) ht hv hd (kk H locs ls e b c)
theorem y_copy {idx a b n0 n1 : Nat} {f g : Nat → Int32} {sp dp n : Int32} {h' : List va_E} (C : qC X G cc nL own d) (hd : qd cc pc (.invokestatic idx) 3 pc') (hw : Cond.methodLink own idx arraycopyName ∈ lwg) (hl0 : h[a]? = some (qI G n0 f)) (hl1 : h[b]? = some (qI G n1 g)) (h1 : ¬ sp < 0) (h2 : ¬ dp < 0) (h3 : ¬ n < 0) (h4 : sp.toNatClampNeg + n.toNatClampNeg ≤ n0) (h5 : dp.toNatClampNeg + n.toNatClampNeg ≤ n1) (hdep : 1 ≤ d) (hst : (st.map fun v => v.category).sum ≤ 8) (hh : h.set b (qI G n1 (va_cpy f g sp.toNatClampNeg dp.toNatClampNeg n.toNatClampNeg)) = h') (kk : Y X G nL kc ks pc' lv st h') : Y X G nL kc ks pc lv (.int n :: .int dp :: qr G b :: .int sp :: qr G a :: st) h := by
  obtain ⟨hd, rfl⟩ := hd
  subst hh
  have hn : nativeFrameWords "java/lang/System" "arraycopy" 5 + 11 ≤ 32 := by decide +kernel
  exact fun H locs ls e b c => va_copyi C.1 C.2.1 (C.2.2.1.trans c.1.symm) C.2.2.2.1 (C.2.2.2.2.1 _ hw) (C.2.2.2.2.1 _ (by decide +kernel)) (C.2.2.2.2.1 _ (by decide +kernel)) (C.2.2.2.2.1 _ (by decide +kernel)) C.2.2.2.2.2.2.2.1.1 e qw_D b _ _ 0 0 (qw_at hl0) (qw_at hl1) rfl rfl rfl h1 h2 h3 h4 h5 (fun i _ => rfl) (Nat.le_trans hdep C.2.2.2.2.2.1) (Nat.le_trans (Nat.le_trans (Nat.add_le_add hst hn) (by omega)) C.2.2.2.2.2.2.1) hd (fun H1 locs1 p1 p2 p3 => kk H1 locs1 ls (qH_set p1) p3 c)
theorem y_tabS {idx : Nat} (C : qC X G cc nL own d) (hd : qd cc pc (.getstatic idx) 3 pc') (hw : Cond.fieldLink own idx "DreamGraves$Asker" "SIZE_BODIES" "[I" ∈ lwg) (kk : Y X G nL kc ks pc' lv (.ref (G.2 5) :: st) h) : Y X G nL kc ks pc lv st h := by
  obtain ⟨hd, rfl⟩ := hd
  exact fun H locs ls e b c => va_gets C.1 C.2.1 C.2.2.2.2.2.2.2.1.2.2.2.2.1 b C.2.2.2.1 (C.2.2.2.2.1 _ hw) (fun _ h => h) hd (kk H locs ls e b c)
theorem y_tabM {idx : Nat} (C : qC X G cc nL own d) (hd : qd cc pc (.getstatic idx) 3 pc') (hw : Cond.fieldLink own idx "DreamGraves$Asker" "MARK_BODIES" "[I" ∈ lwg) (kk : Y X G nL kc ks pc' lv (.ref (G.2 6) :: st) h) : Y X G nL kc ks pc lv st h := by
  obtain ⟨hd, rfl⟩ := hd
  exact fun H locs ls e b c => va_gets C.1 C.2.1 C.2.2.2.2.2.2.2.1.2.2.2.2.2.2.1 b C.2.2.2.1 (C.2.2.2.2.1 _ hw) (fun _ h => h) hd (kk H locs ls e b c)
theorem y_tldS {i : Int32} {v : Value} (C : qC X G cc nL own d) (hd : qd cc pc (.iaload) 1 pc') (hin : vp_in i 6) (hv : qtS i.toNatClampNeg = v) (kk : Y X G nL kc ks pc' lv (v :: st) h) : Y X G nL kc ks pc lv (.int i :: .ref (G.2 5) :: st) h := by
  obtain ⟨hd, rfl⟩ := hd
  exact fun H locs ls e b c => va_ti C.1 C.2.1 C.2.2.2.2.2.2.2.1.2.2.2.2.2.1 b hin hv hd (kk H locs ls e b c)
theorem y_tldM {i : Int32} {v : Value} (C : qC X G cc nL own d) (hd : qd cc pc (.iaload) 1 pc') (hin : vp_in i 6) (hv : qtM i.toNatClampNeg = v) (kk : Y X G nL kc ks pc' lv (v :: st) h) : Y X G nL kc ks pc lv (.int i :: .ref (G.2 6) :: st) h := by
  obtain ⟨hd, rfl⟩ := hd
  exact fun H locs ls e b c => va_ti C.1 C.2.1 C.2.2.2.2.2.2.2.1.2.2.2.2.2.2.2 b hin hv hd (kk H locs ls e b c)
theorem q_end {H : Heap} {locs : List Loc} {r : Option Value} {h' : List va_E} (C : qC X G cc nL own d) (e : qH G h H) (b : va_S (qA G) X.2.2.2.2.1.heap H locs) (hh : h = h') : ∀ t : State, t.heap = H → X.2.2.2.2.1.WarmedH t.vm → qQ G r h' X.2.2.2.2.2.2.1 X.2.2.2.2.1 (.returned r) t := by
  intro t ht hW
  subst hh
  refine ⟨rfl, ⟨by rw [ht]; exact e, ?_⟩, b.F ht⟩
  rw [ht]
  exact qF_moved hW (fun a h1 h2 => b.2.1 a h1 h2) C.2.2.2.2.2.2.2.1
theorem y_iret {r : Option Value} {h' : List va_E} {v : Int32} (C : qC X G cc nL own d) (E : qE X G (some .int) kc ks r h') (hd : qd cc pc (.ireturn) 1 pc') (hr : some (.int v) = r) (hh : h = h') : Y X G nL kc ks pc lv [.int v] h := by
  obtain ⟨E1, E2⟩ := E
  subst hr
  intro H locs ls e b c
  rw [E1]
  exact W.iret C.1 C.2.1 E2 (q_end C e b hh) b.2.2 hd.1 C.2.2.2.2.2.2.2.2.2
theorem y_zret {r : Option Value} {h' : List va_E} {v : Int32} (C : qC X G cc nL own d) (E : qE X G (some .boolean) kc ks r h') (hd : qd cc pc (.ireturn) 1 pc') (hn : narrow .boolean (.int v) = .int v) (hr : some (.int v) = r) (hh : h = h') : Y X G nL kc ks pc lv [.int v] h := by
  obtain ⟨E1, E2⟩ := E
  subst hr
  intro H locs ls e b c
  rw [E1]
  exact W.zret C.1 C.2.1 E2 hn (q_end C e b hh) b.2.2 hd.1 C.2.2.2.2.2.2.2.2.2
theorem y_lret {r : Option Value} {h' : List va_E} {v : Int64} (C : qC X G cc nL own d) (E : qE X G (some .long) kc ks r h') (hd : qd cc pc (.lreturn) 1 pc') (hr : some (.long v) = r) (hh : h = h') : Y X G nL kc ks pc lv [.long v] h := by
  obtain ⟨E1, E2⟩ := E
  subst hr
  intro H locs ls e b c
  rw [E1]
  exact W.lret C.1 C.2.1 E2 (q_end C e b hh) b.2.2 hd.1 C.2.2.2.2.2.2.2.2.2
theorem y_vret {h' : List va_E} (C : qC X G cc nL own d) (E : qE X G none kc ks none h') (hd : qd cc pc (.return_) 1 pc') (hh : h = h') : Y X G nL kc ks pc lv [] h := by
  obtain ⟨E1, E2⟩ := E
  intro H locs ls e b c
  rw [E1]
  exact W.vret C.1 C.2.1 E2 (q_end C e b hh) b.2.2 hd.1 C.2.2.2.2.2.2.2.2.2
theorem y_aret {r : Option Value} {h' : List va_E} {v : Nat} {cn : String} (C : qC X G cc nL own d) (E : qE X G (some (.object cn)) kc ks r h') (hd : qd cc pc (.areturn) 1 pc') (hr : some (.ref v) = r) (hh : h = h') : Y X G nL kc ks pc lv [.ref v] h := by
  obtain ⟨E1, E2⟩ := E
  subst hr
  intro H locs ls e b c
  rw [E1]
  exact W.aret C.1 C.2.1 E2 (Or.inl ⟨cn, rfl⟩) (Or.inr ⟨v, rfl⟩) (q_end C e b hh) b.2.2 hd.1 C.2.2.2.2.2.2.2.2.2

end
end
section
section
variable {l : Launch} {G : qG} {y : MethodName} {d mc ms : Nat} {av : List Value} {h : List va_E} {r : Option Value} {h' : List va_E}
theorem ctm_intro {bytes : ByteArray} {maxL : Nat} {ret : Option FieldType} (hcode : Cond.code y bytes maxL ret ∈ lwg) (hm : maxL ≤ 20) (hy : plainName y.cls = true) (lv0 : List (Option Value)) (hlv : qlv 0 lv0 = lv_args 0 av) (hlen : (lg_sl av).length ≤ maxL)
    (body : ∀ X : qX, X.2.1 = l → X.2.2.2.1.cells = mc → X.2.2.2.1.slots = ms → X.2.2.2.2.2.2.2.2.1.name = y.name → (mc ≠ 0 → X.2.2.2.2.1.heap.size = G.2 4 + h.length) → qC X G bytes maxL y.cls d → qE X G ret mc ms r h' → Y X G maxL 0 0 0 lv0 [] h) : Ctm l G y d mc ms av h r h' := by
  refine ⟨bytes, maxL, ret, hcode, hm, ?_⟩
  refine Met.ofW (cc := bytes) (maxL := maxL) (ret := ret) hy rfl ?_
  intro p e s m args below meth c s₁ B hml hv
  obtain ⟨rfl, ⟨hP, hF⟩, hb4, hsz⟩ := hv
  have hts := atoms_spec (ws := Cond.code y bytes maxL ret :: lwg) B.pre
  have hl := lv_entry av (n := maxL) hlen
  rw [lg_entry_eq]
  refine body (p, l, e, _, s, m, av.toArray, below, meth, c, _) rfl rfl rfl (name_of_methodNamed B.named B.method).1 hsz ?_ ⟨rfl, B.returns⟩ s.heap [] _ hP va_S.rf ?_
  · exact ⟨B.exec, B.bytes, hml, findClass_of_methodNamed B.named, fun w hw => hts w (List.mem_cons_of_mem _ hw), Nat.le_refl _, Nat.le_refl _, hF, hb4, B.notSynchronized⟩
  · show lv_has _ _ (qlv 0 lv0)
    rw [hlv]
    exact hl
/-- behind a call -/
theorem y_run {X : qX} {nL kc ks pc : Nat} {lv : List (Option Value)} {sk rest : List Value} {arr : Array Value} {H : Heap} {locs : List Loc} {ls : Array Slot} (b : va_S (qA G) X.2.2.2.2.1.heap H locs) (c : qh ls nL lv)
    (hr : va_Run X.1 X.2.1 X.2.2.1 X.2.2.2.1 X.2.2.2.2.1 X.2.2.2.2.2.1 X.2.2.2.2.2.2.1 X.2.2.2.2.2.2.2.1 X.2.2.2.2.2.2.2.2.1 X.2.2.2.2.2.2.2.2.2.1 H locs kc ks mc ms (F0 X.2.2.2.2.2.1 pc ls sk) rest (qQ G r h' arr) (qA G))
    (k : Y X G nL (kc + mc) (ks + ms) (pc + 3) lv (r.toList ++ rest) h') :
    W X.1 X.2.1 X.2.2.1 X.2.2.2.1 X.2.2.2.2.1 X.2.2.2.2.2.1 X.2.2.2.2.2.2.1 X.2.2.2.2.2.2.2.1 X.2.2.2.2.2.2.2.2.1 X.2.2.2.2.2.2.2.2.2.1 H locs kc ks X.2.2.2.2.2.2.2.2.2.2 (F0 X.2.2.2.2.2.1 pc ls sk) := by
  intro T hT Z
  obtain ⟨v, st₀, t, T', L, h0, X', hL, e1, e2, ⟨hv, hw, hz, hk⟩, st⟩ := hr T hT Z
  have hv : v = r := by
    have := hv
    simp only [Outcome.returned.injEq] at this
    exact this
  subst hv
  rw [h0] at hz hk
  obtain ⟨t2, a1, b1⟩ := k T'.heap (locs ++ L) ls (by rw [e1]; exact hw.1)
    ⟨Nat.le_trans b.1 (by rw [e1]; exact hz), fun q h1 h2 => by rw [e1, hk q (Nat.lt_of_lt_of_le h1 b.1) h2]; exact b.2.1 q h1 h2, fun q hq => by
      rcases List.mem_append.mp hq with h | h
      · exact b.2.2 q h
      · exact hL q h⟩ c T' rfl X'
  exact ⟨t2, st t2 a1, b1⟩
theorem qP_blind : FrameBlind (qP G mc av h) := by
  intro a U g mk q
  obtain ⟨q0, ⟨q1, q2⟩, q3, q4⟩ := q
  exact ⟨q0, ⟨q1, qF_blind q2⟩, q3, q4⟩
theorem qP_pre {X : qX} {cc : ByteArray} {nL : Nat} {own : String} {d : Nat} {H : Heap} {locs : List Loc} (C : qC X G cc nL own d) (e : qH G h H) (b : va_S (qA G) X.2.2.2.2.1.heap H locs) (hs : mc ≠ 0 → H.size = G.2 4 + h.length) : ∀ U : State, U.heap = H → X.2.2.2.2.1.WarmedH U.vm → qP G mc av h av.toArray U := by
  intro U hU hW
  refine ⟨rfl, ⟨by rw [hU]; exact e, ?_⟩, ?_, ?_⟩
  · rw [hU]
    exact qF_moved hW (fun a h1 h2 => b.2.1 a h1 h2) C.2.2.2.2.2.2.2.1
  · rw [hU]
    exact Nat.le_trans C.2.2.2.2.2.2.2.2.1 b.1
  · rw [hU]
    exact hs
theorem q_goodc {bytes : ByteArray} {maxL : Nat} {ret : Option FieldType} (hc : Cond.code y bytes maxL ret ∈ lwg) : GoodIn lwg (Cond.code y bytes maxL ret :: lwg) := fun w hw => (List.mem_cons.mp hw).elim (fun e => by rw [e]; exact lwg_good _ hc) (fun h => lwg_good _ h)
end
section
variable {X : qX} {G : qG} {cc : ByteArray} {nL kc ks pc pc' d d' : Nat} {own : String} {lv : List (Option Value)} {st sk : List Value} {h h' : List va_E} {y : MethodName} {r : Option Value} {As : List Value}
abbrev qyn (y : MethodName) (n : Nat) : Prop := y.cls ≠ "java/lang/invoke/MethodHandle" ∧ y.cls ≠ "java/lang/invoke/VarHandle" ∧ (parseMethodDescriptor y.desc).map (fun d => d.parameters.length) = some n
/-- a virtual call: entry idx of own's pool is y, of the class ci, with n arguments -/
def qcV (own : String) (idx : Nat) (y : MethodName) (ci n : Nat) : Prop := Cond.methodLink own idx y ∈ lwg ∧ Cond.instanceMethod y ∈ lwg ∧ Cond.selects y.cls y y ∈ lwg ∧ Cond.initialized y.cls ∈ lwg ∧ (∃ (T : u_T) (N : Nat), vwCl[ci]? = some (y.cls, T, N)) ∧ qyn y n
def qcS (own : String) (idx : Nat) (y : MethodName) (n : Nat) : Prop := Cond.methodLink own idx y ∈ lwg ∧ Cond.static y ∈ lwg ∧ Cond.initialized y.cls ∈ lwg ∧ qyn y n
def qcSN (own : String) (idx : Nat) (y : MethodName) (n : Nat) : Prop := (∃ host, Cond.methodLinkNest own idx y host ∈ qNl) ∧ Cond.static y ∈ lwg ∧ Cond.initialized y.cls ∈ lwg ∧ qyn y n
def qcI (own : String) (idx : Nat) (y : MethodName) (n : Nat) : Prop := Cond.methodLink own idx y ∈ lwg ∧ Cond.instanceMethod y ∈ lwg ∧ Cond.initialized y.cls ∈ lwg ∧ y.name = "<init>" ∧ qyn y n
def qcIN (own : String) (idx : Nat) (y : MethodName) (n : Nat) : Prop := (∃ host, Cond.methodLinkNest own idx y host ∈ qNl) ∧ Cond.instanceMethod y ∈ lwg ∧ Cond.initialized y.cls ∈ lwg ∧ y.name = "<init>" ∧ qyn y n
theorem q_rm {d d' maxL : Nat} {R : Room} (h1 : d ≤ R.frames) (h2 : 40 * d ≤ R.locals) (hm : maxL ≤ 20) (hd : d' + 1 ≤ d) (mc ms : Nat) : (qm d' mc ms).frames + 1 ≤ R.frames ∧ 8 + (maxL + 11) + (qm d' mc ms).locals ≤ R.locals := by
  constructor
  · show d' + 1 ≤ _
    omega
  · show 8 + (maxL + 11) + 40 * d' ≤ _
    omega
theorem y_callV {idx ci n a : Nat} {fs : List Value} (C : qC X G cc nL own d) (hd : qd cc pc (.invokevirtual idx) 3 pc') (hk : qcV own idx y ci n) (hM : Ct X.2.1 G y d' (qr G a :: As) h r h') (hl : h[a]? = some (.inr (ci, fs))) (hs : sk = As.reverse ++ qr G a :: st) (hn : As.length = n) (hdd : d' + 1 ≤ d) (hst : (st.map fun v => v.category).sum ≤ 8) (hkc : kc ≤ X.2.2.2.1.cells ∧ ks ≤ X.2.2.2.1.slots) (k : Y X G nL kc ks pc' lv (r.toList ++ st) h') : Y X G nL kc ks pc lv sk h := by
  obtain ⟨hd, rfl⟩ := hd
  subst hs
  obtain ⟨k1, k2, k3, k4, ⟨T, N, k5⟩, k6⟩ := hk
  obtain ⟨bytes, maxL, ret, m1, m2, hM⟩ := hM
  have hts := C.2.2.2.2.1
  intro H locs ls e b c
  refine y_run (mc := 0) (ms := 0) (arr := (qr G a :: As).toArray) b c ?_ k
  exact va_runV (Ts := lwg) ⟨C.1, C.2.1, C.2.2.1, C.2.2.2.1, hts⟩ hM ⟨callB_of n hts (q_goodc m1) rfl rfl rfl (hts _ k4) (hts _ k1) k6 (q_rm C.2.2.2.2.2.1 C.2.2.2.2.2.2.1 m2 hdd 0 0), hts _ k2, hts _ k3⟩ ⟨qP_blind, va_recv C.2.2.2.2.2.2.2.1.1 e k5 (qw_at hl), qP_pre C e b (fun h => absurd rfl h)⟩ rfl hn c.1 rfl (lv_room hst) hd hkc
theorem y_callS {idx n : Nat} (C : qC X G cc nL own d) (hd : qd cc pc (.invokestatic idx) 3 pc') (hk : qcS own idx y n) (hM : Ct X.2.1 G y d' As h r h') (hs : sk = As.reverse ++ st) (hn : As.length = n) (hdd : d' + 1 ≤ d) (hst : (st.map fun v => v.category).sum ≤ 8) (hkc : kc ≤ X.2.2.2.1.cells ∧ ks ≤ X.2.2.2.1.slots) (k : Y X G nL kc ks pc' lv (r.toList ++ st) h') : Y X G nL kc ks pc lv sk h := by
  obtain ⟨hd, rfl⟩ := hd
  subst hs
  obtain ⟨k1, k2, k4, k6⟩ := hk
  obtain ⟨bytes, maxL, ret, m1, m2, hM⟩ := hM
  have hts := C.2.2.2.2.1
  intro H locs ls e b c
  refine y_run (mc := 0) (ms := 0) (arr := As.toArray) b c ?_ k
  exact va_runS (Ts := lwg) ⟨C.1, C.2.1, C.2.2.1, C.2.2.2.1, hts⟩ hM ⟨callB_of n hts (q_goodc m1) rfl rfl rfl (hts _ k4) (hts _ k1) k6 (q_rm C.2.2.2.2.2.1 C.2.2.2.2.2.2.1 m2 hdd 0 0), hts _ k2⟩ ⟨qP_blind, qP_pre C e b (fun h => absurd rfl h)⟩ rfl hn c.1 rfl (lv_room hst) hd hkc
theorem y_callSN {idx n : Nat} (C : qC X G cc nL own d) (hd : qd cc pc (.invokestatic idx) 3 pc') (hk : qcSN own idx y n) (hM : Ct X.2.1 G y d' As h r h') (hs : sk = As.reverse ++ st) (hn : As.length = n) (hdd : d' + 1 ≤ d) (hst : (st.map fun v => v.category).sum ≤ 8) (hkc : kc ≤ X.2.2.2.1.cells ∧ ks ≤ X.2.2.2.1.slots) (k : Y X G nL kc ks pc' lv (r.toList ++ st) h') : Y X G nL kc ks pc lv sk h := by
  obtain ⟨hd, rfl⟩ := hd
  subst hs
  obtain ⟨⟨host, k1⟩, k2, k4, k6⟩ := hk
  obtain ⟨bytes, maxL, ret, m1, m2, hM⟩ := hM
  have hts := C.2.2.2.2.1
  intro H locs ls e b c
  refine y_run (mc := 0) (ms := 0) (arr := As.toArray) b c ?_ k
  exact va_runSN (Ts := lwg) ⟨C.1, C.2.1, C.2.2.1, C.2.2.2.1, hts⟩ hM ⟨va_cnB n hts (q_goodc m1) rfl rfl rfl (C.2.2.2.2.2.2.2.1.2.1 _ k1) (hts _ k4) k6 (q_rm C.2.2.2.2.2.1 C.2.2.2.2.2.2.1 m2 hdd 0 0), hts _ k2, trivial⟩ ⟨qP_blind, qP_pre C e b (fun h => absurd rfl h)⟩ rfl hn c.1 rfl (lv_room hst) hd hkc
/-- the heap's size, by the count of the cells -/
theorem y_size {H : Heap} {locs : List Loc} {g : JFrame} (hz : X.2.2.2.2.1.heap.size + kc = G.2 4 + h.length) (hne : h ≠ []) (k : qH G h H → H.size = G.2 4 + h.length → W X.1 X.2.1 X.2.2.1 X.2.2.2.1 X.2.2.2.2.1 X.2.2.2.2.2.1 X.2.2.2.2.2.2.1 X.2.2.2.2.2.2.2.1 X.2.2.2.2.2.2.2.2.1 X.2.2.2.2.2.2.2.2.2.1 H locs kc ks X.2.2.2.2.2.2.2.2.2.2 g) (e : qH G h H) : W X.1 X.2.1 X.2.2.1 X.2.2.2.1 X.2.2.2.2.1 X.2.2.2.2.2.1 X.2.2.2.2.2.2.1 X.2.2.2.2.2.2.2.1 X.2.2.2.2.2.2.2.2.1 X.2.2.2.2.2.2.2.2.2.1 H locs kc ks X.2.2.2.2.2.2.2.2.2.2 g := by
  intro T hT Z
  have h1 := Z.heapSize
  rw [hT] at h1
  have h2 := (qH_le e).resolve_left hne
  exact k e (by omega) T hT Z
end
end
