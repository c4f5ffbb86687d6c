section
-- ===== PART A: goes FIRST, ahead of the names: the tables' words, and 'selects' of the private methods out of them =====
/-- a private method of a class that the tables say can be made, by its rows of tables_1 -/
def lw_okq (q : MethodName × Nat) : Prop := (q.1.cls ≠ "java/lang/invoke/MethodHandle" ∧ q.1.cls ≠ "java/lang/invoke/VarHandle") ∧ Cond.instantiable q.1.cls q.2 ∈ tables_1 ∧ Cond.privateMethod q.1 ∈ tables_1 ∧ Cond.instanceMethod q.1 ∈ tables_1
theorem lw_p0 : lw_okq (⟨"ApartSteps", "scanText", "()I"⟩, 12) := ⟨⟨by decide +kernel, by decide +kernel⟩, List.mem_of_getElem? (i := 16) (by decide +kernel), List.mem_of_getElem? (i := 174) (by decide +kernel), List.mem_of_getElem? (i := 175) (by decide +kernel)⟩
theorem lw_p1 : lw_okq (⟨"ApartSteps$TextScan", "takeBegin", "(C)Z"⟩, 6) := ⟨⟨by decide +kernel, by decide +kernel⟩, List.mem_of_getElem? (i := 52) (by decide +kernel), List.mem_of_getElem? (i := 186) (by decide +kernel), List.mem_of_getElem? (i := 187) (by decide +kernel)⟩
theorem lw_p2 : lw_okq (⟨"ApartSteps$TextScan", "expectNumber", "(CII)Z"⟩, 6) := ⟨⟨by decide +kernel, by decide +kernel⟩, List.mem_of_getElem? (i := 52) (by decide +kernel), List.mem_of_getElem? (i := 190) (by decide +kernel), List.mem_of_getElem? (i := 191) (by decide +kernel)⟩
theorem lw_p3 : lw_okq (⟨"ApartSteps$TextScan", "takeOperation", "(C)Z"⟩, 6) := ⟨⟨by decide +kernel, by decide +kernel⟩, List.mem_of_getElem? (i := 52) (by decide +kernel), List.mem_of_getElem? (i := 197) (by decide +kernel), List.mem_of_getElem? (i := 198) (by decide +kernel)⟩
theorem lw_p4 : lw_okq (⟨"ApartSteps$TextScan", "takeOtherStall", "(C)Z"⟩, 6) := ⟨⟨by decide +kernel, by decide +kernel⟩, List.mem_of_getElem? (i := 52) (by decide +kernel), List.mem_of_getElem? (i := 201) (by decide +kernel), List.mem_of_getElem? (i := 202) (by decide +kernel)⟩
theorem lw_p5 : lw_okq (⟨"ApartSteps$TextScan", "takeFirstDigit", "(C)Z"⟩, 6) := ⟨⟨by decide +kernel, by decide +kernel⟩, List.mem_of_getElem? (i := 52) (by decide +kernel), List.mem_of_getElem? (i := 205) (by decide +kernel), List.mem_of_getElem? (i := 206) (by decide +kernel)⟩
theorem lw_p6 : lw_okq (⟨"ApartSteps$TextScan", "takeDigit", "(C)Z"⟩, 6) := ⟨⟨by decide +kernel, by decide +kernel⟩, List.mem_of_getElem? (i := 52) (by decide +kernel), List.mem_of_getElem? (i := 212) (by decide +kernel), List.mem_of_getElem? (i := 213) (by decide +kernel)⟩
theorem lw_p7 : lw_okq (⟨"ApartSteps$TextScan", "takeSeparator", "(C)Z"⟩, 6) := ⟨⟨by decide +kernel, by decide +kernel⟩, List.mem_of_getElem? (i := 52) (by decide +kernel), List.mem_of_getElem? (i := 216) (by decide +kernel), List.mem_of_getElem? (i := 217) (by decide +kernel)⟩
theorem lw_p8 : lw_okq (⟨"ApartSteps$Reading", "endNumber", "(JI)V"⟩, 4) := ⟨⟨by decide +kernel, by decide +kernel⟩, List.mem_of_getElem? (i := 81) (by decide +kernel), List.mem_of_getElem? (i := 275) (by decide +kernel), List.mem_of_getElem? (i := 276) (by decide +kernel)⟩
theorem lw_p9 : lw_okq (⟨"ApartSteps", "mixNumber", "(JI)J"⟩, 12) := ⟨⟨by decide +kernel, by decide +kernel⟩, List.mem_of_getElem? (i := 16) (by decide +kernel), List.mem_of_getElem? (i := 329) (by decide +kernel), List.mem_of_getElem? (i := 330) (by decide +kernel)⟩
theorem lw_p10 : lw_okq (⟨"ApartSteps", "waysInTable", "(I)I"⟩, 12) := ⟨⟨by decide +kernel, by decide +kernel⟩, List.mem_of_getElem? (i := 16) (by decide +kernel), List.mem_of_getElem? (i := 333) (by decide +kernel), List.mem_of_getElem? (i := 334) (by decide +kernel)⟩
theorem lw_p11 : lw_okq (⟨"ApartSteps", "carryStalls", "(II)I"⟩, 12) := ⟨⟨by decide +kernel, by decide +kernel⟩, List.mem_of_getElem? (i := 16) (by decide +kernel), List.mem_of_getElem? (i := 365) (by decide +kernel), List.mem_of_getElem? (i := 366) (by decide +kernel)⟩
theorem lw_p12 : lw_okq (⟨"ApartSteps$Carrying", "firstToCarry", "()I"⟩, 1) := ⟨⟨by decide +kernel, by decide +kernel⟩, List.mem_of_getElem? (i := 103) (by decide +kernel), List.mem_of_getElem? (i := 373) (by decide +kernel), List.mem_of_getElem? (i := 374) (by decide +kernel)⟩
theorem lw_p13 : lw_okq (⟨"ApartSteps$Carrying", "countsWithNext", "(I)Z"⟩, 1) := ⟨⟨by decide +kernel, by decide +kernel⟩, List.mem_of_getElem? (i := 103) (by decide +kernel), List.mem_of_getElem? (i := 377) (by decide +kernel), List.mem_of_getElem? (i := 378) (by decide +kernel)⟩
theorem lw_p14 : lw_okq (⟨"ApartSteps$Carrying", "countOf", "(I)I"⟩, 1) := ⟨⟨by decide +kernel, by decide +kernel⟩, List.mem_of_getElem? (i := 103) (by decide +kernel), List.mem_of_getElem? (i := 381) (by decide +kernel), List.mem_of_getElem? (i := 382) (by decide +kernel)⟩
theorem lw_p15 : lw_okq (⟨"ApartSteps$Carrying", "carryAt", "(I)V"⟩, 1) := ⟨⟨by decide +kernel, by decide +kernel⟩, List.mem_of_getElem? (i := 103) (by decide +kernel), List.mem_of_getElem? (i := 385) (by decide +kernel), List.mem_of_getElem? (i := 386) (by decide +kernel)⟩
def lw_privs_1 : List (MethodName × Nat) := [(⟨"ApartSteps", "scanText", "()I"⟩, 12), (⟨"ApartSteps$TextScan", "takeBegin", "(C)Z"⟩, 6), (⟨"ApartSteps$TextScan", "expectNumber", "(CII)Z"⟩, 6), (⟨"ApartSteps$TextScan", "takeOperation", "(C)Z"⟩, 6), (⟨"ApartSteps$TextScan", "takeOtherStall", "(C)Z"⟩, 6), (⟨"ApartSteps$TextScan", "takeFirstDigit", "(C)Z"⟩, 6), (⟨"ApartSteps$TextScan", "takeDigit", "(C)Z"⟩, 6), (⟨"ApartSteps$TextScan", "takeSeparator", "(C)Z"⟩, 6), (⟨"ApartSteps$Reading", "endNumber", "(JI)V"⟩, 4), (⟨"ApartSteps", "mixNumber", "(JI)J"⟩, 12), (⟨"ApartSteps", "waysInTable", "(I)I"⟩, 12), (⟨"ApartSteps", "carryStalls", "(II)I"⟩, 12), (⟨"ApartSteps$Carrying", "firstToCarry", "()I"⟩, 1), (⟨"ApartSteps$Carrying", "countsWithNext", "(I)Z"⟩, 1), (⟨"ApartSteps$Carrying", "countOf", "(I)I"⟩, 1), (⟨"ApartSteps$Carrying", "carryAt", "(I)V"⟩, 1)]
theorem lw_r1 : ∀ q ∈ lw_privs_1, lw_okq q := List.forall_mem_cons.mpr ⟨lw_p0, List.forall_mem_cons.mpr ⟨lw_p1, List.forall_mem_cons.mpr ⟨lw_p2, List.forall_mem_cons.mpr ⟨lw_p3, List.forall_mem_cons.mpr ⟨lw_p4, List.forall_mem_cons.mpr ⟨lw_p5, List.forall_mem_cons.mpr ⟨lw_p6, List.forall_mem_cons.mpr ⟨lw_p7, List.forall_mem_cons.mpr ⟨lw_p8, List.forall_mem_cons.mpr ⟨lw_p9, List.forall_mem_cons.mpr ⟨lw_p10, List.forall_mem_cons.mpr ⟨lw_p11, List.forall_mem_cons.mpr ⟨lw_p12, List.forall_mem_cons.mpr ⟨lw_p13, List.forall_mem_cons.mpr ⟨lw_p14, List.forall_mem_cons.mpr ⟨lw_p15, fun _ h => absurd h List.not_mem_nil⟩⟩⟩⟩⟩⟩⟩⟩⟩⟩⟩⟩⟩⟩⟩⟩
theorem lw_p16 : lw_okq (⟨"ApartSteps$Carrying", "change", "(II)V"⟩, 1) := ⟨⟨by decide +kernel, by decide +kernel⟩, List.mem_of_getElem? (i := 103) (by decide +kernel), List.mem_of_getElem? (i := 389) (by decide +kernel), List.mem_of_getElem? (i := 390) (by decide +kernel)⟩
theorem lw_p17 : lw_okq (⟨"ApartSteps", "mixStream", "(J)J"⟩, 12) := ⟨⟨by decide +kernel, by decide +kernel⟩, List.mem_of_getElem? (i := 16) (by decide +kernel), List.mem_of_getElem? (i := 400) (by decide +kernel), List.mem_of_getElem? (i := 401) (by decide +kernel)⟩
theorem lw_p18 : lw_okq (⟨"ApartSteps", "countIfTurned", "(I)I"⟩, 12) := ⟨⟨by decide +kernel, by decide +kernel⟩, List.mem_of_getElem? (i := 16) (by decide +kernel), List.mem_of_getElem? (i := 409) (by decide +kernel), List.mem_of_getElem? (i := 410) (by decide +kernel)⟩
theorem lw_p19 : lw_okq (⟨"ApartSteps", "mixStop", "(J)J"⟩, 12) := ⟨⟨by decide +kernel, by decide +kernel⟩, List.mem_of_getElem? (i := 16) (by decide +kernel), List.mem_of_getElem? (i := 413) (by decide +kernel), List.mem_of_getElem? (i := 414) (by decide +kernel)⟩
theorem lw_p20 : lw_okq (⟨"ApartSteps", "mixText", "(J)J"⟩, 12) := ⟨⟨by decide +kernel, by decide +kernel⟩, List.mem_of_getElem? (i := 16) (by decide +kernel), List.mem_of_getElem? (i := 424) (by decide +kernel), List.mem_of_getElem? (i := 425) (by decide +kernel)⟩
theorem lw_p21 : lw_okq (⟨"java/lang/Throwable", "fillInStackTrace", "(I)Ljava/lang/Throwable;"⟩, 6) := ⟨⟨by decide +kernel, by decide +kernel⟩, List.mem_of_getElem? (i := 478) (by decide +kernel), List.mem_of_getElem? (i := 476) (by decide +kernel), List.mem_of_getElem? (i := 477) (by decide +kernel)⟩
theorem lw_p22 : lw_okq (⟨"ApartSteps", "saveNow", "()V"⟩, 12) := ⟨⟨by decide +kernel, by decide +kernel⟩, List.mem_of_getElem? (i := 16) (by decide +kernel), List.mem_of_getElem? (i := 527) (by decide +kernel), List.mem_of_getElem? (i := 528) (by decide +kernel)⟩
theorem lw_p23 : lw_okq (⟨"ApartSteps", "dropOldest", "()V"⟩, 12) := ⟨⟨by decide +kernel, by decide +kernel⟩, List.mem_of_getElem? (i := 16) (by decide +kernel), List.mem_of_getElem? (i := 531) (by decide +kernel), List.mem_of_getElem? (i := 532) (by decide +kernel)⟩
theorem lw_p24 : lw_okq (⟨"ApartSteps", "checkDigit", "(I)V"⟩, 12) := ⟨⟨by decide +kernel, by decide +kernel⟩, List.mem_of_getElem? (i := 16) (by decide +kernel), List.mem_of_getElem? (i := 623) (by decide +kernel), List.mem_of_getElem? (i := 624) (by decide +kernel)⟩
theorem lw_p25 : lw_okq (⟨"ApartSteps", "doParts", "()I"⟩, 12) := ⟨⟨by decide +kernel, by decide +kernel⟩, List.mem_of_getElem? (i := 16) (by decide +kernel), List.mem_of_getElem? (i := 666) (by decide +kernel), List.mem_of_getElem? (i := 667) (by decide +kernel)⟩
theorem lw_p26 : lw_okq (⟨"ApartSteps", "doPart", "()I"⟩, 12) := ⟨⟨by decide +kernel, by decide +kernel⟩, List.mem_of_getElem? (i := 16) (by decide +kernel), List.mem_of_getElem? (i := 670) (by decide +kernel), List.mem_of_getElem? (i := 671) (by decide +kernel)⟩
theorem lw_p27 : lw_okq (⟨"ApartSteps", "giveIfFits", "(I)I"⟩, 12) := ⟨⟨by decide +kernel, by decide +kernel⟩, List.mem_of_getElem? (i := 16) (by decide +kernel), List.mem_of_getElem? (i := 674) (by decide +kernel), List.mem_of_getElem? (i := 675) (by decide +kernel)⟩
theorem lw_p28 : lw_okq (⟨"ApartSteps", "doRaise", "(I)I"⟩, 12) := ⟨⟨by decide +kernel, by decide +kernel⟩, List.mem_of_getElem? (i := 16) (by decide +kernel), List.mem_of_getElem? (i := 678) (by decide +kernel), List.mem_of_getElem? (i := 679) (by decide +kernel)⟩
theorem lw_p29 : lw_okq (⟨"ApartSteps", "doSend", "(I)I"⟩, 12) := ⟨⟨by decide +kernel, by decide +kernel⟩, List.mem_of_getElem? (i := 16) (by decide +kernel), List.mem_of_getElem? (i := 682) (by decide +kernel), List.mem_of_getElem? (i := 683) (by decide +kernel)⟩
theorem lw_p30 : lw_okq (⟨"ApartSteps", "doTurn", "(I)I"⟩, 12) := ⟨⟨by decide +kernel, by decide +kernel⟩, List.mem_of_getElem? (i := 16) (by decide +kernel), List.mem_of_getElem? (i := 686) (by decide +kernel), List.mem_of_getElem? (i := 687) (by decide +kernel)⟩
theorem lw_p31 : lw_okq (⟨"ApartSteps", "checkStopped", "()V"⟩, 12) := ⟨⟨by decide +kernel, by decide +kernel⟩, List.mem_of_getElem? (i := 16) (by decide +kernel), List.mem_of_getElem? (i := 697) (by decide +kernel), List.mem_of_getElem? (i := 698) (by decide +kernel)⟩
def lw_privs_2 : List (MethodName × Nat) := [(⟨"ApartSteps$Carrying", "change", "(II)V"⟩, 1), (⟨"ApartSteps", "mixStream", "(J)J"⟩, 12), (⟨"ApartSteps", "countIfTurned", "(I)I"⟩, 12), (⟨"ApartSteps", "mixStop", "(J)J"⟩, 12), (⟨"ApartSteps", "mixText", "(J)J"⟩, 12), (⟨"java/lang/Throwable", "fillInStackTrace", "(I)Ljava/lang/Throwable;"⟩, 6), (⟨"ApartSteps", "saveNow", "()V"⟩, 12), (⟨"ApartSteps", "dropOldest", "()V"⟩, 12), (⟨"ApartSteps", "checkDigit", "(I)V"⟩, 12), (⟨"ApartSteps", "doParts", "()I"⟩, 12), (⟨"ApartSteps", "doPart", "()I"⟩, 12), (⟨"ApartSteps", "giveIfFits", "(I)I"⟩, 12), (⟨"ApartSteps", "doRaise", "(I)I"⟩, 12), (⟨"ApartSteps", "doSend", "(I)I"⟩, 12), (⟨"ApartSteps", "doTurn", "(I)I"⟩, 12), (⟨"ApartSteps", "checkStopped", "()V"⟩, 12)]
theorem lw_r2 : ∀ q ∈ lw_privs_2, lw_okq q := List.forall_mem_cons.mpr ⟨lw_p16, List.forall_mem_cons.mpr ⟨lw_p17, List.forall_mem_cons.mpr ⟨lw_p18, List.forall_mem_cons.mpr ⟨lw_p19, List.forall_mem_cons.mpr ⟨lw_p20, List.forall_mem_cons.mpr ⟨lw_p21, List.forall_mem_cons.mpr ⟨lw_p22, List.forall_mem_cons.mpr ⟨lw_p23, List.forall_mem_cons.mpr ⟨lw_p24, List.forall_mem_cons.mpr ⟨lw_p25, List.forall_mem_cons.mpr ⟨lw_p26, List.forall_mem_cons.mpr ⟨lw_p27, List.forall_mem_cons.mpr ⟨lw_p28, List.forall_mem_cons.mpr ⟨lw_p29, List.forall_mem_cons.mpr ⟨lw_p30, List.forall_mem_cons.mpr ⟨lw_p31, fun _ h => absurd h List.not_mem_nil⟩⟩⟩⟩⟩⟩⟩⟩⟩⟩⟩⟩⟩⟩⟩⟩
theorem lw_p32 : lw_okq (⟨"ApartStepsModel", "goes", "(ZZZ)Z"⟩, 14) := ⟨⟨by decide +kernel, by decide +kernel⟩, List.mem_of_getElem? (i := 854) (by decide +kernel), List.mem_of_getElem? (i := 920) (by decide +kernel), List.mem_of_getElem? (i := 921) (by decide +kernel)⟩
theorem lw_p33 : lw_okq (⟨"ApartStepsModel", "saves", "()V"⟩, 14) := ⟨⟨by decide +kernel, by decide +kernel⟩, List.mem_of_getElem? (i := 854) (by decide +kernel), List.mem_of_getElem? (i := 924) (by decide +kernel), List.mem_of_getElem? (i := 925) (by decide +kernel)⟩
theorem lw_p34 : lw_okq (⟨"ApartStepsModel", "copies", "(II)V"⟩, 14) := ⟨⟨by decide +kernel, by decide +kernel⟩, List.mem_of_getElem? (i := 854) (by decide +kernel), List.mem_of_getElem? (i := 928) (by decide +kernel), List.mem_of_getElem? (i := 929) (by decide +kernel)⟩
theorem lw_p35 : lw_okq (⟨"ApartStepsModel", "adds", "(II)I"⟩, 14) := ⟨⟨by decide +kernel, by decide +kernel⟩, List.mem_of_getElem? (i := 854) (by decide +kernel), List.mem_of_getElem? (i := 942) (by decide +kernel), List.mem_of_getElem? (i := 943) (by decide +kernel)⟩
theorem lw_p36 : lw_okq (⟨"ApartStepsModel", "carry", "(I)Z"⟩, 14) := ⟨⟨by decide +kernel, by decide +kernel⟩, List.mem_of_getElem? (i := 854) (by decide +kernel), List.mem_of_getElem? (i := 946) (by decide +kernel), List.mem_of_getElem? (i := 947) (by decide +kernel)⟩
theorem lw_p37 : lw_okq (⟨"ApartStepsModel", "canRaise", "(I)Z"⟩, 14) := ⟨⟨by decide +kernel, by decide +kernel⟩, List.mem_of_getElem? (i := 854) (by decide +kernel), List.mem_of_getElem? (i := 958) (by decide +kernel), List.mem_of_getElem? (i := 959) (by decide +kernel)⟩
theorem lw_p38 : lw_okq (⟨"ApartStepsModel", "raised", "(I)I"⟩, 14) := ⟨⟨by decide +kernel, by decide +kernel⟩, List.mem_of_getElem? (i := 854) (by decide +kernel), List.mem_of_getElem? (i := 963) (by decide +kernel), List.mem_of_getElem? (i := 964) (by decide +kernel)⟩
theorem lw_p39 : lw_okq (⟨"ApartStepsModel", "canSend", "(I)Z"⟩, 14) := ⟨⟨by decide +kernel, by decide +kernel⟩, List.mem_of_getElem? (i := 854) (by decide +kernel), List.mem_of_getElem? (i := 978) (by decide +kernel), List.mem_of_getElem? (i := 979) (by decide +kernel)⟩
theorem lw_p40 : lw_okq (⟨"ApartStepsModel", "sends", "(I)I"⟩, 14) := ⟨⟨by decide +kernel, by decide +kernel⟩, List.mem_of_getElem? (i := 854) (by decide +kernel), List.mem_of_getElem? (i := 991) (by decide +kernel), List.mem_of_getElem? (i := 992) (by decide +kernel)⟩
theorem lw_p41 : lw_okq (⟨"ApartStepsModel", "isDigit", "(I)Z"⟩, 14) := ⟨⟨by decide +kernel, by decide +kernel⟩, List.mem_of_getElem? (i := 854) (by decide +kernel), List.mem_of_getElem? (i := 999) (by decide +kernel), List.mem_of_getElem? (i := 1000) (by decide +kernel)⟩
theorem lw_p42 : lw_okq (⟨"ApartStepsModel", "turns", "(I)I"⟩, 14) := ⟨⟨by decide +kernel, by decide +kernel⟩, List.mem_of_getElem? (i := 854) (by decide +kernel), List.mem_of_getElem? (i := 1003) (by decide +kernel), List.mem_of_getElem? (i := 1004) (by decide +kernel)⟩
theorem lw_p43 : lw_okq (⟨"ApartStepsModel", "isWhole", "()Z"⟩, 14) := ⟨⟨by decide +kernel, by decide +kernel⟩, List.mem_of_getElem? (i := 854) (by decide +kernel), List.mem_of_getElem? (i := 1023) (by decide +kernel), List.mem_of_getElem? (i := 1024) (by decide +kernel)⟩
theorem lw_p44 : lw_okq (⟨"ApartStepsModel", "part", "()I"⟩, 14) := ⟨⟨by decide +kernel, by decide +kernel⟩, List.mem_of_getElem? (i := 854) (by decide +kernel), List.mem_of_getElem? (i := 1027) (by decide +kernel), List.mem_of_getElem? (i := 1028) (by decide +kernel)⟩
theorem lw_p45 : lw_okq (⟨"ApartStepsModel", "sign", "(I)Z"⟩, 14) := ⟨⟨by decide +kernel, by decide +kernel⟩, List.mem_of_getElem? (i := 854) (by decide +kernel), List.mem_of_getElem? (i := 1031) (by decide +kernel), List.mem_of_getElem? (i := 1032) (by decide +kernel)⟩
theorem lw_p46 : lw_okq (⟨"ApartStepsModel", "isAt", "(II)Z"⟩, 14) := ⟨⟨by decide +kernel, by decide +kernel⟩, List.mem_of_getElem? (i := 854) (by decide +kernel), List.mem_of_getElem? (i := 1035) (by decide +kernel), List.mem_of_getElem? (i := 1036) (by decide +kernel)⟩
theorem lw_p47 : lw_okq (⟨"ApartStepsModel", "number", "(II)I"⟩, 14) := ⟨⟨by decide +kernel, by decide +kernel⟩, List.mem_of_getElem? (i := 854) (by decide +kernel), List.mem_of_getElem? (i := 1039) (by decide +kernel), List.mem_of_getElem? (i := 1040) (by decide +kernel)⟩
def lw_privs_3 : List (MethodName × Nat) := [(⟨"ApartStepsModel", "goes", "(ZZZ)Z"⟩, 14), (⟨"ApartStepsModel", "saves", "()V"⟩, 14), (⟨"ApartStepsModel", "copies", "(II)V"⟩, 14), (⟨"ApartStepsModel", "adds", "(II)I"⟩, 14), (⟨"ApartStepsModel", "carry", "(I)Z"⟩, 14), (⟨"ApartStepsModel", "canRaise", "(I)Z"⟩, 14), (⟨"ApartStepsModel", "raised", "(I)I"⟩, 14), (⟨"ApartStepsModel", "canSend", "(I)Z"⟩, 14), (⟨"ApartStepsModel", "sends", "(I)I"⟩, 14), (⟨"ApartStepsModel", "isDigit", "(I)Z"⟩, 14), (⟨"ApartStepsModel", "turns", "(I)I"⟩, 14), (⟨"ApartStepsModel", "isWhole", "()Z"⟩, 14), (⟨"ApartStepsModel", "part", "()I"⟩, 14), (⟨"ApartStepsModel", "sign", "(I)Z"⟩, 14), (⟨"ApartStepsModel", "isAt", "(II)Z"⟩, 14), (⟨"ApartStepsModel", "number", "(II)I"⟩, 14)]
theorem lw_r3 : ∀ q ∈ lw_privs_3, lw_okq q := List.forall_mem_cons.mpr ⟨lw_p32, List.forall_mem_cons.mpr ⟨lw_p33, List.forall_mem_cons.mpr ⟨lw_p34, List.forall_mem_cons.mpr ⟨lw_p35, List.forall_mem_cons.mpr ⟨lw_p36, List.forall_mem_cons.mpr ⟨lw_p37, List.forall_mem_cons.mpr ⟨lw_p38, List.forall_mem_cons.mpr ⟨lw_p39, List.forall_mem_cons.mpr ⟨lw_p40, List.forall_mem_cons.mpr ⟨lw_p41, List.forall_mem_cons.mpr ⟨lw_p42, List.forall_mem_cons.mpr ⟨lw_p43, List.forall_mem_cons.mpr ⟨lw_p44, List.forall_mem_cons.mpr ⟨lw_p45, List.forall_mem_cons.mpr ⟨lw_p46, List.forall_mem_cons.mpr ⟨lw_p47, fun _ h => absurd h List.not_mem_nil⟩⟩⟩⟩⟩⟩⟩⟩⟩⟩⟩⟩⟩⟩⟩⟩
theorem lw_p48 : lw_okq (⟨"ApartStepsModel", "reason", "(I)I"⟩, 14) := ⟨⟨by decide +kernel, by decide +kernel⟩, List.mem_of_getElem? (i := 854) (by decide +kernel), List.mem_of_getElem? (i := 1047) (by decide +kernel), List.mem_of_getElem? (i := 1048) (by decide +kernel)⟩
theorem lw_p49 : lw_okq (⟨"ApartStepsModel", "does", "(I)V"⟩, 14) := ⟨⟨by decide +kernel, by decide +kernel⟩, List.mem_of_getElem? (i := 854) (by decide +kernel), List.mem_of_getElem? (i := 1051) (by decide +kernel), List.mem_of_getElem? (i := 1052) (by decide +kernel)⟩
theorem lw_p50 : lw_okq (⟨"ApartStepsModel", "sum", "()I"⟩, 14) := ⟨⟨by decide +kernel, by decide +kernel⟩, List.mem_of_getElem? (i := 854) (by decide +kernel), List.mem_of_getElem? (i := 1075) (by decide +kernel), List.mem_of_getElem? (i := 1076) (by decide +kernel)⟩
theorem lw_p51 : lw_okq (⟨"ApartStepsModel", "rich", "()I"⟩, 14) := ⟨⟨by decide +kernel, by decide +kernel⟩, List.mem_of_getElem? (i := 854) (by decide +kernel), List.mem_of_getElem? (i := 1149) (by decide +kernel), List.mem_of_getElem? (i := 1150) (by decide +kernel)⟩
theorem lw_p52 : lw_okq (⟨"ApartStepsModel", "reads", "()I"⟩, 14) := ⟨⟨by decide +kernel, by decide +kernel⟩, List.mem_of_getElem? (i := 854) (by decide +kernel), List.mem_of_getElem? (i := 1173) (by decide +kernel), List.mem_of_getElem? (i := 1174) (by decide +kernel)⟩
theorem lw_p53 : lw_okq (⟨"ApartStepsModel", "readTurned", "(I)I"⟩, 14) := ⟨⟨by decide +kernel, by decide +kernel⟩, List.mem_of_getElem? (i := 854) (by decide +kernel), List.mem_of_getElem? (i := 1193) (by decide +kernel), List.mem_of_getElem? (i := 1194) (by decide +kernel)⟩
theorem lw_p54 : lw_okq (⟨"ApartStepsModel", "allSteps", "(Z)I"⟩, 14) := ⟨⟨by decide +kernel, by decide +kernel⟩, List.mem_of_getElem? (i := 854) (by decide +kernel), List.mem_of_getElem? (i := 1205) (by decide +kernel), List.mem_of_getElem? (i := 1206) (by decide +kernel)⟩
theorem lw_p55 : lw_okq (⟨"ApartStepsModel", "hashOfStalls", "(J)J"⟩, 14) := ⟨⟨by decide +kernel, by decide +kernel⟩, List.mem_of_getElem? (i := 854) (by decide +kernel), List.mem_of_getElem? (i := 1215) (by decide +kernel), List.mem_of_getElem? (i := 1216) (by decide +kernel)⟩
def lw_privs_4 : List (MethodName × Nat) := [(⟨"ApartStepsModel", "reason", "(I)I"⟩, 14), (⟨"ApartStepsModel", "does", "(I)V"⟩, 14), (⟨"ApartStepsModel", "sum", "()I"⟩, 14), (⟨"ApartStepsModel", "rich", "()I"⟩, 14), (⟨"ApartStepsModel", "reads", "()I"⟩, 14), (⟨"ApartStepsModel", "readTurned", "(I)I"⟩, 14), (⟨"ApartStepsModel", "allSteps", "(Z)I"⟩, 14), (⟨"ApartStepsModel", "hashOfStalls", "(J)J"⟩, 14)]
theorem lw_r4 : ∀ q ∈ lw_privs_4, lw_okq q := List.forall_mem_cons.mpr ⟨lw_p48, List.forall_mem_cons.mpr ⟨lw_p49, List.forall_mem_cons.mpr ⟨lw_p50, List.forall_mem_cons.mpr ⟨lw_p51, List.forall_mem_cons.mpr ⟨lw_p52, List.forall_mem_cons.mpr ⟨lw_p53, List.forall_mem_cons.mpr ⟨lw_p54, List.forall_mem_cons.mpr ⟨lw_p55, fun _ h => absurd h List.not_mem_nil⟩⟩⟩⟩⟩⟩⟩⟩
def lw_privs : List (MethodName × Nat) := lw_privs_1 ++ (lw_privs_2 ++ (lw_privs_3 ++ (lw_privs_4)))
def lw_tbl : List Cond := k2_sels lw_privs ++ tables_1
theorem lw_privs_ok : ∀ q ∈ lw_privs, lw_okq q := by
  show ∀ q ∈ lw_privs_1 ++ (lw_privs_2 ++ (lw_privs_3 ++ (lw_privs_4))), lw_okq q
  exact List.forall_mem_append.mpr ⟨lw_r1, List.forall_mem_append.mpr ⟨lw_r2, List.forall_mem_append.mpr ⟨lw_r3, lw_r4⟩⟩⟩
/-- the streams that the claim lets the run draw from -/
abbrev lw_cs : List Choice := [Jvm.Choice.named "NaN.bits"]
theorem lw_bits : nanBits ∈ lw_cs := by first | decide | exact List.mem_cons_self | simp [lw_cs, nanBits]

/-! ===== BEGIN words of one list among another's, by their places ===== -/
theorem goodIn_r {big : List Cond} (ws : List Cond) (ps : List Nat) (hp : ws = ps.filterMap (fun i => big[i]?)) (h : ws.all goodWord = true) : GoodIn big ws := by
  intro w hw
  have h1 := List.all_eq_true.mp h w hw
  rw [hp] at hw
  obtain ⟨i, -, hi⟩ := List.mem_filterMap.mp hw
  have hm : w ∈ big := by first | exact List.mem_of_getElem? hi | exact List.getElem?_mem hi
  exact ⟨hm, good_of_word h1⟩
theorem goodIn_app {big a b : List Cond} (ha : GoodIn big a) (hb : GoodIn big b) : GoodIn big (a ++ b) := fun w h => (List.mem_append.mp h).elim (ha w) (hb w)
theorem goodIn_ca {big a b : List Cond} {c : Cond} (ha : GoodIn big (c :: a)) (hb : GoodIn big b) : GoodIn big (c :: (a ++ b)) := fun w h => (List.mem_cons.mp h).elim (fun e => ha w (List.mem_cons.mpr (Or.inl e))) (fun h => (List.mem_append.mp h).elim (fun h => ha w (List.mem_cons.mpr (Or.inr h))) (hb w))
theorem goodIn_sub {big ws : List Cond} (hm : ∀ w ∈ ws, w ∈ big) (h : ws.all goodWord = true) : GoodIn big ws := fun w hw => ⟨hm w hw, good_of_word (List.all_eq_true.mp h w hw)⟩
/-! ===== END ===== -/

/-! ===== BEGIN exceptions that leave a method, and their catching by the caller (launches without stack traces) ===== -/
section VXA
/-! The laws vx_back, vx_callV, vx_callS, vx_callSW, vx_throw0, vx_throwS follow proofs of the library, with one case more: JvmDerived/Free/Laws.lean (Back.of_free), Shelf42/LK1.lean (callV, callS), Shelf/KitTraced.lean (throwNew0V, throwNewS). -/
/-- where a method has thrown q: the class by its name, the cell, what was written, the world -/
def vx_T (XC : String → State → State → Prop) (st : State) (q : Addr) (t : State) (mc ms : Nat) (free : Addr → Prop) : Prop :=
  ∃ (E : String) (ce : Cell) (L : List Loc), XC E st t ∧ t.heap[q]? = some ce ∧ ce.vm = .none ∧ st.vm.findClass E = some ce.cls ∧ st.WarmedH t.vm ∧ st.sameButNew ({ t with vm := st.vm } : State) L mc ms ∧ ∀ z ∈ L, free z.base
def vx_Q (Qc : Array Value → State → Outcome → State → Prop) (XC : String → State → State → Prop) (mc ms : Nat) (free : Addr → Prop) : Array Value → State → Outcome → State → Prop := fun a st o t =>
  (Qc a st o t ∧ ∃ L, FrameEnd st o t L mc ms ∧ ∀ q ∈ L, free q.base) ∨ ∃ q, o = .threw q ∧ vx_T XC st q t mc ms free
/-- a callee that returns or throws -/
def vx_Met (l : Launch) (y : MethodName) (ws : List Cond) (rm : Room) (Pc : Array Value → State → Prop) (Qc : Array Value → State → Outcome → State → Prop) (XC : String → State → State → Prop) (mc ms : Nat) (free : Addr → Prop) : Prop :=
  MetFree l y (headSpec ws rm) Pc (fun _ _ _ _ _ => True) (vx_Q Qc XC mc ms free)
def vx_Post (XC : String → State → State → Prop) (mc ms : Nat) (free : Addr → Prop) : Pt → Array Value → Addr → Pt → Prop := fun A a q B =>
  ∃ (g : JFrame) (mk : MethodId) (t : State) (L : List Loc) (E : String) (ce : Cell), B.U.heap = t.heap ∧ B.U.vm = t.vm ∧ XC E (A.U.calling g mk a) t ∧ t.heap[q]? = some ce ∧ ce.vm = .none ∧ A.U.vm.findClass E = some ce.cls ∧ B.locs = A.locs ++ L ∧ (∀ z ∈ L, free z.base) ∧ B.cells = A.cells + mc ∧ B.slots = A.slots + ms
def vx_Back (l : Launch) (R : Room) (p : Program) (e : Env) (below : List Frame) (s : State) (sargs : Array Value) (y : MethodName) (len W9 : Nat)
    (Pre : Pt → Array Value → Prop) (Post : Pt → Array Value → Option Value → Pt → Prop) (PostX : Pt → Array Value → Addr → Pt → Prop) : Prop :=
  ∀ (m : MethodId) (meth : Method) (c : Code) (A : Pt) (g : JFrame) (ig : Instr) (mk : MethodId) (a : Array Value),
    Stand p l e R s m sargs below meth c A.U A.locs A.cells A.slots → g.method = m → g.locals.size = c.maxLocals → decode c.code g.pc = .ok (ig, len) →
    2 * g.monitorRoom + (g.stack.map fun v => v.category).sum ≤ W9 → A.U.methodNamed? y = some mk → Pre A a →
    (∃ (v : Option Value) (B : Pt), Stand p l e R s m sargs below meth c B.U B.locs B.cells B.slots ∧ Post A a v B ∧
      Steps p.tables e below (doInvoke e (A.U.setTop g) [] mk a).1 (B.U.setTop { g with pc := g.pc + len, stack := v.toList ++ g.stack })) ∨
    (∃ (q : Addr) (B : Pt), Stand p l e R s m sargs below meth c B.U B.locs B.cells B.slots ∧ PostX A a q B ∧
      Steps p.tables e below (doInvoke e (A.U.setTop g) [] mk a).1 ((B.U.setTop g).pushFrame (.throwing q)))
section Payer
variable {l : Launch} {R : Room} {p : Program} {e : Env} {below : List Frame} {s : State} {sargs : Array Value} {y : MethodName} {len W9 : Nat}
theorem vx_back {ws : List Cond} {rm : Room} {Pc : Array Value → State → Prop} {Qc : Array Value → State → Outcome → State → Prop} {XC : String → State → State → Prop} {mc ms : Nat} {free : Addr → Prop} {bytes : ByteArray} {maxL : Nat} {ret : Option FieldType}
    (hM : vx_Met l y ws rm Pc Qc XC mc ms free) (hblind : FrameBlind Pc) (hrc : rm.cells = mc) (hrs : rm.slots = ms)
    (hframes : rm.frames + 1 ≤ R.frames) (hlocals : W9 + (maxL + 11) + rm.locals ≤ R.locals)
    (hws : ∀ w ∈ ws, ∀ a' U, s.WarmedH U.vm → w.before a' U = true) (hcode : Cond.code y bytes maxL ret ∈ ws) (hinit : ∀ a' U, s.WarmedH U.vm → (Cond.initialized y.cls).before a' U = true) :
    vx_Back l R p e below s sargs y len W9 (PreOf R mc ms Pc) (PostOf Qc mc ms free) (vx_Post XC mc ms free) := by
  intro m meth c A g ig mk a X hg hsize hdg hW hn hp
  have h1 : (headSpec ws rm).pre.before a A.U = true := atoms_intro fun w hw => hws w hw _ _ X.warmed
  have h2 : (Cond.code y bytes maxL ret).before a A.U = true := hws _ hcode _ _ X.warmed
  have h3 : (Cond.initialized y.cls).before a A.U = true := hinit _ _ X.warmed
  have h4 : A.cells + (headSpec ws rm).room.cells ≤ R.cells := by rw [show (headSpec ws rm).room.cells = mc from hrc]; exact hp.1
  have h5 : A.slots + (headSpec ws rm).room.slots ≤ R.slots := by rw [show (headSpec ws rm).room.slots = ms from hrs]; exact hp.2.1
  have hPc : Pc a (A.U.calling g mk a) := hblind _ _ _ _ hp.2.2
  obtain ⟨U, Ls, c0, s0⟩ := A
  dsimp only [Pt.U, Pt.locs, Pt.cells, Pt.slots] at h1 h2 h3 h4 h5 X hn hPc ⊢
  obtain ⟨methY, cY, hmY, hcY, -, hlY, -, -, -, -⟩ := Cond.code_spec hn h2
  obtain ⟨kY, hkY, -⟩ := className_of_methodNamed hn
  have hinitY : kY.init = .initialized := Cond.initialized_spec (findClass_of_methodNamed hn) hkY h3
  have h : At U g.method c below := by rw [hg]; exact X.here
  have hlocals9 : W9 + (maxL + 11) + (headSpec ws rm).room.locals ≤ R.locals := hlocals
  have happ : (headSpec ws rm).appliesLoose y e.platform (U.calling g mk a) = true :=
    Spec.appliesLoose_calling (g := g) h hdg hn hkY hinitY
      (X.room_calling (g := g) (R' := (headSpec ws rm).room) hsize hmY hcY hframes (by rw [hlY]; omega) h4 h5) h1
  obtain ⟨mid, hmid⟩ := h.above
  have hfr : (U.setTop g).frames = (.java g :: mid) ++ below := by rw [State.frames_setTop' g h.top, hmid]; rfl
  obtain ⟨o, s₂, hsteps, -, hend, hq⟩ := Steps.callFree hM p X.admits X.cas X.clock (acts := []) hfr happ hPc trivial
  have hq' : vx_Q Qc XC mc ms free a (U.calling g mk a) o s₂ := hq
  rw [State.frames_setTop' g h.top] at hend
  obtain ⟨g₀, hg0⟩ := Option.isSome_iff_exists.mp h.top
  obtain ⟨r, hr⟩ := State.topJava?_eq_some.mp hg0
  have hr' : (({ U with heap := s₂.heap, slotsUsed := s₂.slotsUsed } : State).setVm s₂.vm).frames = .java g₀ :: r := hr
  rcases hq' with ⟨hqc, L, hfe, hL⟩ | ⟨q, rfl, E, ce, L, hx, hce, hcv, hcl, hW₂, hsm, hL⟩
  · obtain ⟨⟨v, rfl⟩, hW₂, e2, q2, q3, q4, q5, q6⟩ := id hfe
    have e3 : s₂ = ({ (U.calling g mk a).setFrames s₂.frames with heap := s₂.heap, slotsUsed := s₂.slotsUsed } : State).setVm s₂.vm := by
      have : s₂ = ({ s₂ with vm := (U.calling g mk a).vm } : State).setVm s₂.vm := rfl
      rw [e2] at this
      exact this
    obtain ⟨c₂, i₂, len₂, hc₂, hd₂, hf₂⟩ := hend
    have hW' : U.WarmedH s₂.vm := hW₂
    have hcc : c₂ = c := by
      have h1 : s₂.code? g.method = U.code? g.method := by
        rw [State.code?_eq, State.code?_eq, hW'.alike.method?]
      exact Option.some.inj (hc₂.symm.trans (h1.trans h.code))
    subst hcc
    have hlen : len₂ = len := by rw [hdg] at hd₂; cases hd₂; rfl
    subst hlen
    have hs₂ : s₂ = (({ U with heap := s₂.heap, slotsUsed := s₂.slotsUsed } : State).setVm s₂.vm).setTop { g with pc := g.pc + len₂, stack := v.toList ++ g.stack } := by
      refine e3.trans ?_
      rw [hf₂, State.calling_eq h.top, State.setFrames_setFrames, State.setTop_of_frames _ hr', hr]
      rfl
    have hsame : U.sameButNew ({ U with heap := s₂.heap, slotsUsed := s₂.slotsUsed } : State) L mc ms := by
      refine ⟨?_, q2, q3, q4, q5, q6⟩
      obtain ⟨t, ht, -⟩ := State.frames_cons hr
      show ({ U with heap := s₂.heap, slotsUsed := s₂.slotsUsed } : State) = { U.setFrames U.frames with heap := s₂.heap, slotsUsed := s₂.slotsUsed }
      rw [State.setFrames_self ht]
    subst hg
    refine Or.inl ⟨v, ⟨(({ U with heap := s₂.heap, slotsUsed := s₂.slotsUsed } : State).setVm s₂.vm), Ls ++ L, c0 + mc, s0 + ms⟩,
      ⟨X.admits, X.cas, X.clock, X.frames, X.room, X.hears, X.method, X.code, (X.here.setHeapUsed s₂.heap s₂.slotsUsed).setVm hW'.alike, X.tail, State.WarmedH.trans X.warmed hW', X.limits, X.bytes, X.same.trans (hsame.setVm s.vm)⟩,
      ⟨g, mk, s₂, L, rfl, rfl, hqc, rfl, hL, rfl, rfl⟩, ?_⟩
    show Steps p.tables e below _ ((({ U with heap := s₂.heap, slotsUsed := s₂.slotsUsed } : State).setVm s₂.vm).setTop { g with pc := g.pc + len₂, stack := v.toList ++ g.stack })
    rw [← hs₂]
    exact hsteps
  · obtain ⟨e2, q2, q3, q4, q5, q6⟩ := id hsm
    have e3 : s₂ = ({ (U.calling g mk a).setFrames s₂.frames with heap := s₂.heap, slotsUsed := s₂.slotsUsed } : State).setVm s₂.vm := by
      have : s₂ = ({ s₂ with vm := (U.calling g mk a).vm } : State).setVm s₂.vm := rfl
      rw [e2] at this
      exact this
    have hf₂ : s₂.frames = .throwing q :: .java g :: U.frames.tail := hend
    have hW' : U.WarmedH s₂.vm := hW₂
    have hs₂ : s₂ = ((({ U with heap := s₂.heap, slotsUsed := s₂.slotsUsed } : State).setVm s₂.vm).setTop g).pushFrame (.throwing q) := by
      refine e3.trans ?_
      rw [hf₂, State.calling_eq h.top, State.setFrames_setFrames, State.pushFrame, State.frames_setTop _ hr', State.setTop_of_frames _ hr', State.setFrames_setFrames, hr]
      rfl
    have hsame : U.sameButNew ({ U with heap := s₂.heap, slotsUsed := s₂.slotsUsed } : State) L mc ms := by
      refine ⟨?_, q2, q3, q4, q5, q6⟩
      obtain ⟨t, ht, -⟩ := State.frames_cons hr
      show ({ U with heap := s₂.heap, slotsUsed := s₂.slotsUsed } : State) = { U.setFrames U.frames with heap := s₂.heap, slotsUsed := s₂.slotsUsed }
      rw [State.setFrames_self ht]
    subst hg
    refine Or.inr ⟨q, ⟨(({ U with heap := s₂.heap, slotsUsed := s₂.slotsUsed } : State).setVm s₂.vm), Ls ++ L, c0 + mc, s0 + ms⟩,
      ⟨X.admits, X.cas, X.clock, X.frames, X.room, X.hears, X.method, X.code, (X.here.setHeapUsed s₂.heap s₂.slotsUsed).setVm hW'.alike, X.tail, State.WarmedH.trans X.warmed hW', X.limits, X.bytes, X.same.trans (hsame.setVm s.vm)⟩,
      ⟨g, mk, s₂, L, E, ce, rfl, rfl, hx, hce, hcv, hcl, rfl, hL, rfl, rfl⟩, ?_⟩
    show Steps p.tables e below _ (((({ U with heap := s₂.heap, slotsUsed := s₂.slotsUsed } : State).setVm s₂.vm).setTop g).pushFrame (.throwing q))
    rw [← hs₂]
    exact hsteps
end Payer
section Calls
variable {p : Program} {l : Launch} {e : Env} {R : Room} {s : State} {m : MethodId} {args : Array Value} {below : List Frame} {meth : Method} {c : Code} {T : State} {locs : List Loc} {cells slots : Nat}
theorem vx_callV (X : Stand p l e R s m args below meth c T locs cells slots) (hexec : p.tables.exec = Jvm.exec) {own C : String} {index : Nat} {y : MethodName} {bytes : ByteArray} {maxL : Nat} {ret : Option FieldType}
    (hown : s.vm.findClass own = some m.cls) (hlink : (Cond.methodLink own index y).before args s = true) (hinst : (Cond.instanceMethod y).before args s = true) (hsel : (Cond.selects C y y).before args s = true)
    (hcode : (Cond.code y bytes maxL ret).before args s = true) (hy : y.cls ≠ "java/lang/invoke/MethodHandle" ∧ y.cls ≠ "java/lang/invoke/VarHandle")
    {W9 : Nat} {Pre : Pt → Array Value → Prop} {Post : Pt → Array Value → Option Value → Pt → Prop} {PostX : Pt → Array Value → Addr → Pt → Prop} (hK : vx_Back l R p e below s args y 3 W9 Pre Post PostX)
    {b : Addr} {cellB : Cell} (hcell : T.heap[b]? = some cellB) (hobj : cellB.vm.isStatics = false) (hcls : s.vm.findClass C = some cellB.cls)
    {g : JFrame} (hg : g.method = m) (hsize : g.locals.size = c.maxLocals) {argsL rest : List Value} (hlen : ∀ sig, parseMethodDescriptor y.desc = some sig → argsL.length = sig.parameters.length)
    (hstack : g.stack = argsL.reverse ++ .ref b :: rest) (hW : 2 * g.monitorRoom + (rest.map fun v => v.category).sum ≤ W9) (hdg : decode c.code g.pc = .ok (.invokevirtual index, 3))
    (hpre : ∀ vm₁, s.WarmedH vm₁ → Pre ⟨T.setVm vm₁, locs, cells, slots⟩ (Value.ref b :: argsL).toArray) :
    (∃ (v : Option Value) (vm₁ : Vm) (B : Pt), s.WarmedH vm₁ ∧ Stand p l e R s m args below meth c B.U B.locs B.cells B.slots ∧ Post ⟨T.setVm vm₁, locs, cells, slots⟩ (Value.ref b :: argsL).toArray v B ∧
      ∀ target, Steps p.tables e below (B.U.setTop { g with pc := g.pc + 3, stack := v.toList ++ rest }) target → Steps p.tables e below (T.setTop g) target) ∨
    (∃ (q : Addr) (vm₁ : Vm) (B : Pt), s.WarmedH vm₁ ∧ Stand p l e R s m args below meth c B.U B.locs B.cells B.slots ∧ PostX ⟨T.setVm vm₁, locs, cells, slots⟩ (Value.ref b :: argsL).toArray q B ∧
      Steps p.tables e below (T.setTop g) ((B.U.setTop { g with stack := rest }).pushFrame (.throwing q))) := by
  obtain ⟨mk, methM, hnamed, hmethM, hstM, habM⟩ := Cond.instanceMethod_spec hinst
  obtain ⟨methM', cM, hmethM', -, -, -, -, -, -, hsigM⟩ := Cond.code_spec hnamed hcode
  cases hmethM.symm.trans hmethM'
  obtain ⟨c2, r2, m2, q1, q2, q3, q4, kP, hkP, hkPi⟩ := Cond.selects_spec hsel
  cases hcls.symm.trans q1
  cases (State.methodFound?_of_named hnamed hy).symm.trans q2
  cases hnamed.symm.trans q3
  have hselP : selectMethod e.platform s.vm cellB.cls mk = .method mk := by rw [Launch.admits_selectMethod X.admits]; exact q4
  obtain ⟨vm₁, X₁, hstep₁⟩ := X.invokevirtual hexec hown hlink hnamed hmethM hstM hkP hkPi hy (a := b) (cell := cellB) hcell
    (fun z h => by rw [h] at hobj; cases hobj) hselP hmethM habM hkP hkPi (g := g) hg (argsL := argsL) (rest := rest) (hlen _ hsigM) hstack hdg
  rcases hK m meth c ⟨T.setVm vm₁, locs, cells, slots⟩ { g with stack := rest } (.invokevirtual index) mk (Value.ref b :: argsL).toArray X₁ hg hsize hdg hW (X₁.named hnamed) (hpre vm₁ X₁.warmed) with ⟨v, B, X', hpost, hsteps⟩ | ⟨q, B, X', hpost, hsteps⟩
  · exact Or.inl ⟨v, vm₁, B, X₁.warmed, X', hpost, fun target h => hstep₁ _ fun acts => by rw [doInvoke_state]; exact hsteps.trans h⟩
  · exact Or.inr ⟨q, vm₁, B, X₁.warmed, X', hpost, hstep₁ _ fun acts => by rw [doInvoke_state]; exact hsteps⟩
theorem vx_callS (X : Stand p l e R s m args below meth c T locs cells slots) (hexec : p.tables.exec = Jvm.exec) {own : String} {index : Nat} {y : MethodName} {bytes : ByteArray} {maxL : Nat} {ret : Option FieldType}
    (hown : s.vm.findClass own = some m.cls) (hlink : (Cond.methodLink own index y).before args s = true) (hstat : (Cond.static y).before args s = true) (hinit : (Cond.initialized y.cls).before args s = true)
    (hcode : (Cond.code y bytes maxL ret).before args s = true) (hy : y.cls ≠ "java/lang/invoke/MethodHandle" ∧ y.cls ≠ "java/lang/invoke/VarHandle")
    {W9 : Nat} {Pre : Pt → Array Value → Prop} {Post : Pt → Array Value → Option Value → Pt → Prop} {PostX : Pt → Array Value → Addr → Pt → Prop} (hK : vx_Back l R p e below s args y 3 W9 Pre Post PostX)
    {g : JFrame} (hg : g.method = m) (hsize : g.locals.size = c.maxLocals) {argsL rest : List Value} (hlen : ∀ sig, parseMethodDescriptor y.desc = some sig → argsL.length = sig.parameters.length)
    (hstack : g.stack = argsL.reverse ++ rest) (hW : 2 * g.monitorRoom + (rest.map fun v => v.category).sum ≤ W9) (hdg : decode c.code g.pc = .ok (.invokestatic index, 3))
    (hpre : ∀ vm₁, s.WarmedH vm₁ → Pre ⟨T.setVm vm₁, locs, cells, slots⟩ argsL.toArray) :
    (∃ (v : Option Value) (vm₁ : Vm) (B : Pt), s.WarmedH vm₁ ∧ Stand p l e R s m args below meth c B.U B.locs B.cells B.slots ∧ Post ⟨T.setVm vm₁, locs, cells, slots⟩ argsL.toArray v B ∧
      ∀ target, Steps p.tables e below (B.U.setTop { g with pc := g.pc + 3, stack := v.toList ++ rest }) target → Steps p.tables e below (T.setTop g) target) ∨
    (∃ (q : Addr) (vm₁ : Vm) (B : Pt), s.WarmedH vm₁ ∧ Stand p l e R s m args below meth c B.U B.locs B.cells B.slots ∧ PostX ⟨T.setVm vm₁, locs, cells, slots⟩ argsL.toArray q B ∧
      Steps p.tables e below (T.setTop g) ((B.U.setTop { g with stack := rest }).pushFrame (.throwing q))) := by
  obtain ⟨mk, hnamed⟩ := Cond.code_named hcode
  obtain ⟨methM, cM, hmethM, -, -, -, -, -, -, hsigM⟩ := Cond.code_spec hnamed hcode
  have hstatic : methM.isStatic = true := Cond.static_spec hnamed hmethM hstat
  obtain ⟨kP, hkP, -⟩ := className_of_methodNamed hnamed
  have hinitP : kP.init = .initialized := Cond.initialized_spec (findClass_of_methodNamed hnamed) hkP hinit
  obtain ⟨vm₁, X₁, hstep₁⟩ := X.invokestatic hexec hown hlink hnamed hmethM hstatic hkP hinitP hy (g := g) hg (argsL := argsL) (rest := rest) (hlen _ hsigM) hstack hdg
  rcases hK m meth c ⟨T.setVm vm₁, locs, cells, slots⟩ { g with stack := rest } (.invokestatic index) mk argsL.toArray X₁ hg hsize hdg hW (X₁.named hnamed) (hpre vm₁ X₁.warmed) with ⟨v, B, X', hpost, hsteps⟩ | ⟨q, B, X', hpost, hsteps⟩
  · exact Or.inl ⟨v, vm₁, B, X₁.warmed, X', hpost, fun target h => hstep₁ _ fun acts => by rw [doInvoke_state]; exact hsteps.trans h⟩
  · exact Or.inr ⟨q, vm₁, B, X₁.warmed, X', hpost, hstep₁ _ fun acts => by rw [doInvoke_state]; exact hsteps⟩
end Calls
theorem vx_cls {s : State} {T : State} {vm₁ : Vm} {E : String} {k : ClassId} (hW : s.WarmedH vm₁) (h : (T.setVm vm₁).vm.findClass E = some k) : s.vm.findClass E = some k := by
  have h1 : vm₁.findClass E = some k := h
  rw [hW.alike.findClass] at h1
  exact h1
/-- the method's frame g, with q thrown over it -/
def vx_W (p : Program) (l : Launch) (e : Env) (R : Room) (s : State) (m : MethodId) (args : Array Value) (below : List Frame) (meth : Method) (c : Code) (H : Heap) (locs : List Loc) (cells slots : Nat) (Q : State → Prop) (g : JFrame) (q : Addr) : Prop :=
  ∀ T : State, T.heap = H → Stand p l e R s m args below meth c T locs cells slots → ∃ t, Steps p.tables e below ((T.setTop g).pushFrame (.throwing q)) t ∧ Q t
def vx_Run (p : Program) (l : Launch) (e : Env) (R : Room) (s : State) (m : MethodId) (args : Array Value) (below : List Frame) (meth : Method) (c : Code) (H : Heap) (locs : List Loc) (cells slots mc ms : Nat) (g : JFrame) (rest : List Value) (Qa : State → Outcome → State → Prop) (XC : String → State → State → Prop) (free : Addr → Prop) : Prop :=
  ∀ T : State, T.heap = H → Stand p l e R s m args below meth c T locs cells slots →
    (∃ (v : Option Value) (st₀ t T' : State) (L : List Loc), st₀.heap = H ∧ Stand p l e R s m args below meth c T' (locs ++ L) (cells + mc) (slots + ms) ∧ (∀ q ∈ L, free q.base) ∧ T'.heap = t.heap ∧ T'.vm = t.vm ∧ Qa st₀ (.returned v) t ∧
      Goes p e below T g T' { g with pc := g.pc + 3, stack := v.toList ++ rest }) ∨
    (∃ (q : Addr) (st₀ t T' : State) (L : List Loc) (E : String) (ce : Cell), st₀.heap = H ∧ Stand p l e R s m args below meth c T' (locs ++ L) (cells + mc) (slots + ms) ∧ (∀ z ∈ L, free z.base) ∧ T'.heap = t.heap ∧ T'.vm = t.vm ∧ XC E st₀ t ∧ t.heap[q]? = some ce ∧ ce.vm = .none ∧ s.vm.findClass E = some ce.cls ∧
      Steps p.tables e below (T.setTop g) ((T'.setTop { g with stack := rest }).pushFrame (.throwing q)))
def vx_X {S : Type} (px : S → Prop) (B : String → S → State → Prop) (A : Nat → Prop) : String → State → State → Prop := fun E st t => ∃ u : S, px u ∧ B E u t ∧ va_F A st t
section Runs
variable {p : Program} {l : Launch} {e : Env} {R : Room} {s : State} {m : MethodId} {args : Array Value} {below : List Frame} {meth : Method} {c : Code} {H : Heap} {locs : List Loc} {cells slots : Nat}
variable {y : MethodName} {bytes cc : ByteArray} {maxL nL mc ms n index : Nat} {ret : Option FieldType} {ws : List Cond} {rm : Room} {Pc : Array Value → State → Prop} {Qc : Array Value → State → Outcome → State → Prop} {XC : String → State → State → Prop} {free : Addr → Prop} {Ts : List Cond} {own C : String} {b : Addr} {As rest : List Value} {g : JFrame}
theorem vx_callBack (cb : CallB R s args own index y bytes maxL ret ws rm mc ms n) (hM : vx_Met l y ws rm Pc Qc XC mc ms free) (hbl : FrameBlind Pc) : vx_Back l R p e below s args y 3 8 (PreOf R mc ms Pc) (PostOf Qc mc ms free) (vx_Post XC mc ms free) := by
  obtain ⟨hrc, hrs, hfr, hlo, hws, hcw, -, hini, -⟩ := cb
  exact vx_back (bytes := bytes) (maxL := maxL) (ret := ret) hM hbl hrc hrs hfr hlo hws hcw (fun a' U hW => word_at hW (Or.inl (by first | rfl | simp [Cond.onTables, Cond.keeps, Cond.steady])) hini)
theorem vx_runV (S : CallFix p m c cc nL s args Ts own) (hM : vx_Met l y ws rm Pc Qc XC mc ms free) (cw : CallW R s args own C index y bytes maxL ret ws rm mc ms n) (hp : PreV s H C b Pc As)
    (hg : g.method = m) (hn : As.length = n) (hsize : g.locals.size = nL) (hstack : g.stack = As.reverse ++ .ref b :: rest) (hW : 2 * g.monitorRoom + (rest.map fun v => v.category).sum ≤ 8) (hdg : decode cc g.pc = .ok (.invokevirtual index, 3)) (hf : cells + mc ≤ R.cells ∧ slots + ms ≤ R.slots) :
    vx_Run p l e R s m args below meth c H locs cells slots mc ms g rest (Qc (Value.ref b :: As).toArray) XC free := by
  have hK : vx_Back l R p e below s args y 3 8 (PreOf R mc ms Pc) (PostOf Qc mc ms free) (vx_Post XC mc ms free) := vx_callBack cw.1 hM hp.1
  obtain ⟨⟨-, -, -, -, -, -, hcode, -, hy, hlen, hl⟩, hin, hse⟩ := cw
  obtain ⟨hx, hb, hml, ho, -⟩ := S
  obtain ⟨-, ⟨cellB, hcB, hoB, hclB⟩, hPc⟩ := hp
  intro T hT X
  rcases vx_callV X hx (C := C) (bytes := bytes) (maxL := maxL) (ret := ret) ho hl hin hse hcode hy hK (by rw [hT]; exact hcB) hoB hclB hg (hsize.trans hml.symm) (argsL := As) (rest := rest) (fun sig h => hn.trans (hlen sig h)) hstack hW (by rw [hb]; exact hdg)
    (fun vm₁ hW₁ => ⟨hf.1, hf.2, hPc (T.setVm vm₁) hT hW₁⟩) with ⟨v, vm₁, ⟨U', l2, c2, s2⟩, hW₁, X', ⟨g', mk, t, L, e1, e2, hq, h1, hL, h2, h3⟩, st⟩ | ⟨q, vm₁, ⟨U', l2, c2, s2⟩, hW₁, X', ⟨g', mk, t, L, E, ce, e1, e2, hq, hce, hcv, hcl, h1, hL, h2, h3⟩, st⟩
  · dsimp only [Pt.U, Pt.locs, Pt.cells, Pt.slots] at X' e1 e2 h1 h2 h3 st
    subst h1; subst h2; subst h3
    exact Or.inl ⟨v, (T.setVm vm₁).calling g' mk (Value.ref b :: As).toArray, t, U', L, hT, X', hL, e1, e2, hq, st⟩
  · dsimp only [Pt.U, Pt.locs, Pt.cells, Pt.slots] at X' e1 e2 h1 h2 h3 st hcl
    subst h1; subst h2; subst h3
    exact Or.inr ⟨q, (T.setVm vm₁).calling g' mk (Value.ref b :: As).toArray, t, U', L, E, ce, hT, X', hL, e1, e2, hq, hce, hcv, vx_cls hW₁ hcl, st⟩
theorem vx_runS (S : CallFix p m c cc nL s args Ts own) (hM : vx_Met l y ws rm Pc Qc XC mc ms free) (cw : CallB R s args own index y bytes maxL ret ws rm mc ms n ∧ (Cond.static y).before args s = true) (hp : PreS s H Pc As)
    (hg : g.method = m) (hn : As.length = n) (hsize : g.locals.size = nL) (hstack : g.stack = As.reverse ++ rest) (hW : 2 * g.monitorRoom + (rest.map fun v => v.category).sum ≤ 8) (hdg : decode cc g.pc = .ok (.invokestatic index, 3)) (hf : cells + mc ≤ R.cells ∧ slots + ms ≤ R.slots) :
    vx_Run p l e R s m args below meth c H locs cells slots mc ms g rest (Qc As.toArray) XC free := by
  have hK : vx_Back l R p e below s args y 3 8 (PreOf R mc ms Pc) (PostOf Qc mc ms free) (vx_Post XC mc ms free) := vx_callBack cw.1 hM hp.1
  obtain ⟨⟨-, -, -, -, -, -, hcode, hini, hy, hlen, hl⟩, hstt⟩ := cw
  obtain ⟨hx, hb, hml, ho, -⟩ := S
  intro T hT X
  rcases vx_callS X hx (bytes := bytes) (maxL := maxL) (ret := ret) ho hl hstt hini hcode hy hK hg (hsize.trans hml.symm) (argsL := As) (rest := rest) (fun sig h => hn.trans (hlen sig h)) hstack hW (by rw [hb]; exact hdg)
    (fun vm₁ hW₁ => ⟨hf.1, hf.2, hp.2 (T.setVm vm₁) hT hW₁⟩) with ⟨v, vm₁, ⟨U', l2, c2, s2⟩, hW₁, X', ⟨g', mk, t, L, e1, e2, hq, h1, hL, h2, h3⟩, st⟩ | ⟨q, vm₁, ⟨U', l2, c2, s2⟩, hW₁, X', ⟨g', mk, t, L, E, ce, e1, e2, hq, hce, hcv, hcl, h1, hL, h2, h3⟩, st⟩
  · dsimp only [Pt.U, Pt.locs, Pt.cells, Pt.slots] at X' e1 e2 h1 h2 h3 st
    subst h1; subst h2; subst h3
    exact Or.inl ⟨v, (T.setVm vm₁).calling g' mk As.toArray, t, U', L, hT, X', hL, e1, e2, hq, st⟩
  · dsimp only [Pt.U, Pt.locs, Pt.cells, Pt.slots] at X' e1 e2 h1 h2 h3 st hcl
    subst h1; subst h2; subst h3
    exact Or.inr ⟨q, (T.setVm vm₁).calling g' mk As.toArray, t, U', L, E, ce, hT, X', hL, e1, e2, hq, hce, hcv, vx_cls hW₁ hcl, st⟩
end Runs
section Rows
variable {p : Program} {l : Launch} {e : Env} {R : Room} {s : State} {m : MethodId} {args : Array Value} {below : List Frame} {meth : Method} {c : Code} {H : Heap} {locs : List Loc} {cells slots : Nat} {Q : State → Prop}
variable {mc ms : Nat} {free : Addr → Prop} {A0 A1 : Nat → Prop} {H0 : Heap} {a : Array Value} {pc : Nat} {ls : Array Slot} {st0 rest : List Value}
theorem vx_keep {st₀ t T' : State} {L : List Loc} (h0 : st₀.heap = H) (e1 : T'.heap = t.heap) (hS : va_S A0 H0 H locs) (hA : ∀ q, q < H.size → A1 q → A0 q) (hf : ∀ q, free q → A0 q) (hL : ∀ q ∈ L, free q.base) (hF : va_F A1 st₀ t) :
    H.size ≤ T'.heap.size ∧ (∀ q : Nat, q < H.size → ¬ A1 q → T'.heap[q]? = H[q]?) ∧ va_S A0 H0 T'.heap (locs ++ L) := by
  obtain ⟨hz, hk⟩ := hF
  rw [h0] at hz hk
  exact ⟨by rw [e1]; exact hz, fun q h1 h2 => by rw [e1]; exact hk q h1 h2,
    ⟨Nat.le_trans hS.1 (by rw [e1]; exact hz), fun q h1 h2 => by rw [e1, hk q (Nat.lt_of_lt_of_le h1 hS.1) (fun z => h2 (hA q (Nat.lt_of_lt_of_le h1 hS.1) z))]; exact hS.2.1 q h1 h2, fun q hq => by
      rcases List.mem_append.mp hq with h | h
      · exact hS.2.2 q h
      · exact hf _ (hL q h)⟩⟩
theorem vx_calli {S SX : Type} {post : Int32 → S → Prop} {px : SX → Prop} {B : S → State → Prop} {BX : String → SX → State → Prop} {AX : Nat → Prop} (hr : vx_Run p l e R s m args below meth c H locs cells slots mc ms (F0 m pc ls st0) rest (va_Qi post B A1 a) (vx_X px BX AX) free) (hS : va_S A0 H0 H locs) (hA : ∀ q, q < H.size → A1 q → A0 q) (hf : ∀ q, free q → A0 q) (hAX : ∀ q, q < H.size → AX q → A0 q)
    (kx : ∀ (E : String) (ce : Cell) (q9 : Addr) (u : SX) (t : State) (H1 : Heap) (locs1 : List Loc), t.heap = H1 → s.vm.Alike t.vm → px u → BX E u t → H.size ≤ H1.size → (∀ q : Nat, q < H.size → ¬ AX q → H1[q]? = H[q]?) → va_S A0 H0 H1 locs1 → H1[q9]? = some ce → ce.vm = .none → s.vm.findClass E = some ce.cls → vx_W p l e R s m args below meth c H1 locs1 (cells + mc) (slots + ms) Q (F0 m pc ls rest) q9)
    (kk : ∀ (r : Int32) (u : S) (t : State) (H1 : Heap) (locs1 : List Loc), t.heap = H1 → s.vm.Alike t.vm → post r u → B u t → H.size ≤ H1.size → (∀ q : Nat, q < H.size → ¬ A1 q → H1[q]? = H[q]?) → va_S A0 H0 H1 locs1 → W p l e R s m args below meth c H1 locs1 (cells + mc) (slots + ms) Q (F0 m (pc + 3) ls (.int r :: rest))) : W p l e R s m args below meth c H locs cells slots Q (F0 m pc ls st0) := by
  intro T hT X
  rcases hr T hT X with ⟨v, st₀, t, T', L, h0, X', hL, e1, e2, ⟨⟨r, u, hv, hp, hb⟩, hF⟩, st⟩ | ⟨q, st₀, t, T', L, E, ce, h0, X', hL, e1, e2, ⟨u, hp, hb, hF⟩, hce, hcv, hcl, st⟩
  · cases hv
    obtain ⟨k1, k2, k3⟩ := vx_keep h0 e1 hS hA hf hL hF
    obtain ⟨t2, a1, b1⟩ := kk r u t T'.heap (locs ++ L) e1.symm (by rw [← e2]; exact X'.warmed.alike) hp hb k1 k2 k3 T' rfl X'
    exact ⟨t2, st t2 a1, b1⟩
  · obtain ⟨k1, k2, k3⟩ := vx_keep h0 e1 hS hAX hf hL hF
    obtain ⟨t2, a1, b1⟩ := kx E ce q u t T'.heap (locs ++ L) e1.symm (by rw [← e2]; exact X'.warmed.alike) hp hb k1 k2 k3 (by rw [e1]; exact hce) hcv hcl T' rfl X'
    exact ⟨t2, st.trans a1, b1⟩
theorem vx_calll {S SX : Type} {post : Int64 → S → Prop} {px : SX → Prop} {B : S → State → Prop} {BX : String → SX → State → Prop} {AX : Nat → Prop} (hr : vx_Run p l e R s m args below meth c H locs cells slots mc ms (F0 m pc ls st0) rest (va_Ql post B A1 a) (vx_X px BX AX) free) (hS : va_S A0 H0 H locs) (hA : ∀ q, q < H.size → A1 q → A0 q) (hf : ∀ q, free q → A0 q) (hAX : ∀ q, q < H.size → AX q → A0 q)
    (kx : ∀ (E : String) (ce : Cell) (q9 : Addr) (u : SX) (t : State) (H1 : Heap) (locs1 : List Loc), t.heap = H1 → s.vm.Alike t.vm → px u → BX E u t → H.size ≤ H1.size → (∀ q : Nat, q < H.size → ¬ AX q → H1[q]? = H[q]?) → va_S A0 H0 H1 locs1 → H1[q9]? = some ce → ce.vm = .none → s.vm.findClass E = some ce.cls → vx_W p l e R s m args below meth c H1 locs1 (cells + mc) (slots + ms) Q (F0 m pc ls rest) q9)
    (kk : ∀ (r : Int64) (u : S) (t : State) (H1 : Heap) (locs1 : List Loc), t.heap = H1 → s.vm.Alike t.vm → post r u → B u t → H.size ≤ H1.size → (∀ q : Nat, q < H.size → ¬ A1 q → H1[q]? = H[q]?) → va_S A0 H0 H1 locs1 → W p l e R s m args below meth c H1 locs1 (cells + mc) (slots + ms) Q (F0 m (pc + 3) ls (.long r :: rest))) : W p l e R s m args below meth c H locs cells slots Q (F0 m pc ls st0) := by
  intro T hT X
  rcases hr T hT X with ⟨v, st₀, t, T', L, h0, X', hL, e1, e2, ⟨⟨r, u, hv, hp, hb⟩, hF⟩, st⟩ | ⟨q, st₀, t, T', L, E, ce, h0, X', hL, e1, e2, ⟨u, hp, hb, hF⟩, hce, hcv, hcl, st⟩
  · cases hv
    obtain ⟨k1, k2, k3⟩ := vx_keep h0 e1 hS hA hf hL hF
    obtain ⟨t2, a1, b1⟩ := kk r u t T'.heap (locs ++ L) e1.symm (by rw [← e2]; exact X'.warmed.alike) hp hb k1 k2 k3 T' rfl X'
    exact ⟨t2, st t2 a1, b1⟩
  · obtain ⟨k1, k2, k3⟩ := vx_keep h0 e1 hS hAX hf hL hF
    obtain ⟨t2, a1, b1⟩ := kx E ce q u t T'.heap (locs ++ L) e1.symm (by rw [← e2]; exact X'.warmed.alike) hp hb k1 k2 k3 (by rw [e1]; exact hce) hcv hcl T' rfl X'
    exact ⟨t2, st.trans a1, b1⟩
theorem vx_callf {S SX : Type} {post : UInt32 → S → Prop} {px : SX → Prop} {B : S → State → Prop} {BX : String → SX → State → Prop} {AX : Nat → Prop} (hr : vx_Run p l e R s m args below meth c H locs cells slots mc ms (F0 m pc ls st0) rest (va_Qf post B A1 a) (vx_X px BX AX) free) (hS : va_S A0 H0 H locs) (hA : ∀ q, q < H.size → A1 q → A0 q) (hf : ∀ q, free q → A0 q) (hAX : ∀ q, q < H.size → AX q → A0 q)
    (kx : ∀ (E : String) (ce : Cell) (q9 : Addr) (u : SX) (t : State) (H1 : Heap) (locs1 : List Loc), t.heap = H1 → s.vm.Alike t.vm → px u → BX E u t → H.size ≤ H1.size → (∀ q : Nat, q < H.size → ¬ AX q → H1[q]? = H[q]?) → va_S A0 H0 H1 locs1 → H1[q9]? = some ce → ce.vm = .none → s.vm.findClass E = some ce.cls → vx_W p l e R s m args below meth c H1 locs1 (cells + mc) (slots + ms) Q (F0 m pc ls rest) q9)
    (kk : ∀ (r : UInt32) (u : S) (t : State) (H1 : Heap) (locs1 : List Loc), t.heap = H1 → s.vm.Alike t.vm → post r u → B u t → H.size ≤ H1.size → (∀ q : Nat, q < H.size → ¬ A1 q → H1[q]? = H[q]?) → va_S A0 H0 H1 locs1 → W p l e R s m args below meth c H1 locs1 (cells + mc) (slots + ms) Q (F0 m (pc + 3) ls (.float r :: rest))) : W p l e R s m args below meth c H locs cells slots Q (F0 m pc ls st0) := by
  intro T hT X
  rcases hr T hT X with ⟨v, st₀, t, T', L, h0, X', hL, e1, e2, ⟨⟨r, u, hv, hp, hb⟩, hF⟩, st⟩ | ⟨q, st₀, t, T', L, E, ce, h0, X', hL, e1, e2, ⟨u, hp, hb, hF⟩, hce, hcv, hcl, st⟩
  · cases hv
    obtain ⟨k1, k2, k3⟩ := vx_keep h0 e1 hS hA hf hL hF
    obtain ⟨t2, a1, b1⟩ := kk r u t T'.heap (locs ++ L) e1.symm (by rw [← e2]; exact X'.warmed.alike) hp hb k1 k2 k3 T' rfl X'
    exact ⟨t2, st t2 a1, b1⟩
  · obtain ⟨k1, k2, k3⟩ := vx_keep h0 e1 hS hAX hf hL hF
    obtain ⟨t2, a1, b1⟩ := kx E ce q u t T'.heap (locs ++ L) e1.symm (by rw [← e2]; exact X'.warmed.alike) hp hb k1 k2 k3 (by rw [e1]; exact hce) hcv hcl T' rfl X'
    exact ⟨t2, st.trans a1, b1⟩
theorem vx_calld {S SX : Type} {post : UInt64 → S → Prop} {px : SX → Prop} {B : S → State → Prop} {BX : String → SX → State → Prop} {AX : Nat → Prop} (hr : vx_Run p l e R s m args below meth c H locs cells slots mc ms (F0 m pc ls st0) rest (va_Qd post B A1 a) (vx_X px BX AX) free) (hS : va_S A0 H0 H locs) (hA : ∀ q, q < H.size → A1 q → A0 q) (hf : ∀ q, free q → A0 q) (hAX : ∀ q, q < H.size → AX q → A0 q)
    (kx : ∀ (E : String) (ce : Cell) (q9 : Addr) (u : SX) (t : State) (H1 : Heap) (locs1 : List Loc), t.heap = H1 → s.vm.Alike t.vm → px u → BX E u t → H.size ≤ H1.size → (∀ q : Nat, q < H.size → ¬ AX q → H1[q]? = H[q]?) → va_S A0 H0 H1 locs1 → H1[q9]? = some ce → ce.vm = .none → s.vm.findClass E = some ce.cls → vx_W p l e R s m args below meth c H1 locs1 (cells + mc) (slots + ms) Q (F0 m pc ls rest) q9)
    (kk : ∀ (r : UInt64) (u : S) (t : State) (H1 : Heap) (locs1 : List Loc), t.heap = H1 → s.vm.Alike t.vm → post r u → B u t → H.size ≤ H1.size → (∀ q : Nat, q < H.size → ¬ A1 q → H1[q]? = H[q]?) → va_S A0 H0 H1 locs1 → W p l e R s m args below meth c H1 locs1 (cells + mc) (slots + ms) Q (F0 m (pc + 3) ls (.double r :: rest))) : W p l e R s m args below meth c H locs cells slots Q (F0 m pc ls st0) := by
  intro T hT X
  rcases hr T hT X with ⟨v, st₀, t, T', L, h0, X', hL, e1, e2, ⟨⟨r, u, hv, hp, hb⟩, hF⟩, st⟩ | ⟨q, st₀, t, T', L, E, ce, h0, X', hL, e1, e2, ⟨u, hp, hb, hF⟩, hce, hcv, hcl, st⟩
  · cases hv
    obtain ⟨k1, k2, k3⟩ := vx_keep h0 e1 hS hA hf hL hF
    obtain ⟨t2, a1, b1⟩ := kk r u t T'.heap (locs ++ L) e1.symm (by rw [← e2]; exact X'.warmed.alike) hp hb k1 k2 k3 T' rfl X'
    exact ⟨t2, st t2 a1, b1⟩
  · obtain ⟨k1, k2, k3⟩ := vx_keep h0 e1 hS hAX hf hL hF
    obtain ⟨t2, a1, b1⟩ := kx E ce q u t T'.heap (locs ++ L) e1.symm (by rw [← e2]; exact X'.warmed.alike) hp hb k1 k2 k3 (by rw [e1]; exact hce) hcv hcl T' rfl X'
    exact ⟨t2, st.trans a1, b1⟩
theorem vx_callv {S SX : Type} {post : S → Prop} {px : SX → Prop} {B : S → State → Prop} {BX : String → SX → State → Prop} {AX : Nat → Prop} (hr : vx_Run p l e R s m args below meth c H locs cells slots mc ms (F0 m pc ls st0) rest (va_Qv post B A1 a) (vx_X px BX AX) free) (hS : va_S A0 H0 H locs) (hA : ∀ q, q < H.size → A1 q → A0 q) (hf : ∀ q, free q → A0 q) (hAX : ∀ q, q < H.size → AX q → A0 q)
    (kx : ∀ (E : String) (ce : Cell) (q9 : Addr) (u : SX) (t : State) (H1 : Heap) (locs1 : List Loc), t.heap = H1 → s.vm.Alike t.vm → px u → BX E u t → H.size ≤ H1.size → (∀ q : Nat, q < H.size → ¬ AX q → H1[q]? = H[q]?) → va_S A0 H0 H1 locs1 → H1[q9]? = some ce → ce.vm = .none → s.vm.findClass E = some ce.cls → vx_W p l e R s m args below meth c H1 locs1 (cells + mc) (slots + ms) Q (F0 m pc ls rest) q9)
    (kk : ∀ (u : S) (t : State) (H1 : Heap) (locs1 : List Loc), t.heap = H1 → s.vm.Alike t.vm → post u → B u t → H.size ≤ H1.size → (∀ q : Nat, q < H.size → ¬ A1 q → H1[q]? = H[q]?) → va_S A0 H0 H1 locs1 → W p l e R s m args below meth c H1 locs1 (cells + mc) (slots + ms) Q (F0 m (pc + 3) ls (rest))) : W p l e R s m args below meth c H locs cells slots Q (F0 m pc ls st0) := by
  intro T hT X
  rcases hr T hT X with ⟨v, st₀, t, T', L, h0, X', hL, e1, e2, ⟨⟨u, hv, hp, hb⟩, hF⟩, st⟩ | ⟨q, st₀, t, T', L, E, ce, h0, X', hL, e1, e2, ⟨u, hp, hb, hF⟩, hce, hcv, hcl, st⟩
  · cases hv
    obtain ⟨k1, k2, k3⟩ := vx_keep h0 e1 hS hA hf hL hF
    obtain ⟨t2, a1, b1⟩ := kk u t T'.heap (locs ++ L) e1.symm (by rw [← e2]; exact X'.warmed.alike) hp hb k1 k2 k3 T' rfl X'
    exact ⟨t2, st t2 a1, b1⟩
  · obtain ⟨k1, k2, k3⟩ := vx_keep h0 e1 hS hAX hf hL hF
    obtain ⟨t2, a1, b1⟩ := kx E ce q u t T'.heap (locs ++ L) e1.symm (by rw [← e2]; exact X'.warmed.alike) hp hb k1 k2 k3 (by rw [e1]; exact hce) hcv hcl T' rfl X'
    exact ⟨t2, st.trans a1, b1⟩
/-- caught by the row x of this method's table; the rows ahead don't take it -/
theorem vx_catch {own name : String} {E : String} {ce : Cell} {q : Addr} (hown : s.vm.findClass own = some m.cls) (pre : List ExceptionTableEntry) (x : ExceptionTableEntry) (suf : List ExceptionTableEntry) (hsplit : c.exceptionTable.toList = pre ++ x :: suf)
    (hpass : ∀ z ∈ pre, covers z pc = false ∨ (z.catchType ≠ 0 ∧ ∃ nm : String, (Cond.classLink own z.catchType nm).before args s = true ∧ va_Nc E nm s)) (hx : covers x pc = true) (h0 : x.catchType ≠ 0)
    (hlink : (Cond.classLink own x.catchType name).before args s = true) (hcast : (Cond.castable E name).before args s = true) (hcell : H[q]? = some ce) (hv : ce.vm = .none) (hcl : s.vm.findClass E = some ce.cls)
    (kk : W p l e R s m args below meth c H locs cells slots Q (F0 m x.handlerPc ls [.ref q])) : vx_W p l e R s m args below meth c H locs cells slots Q (F0 m pc ls rest) q := by
  intro T hT X
  have hpl : e.platform.magicAccessors = ({} : Platform).magicAccessors := by rw [X.admits.platform]
  obtain ⟨c3, c4, hc3, hc4, hasg⟩ := Cond.castable_spec hcast
  cases Option.some.inj (hc3.symm.trans hcl)
  obtain ⟨c5, hc5, hcl5⟩ := Cond.classLink_spec hown hlink e.platform hpl
  cases Option.some.inj (hc4.symm.trans hc5)
  obtain ⟨vm', X', st⟩ := X.thenCaughtThrough q (g := F0 m pc ls rest) rfl (Steps.refl _) (by rw [hT]; exact hcell) (by rw [hv]; rfl) (by obtain ⟨k9, h9, -⟩ := Vm.findClass_spec hcl; exact ⟨k9, h9⟩) pre x suf hsplit
    (fun z hz => by
      rcases hpass z hz with h | ⟨hz0, nm, hl1, hn1⟩
      · exact Or.inl h
      · obtain ⟨c6, hc6, hcl6⟩ := Cond.classLink_spec hown hl1 e.platform hpl
        obtain ⟨a8, b8, h1, h2, h3⟩ := hn1
        cases Option.some.inj (h1.symm.trans hcl)
        cases Option.some.inj (h2.symm.trans hc6)
        exact Or.inr ⟨hz0, _, hcl6, h3⟩) hx (Or.inr ⟨h0, c4, hcl5, hasg⟩)
  obtain ⟨t, a1, b1⟩ := kk (T.setVm vm') hT X'
  exact ⟨t, st.trans a1, b1⟩
end Rows
section Ends
variable {p : Program} {l : Launch} {e : Env} {R : Room} {s : State} {m : MethodId} {args : Array Value} {below : List Frame} {meth : Method} {c : Code} {H : Heap} {locs : List Loc} {cells slots : Nat} {Q : State → Prop}
variable {mc ms : Nat} {free : Addr → Prop} {A0 A1 : Nat → Prop} {H0 : Heap} {a : Array Value} {ls : Array Slot} {st0 rest : List Value}
variable {Qc : Array Value → State → Outcome → State → Prop} {XC : String → State → State → Prop}
/-- what a body that may throw owes at its end -/
def vx_MQ (below : List Frame) (Qc : Array Value → State → Outcome → State → Prop) (XC : String → State → State → Prop) (a : Array Value) (s : State) (mc ms : Nat) (free : Addr → Prop) : State → Prop := fun t =>
  ∃ o, t.status = .running ∧ Ended t below o ∧ vx_Q Qc XC mc ms free a s o t
theorem vx_ret {g : JFrame} {mc ms : Nat} (k : W p l e R s m args below meth c H locs cells slots (MQ below Qc args s mc ms free) g) : W p l e R s m args below meth c H locs cells slots (vx_MQ below Qc XC args s mc ms free) g := by
  intro T hT X
  obtain ⟨t, a1, o, b1, b2, b3, b4⟩ := k T hT X
  exact ⟨t, a1, o, b1, b2, Or.inl ⟨b3, b4⟩⟩
/-- not caught here: it goes on to the caller -/
theorem vx_widen {g : JFrame} {q : Addr} {k n : Nat} (h1 : cells ≤ k) (h2 : slots ≤ n) (kk : vx_W p l e R s m args below meth c H locs k n Q g q) : vx_W p l e R s m args below meth c H locs cells slots Q g q := fun T hT X => kk T hT (stand_widen X h1 h2)
theorem vx_out {pc : Nat} {E : String} {ce : Cell} {q : Addr} {mc ms : Nat} (hout : ∀ x ∈ c.exceptionTable.toList, covers x pc = false) (hlocks : meth.locks = false) (hcell : H[q]? = some ce) (hv : ce.vm = .none) (hcl : s.vm.findClass E = some ce.cls)
    (hx : ∀ t : State, t.heap = H → s.vm.Alike t.vm → XC E s t) (hf : ∀ z ∈ locs, free z.base) (hc : cells ≤ mc) (hs : slots ≤ ms) :
    vx_W p l e R s m args below meth c H locs cells slots (vx_MQ below Qc XC args s mc ms free) (F0 m pc ls rest) q := by
  intro T hT X
  obtain ⟨st1, hrun, hend, hW, hsm⟩ := X.leaveThrown q (g := F0 m pc ls rest) rfl rfl rfl hout hlocks
  have hcell9 : (T.setFrames (.throwing q :: below)).heap[q]? = some ce := by
    show T.heap[q]? = some ce
    rw [hT]; exact hcell
  exact ⟨_, st1, .threw q, hrun, hend, Or.inr ⟨q, rfl, E, ce, locs, hx _ hT hW.alike, hcell9, hv, hcl, hW, hsm.mono hc hs, hf⟩⟩
theorem vx_frame {U : State} {k n : Nat} (h : s.sameButNew ({ U with vm := s.vm } : State) locs k n) : s.heap.size ≤ U.heap.size ∧ ∀ q : Nat, q < s.heap.size → (∀ z ∈ locs, z.base ≠ q) → U.heap[q]? = s.heap[q]? := by
  obtain ⟨-, h2, -, -, -, h6⟩ := h
  refine ⟨h2, fun q hq hz => ?_⟩
  obtain ⟨c9, e1, e2, e3, e4⟩ := h6 q _ (Array.getElem?_eq_getElem hq)
  have hs : c9.slots = (s.heap[q]).slots := Array.ext_getElem? fun i => e4 i fun hm => hz _ hm rfl
  have h9 : c9 = s.heap[q] := by
    rw [hs] at e2
    exact e2
  have e5 : U.heap[q]? = some c9 := e1
  rw [e5, h9, Array.getElem?_eq_getElem hq]
/-- the words of a throw but the four that speak of the heap -/
def vx_no (w : Cond) : Bool := decide (w ≠ .isRef (.static Bundle.tN "UNASSIGNED_STACK" Bundle.steD)) && decide (w ≠ .isRef (.static Bundle.tN "SUPPRESSED_SENTINEL" Bundle.listD)) && decide (w ≠ .laysStatic Bundle.tN "UNASSIGNED_STACK" Bundle.steD) && decide (w ≠ .laysStatic Bundle.tN "SUPPRESSED_SENTINEL" Bundle.listD)
def vx_at0 (own : String) (ic : Nat) (X : String) (names : List String) : List Cond := (Bundle.ownAtoms0 own ic X names).filter vx_no
def vx_atS (own : String) (ic : Nat) (X : String) (names : List String) : List Cond := (Bundle.ownAtoms own ic X names).filter vx_no
/-- a word that the tables alone decide, or a good one -/
def vx_ot (w : Cond) : Bool := w.onTables || goodWord w
theorem vx_ot_at {args a' : Array Value} {s U : State} {w : Cond} (hW : s.WarmedH U.vm) (hvm : s.vm = U.vm) (hg : vx_ot w = true) (h : w.before args s = true) : w.before a' U = true := by
  simp only [vx_ot, Bool.or_eq_true] at hg
  rcases hg with hg | hg
  · exact va_tabs hg hvm h
  · exact word_at hW (good_of_word hg) h
/-- a list's words: the good ones out of the method's own list, the others by premises of their own -/
theorem vx_hat {args : Array Value} {s : State} {L B : List Cond} (h1 : ∀ w ∈ L.filter goodWord, w.before args s = true) (h2 : ∀ w ∈ L.filter (fun w => !goodWord w), w ∈ B) (h3 : ∀ w ∈ B, w.before args s = true) : ∀ w ∈ L, w.before args s = true := by
  intro w hw
  by_cases g : goodWord w = true
  · exact h1 w (List.mem_filter.mpr ⟨hw, g⟩)
  · refine h3 w (h2 w (List.mem_filter.mpr ⟨hw, ?_⟩))
    show (!goodWord w) = true
    cases hgw : goodWord w
    · rfl
    · exact absurd hgw g
theorem vx_c {args : Array Value} {s : State} {w : Cond} {B : List Cond} (h : w.before args s = true) (t : ∀ w ∈ B, w.before args s = true) : ∀ w' ∈ w :: B, w'.before args s = true := fun w' h' => (List.mem_cons.mp h').elim (fun e => by rw [e]; exact h) (t w')
theorem vx_n {args : Array Value} {s : State} : ∀ w ∈ ([] : List Cond), w.before args s = true := fun _ h => nomatch h
theorem vx_own {args : Array Value} {s : State} {L : List Cond} (h1 : ∀ w ∈ L.filter vx_no, w.before args s = true)
    (hU : (Cond.isRef (.static Bundle.tN "UNASSIGNED_STACK" Bundle.steD)).before args s = true) (hN : (Cond.isRef (.static Bundle.tN "SUPPRESSED_SENTINEL" Bundle.listD)).before args s = true)
    (lU : (Cond.laysStatic Bundle.tN "UNASSIGNED_STACK" Bundle.steD).before args s = true) (lN : (Cond.laysStatic Bundle.tN "SUPPRESSED_SENTINEL" Bundle.listD).before args s = true) : ∀ w ∈ L, w.before args s = true := by
  intro w hw
  by_cases e1 : w = .isRef (.static Bundle.tN "UNASSIGNED_STACK" Bundle.steD)
  · rw [e1]; exact hU
  · by_cases e2 : w = .isRef (.static Bundle.tN "SUPPRESSED_SENTINEL" Bundle.listD)
    · rw [e2]; exact hN
    · by_cases e3 : w = .laysStatic Bundle.tN "UNASSIGNED_STACK" Bundle.steD
      · rw [e3]; exact lU
      · by_cases e4 : w = .laysStatic Bundle.tN "SUPPRESSED_SENTINEL" Bundle.listD
        · rw [e4]; exact lN
        · exact h1 w (List.mem_filter.mpr ⟨hw, by unfold vx_no; rw [decide_eq_true e1, decide_eq_true e2, decide_eq_true e3, decide_eq_true e4]; rfl⟩)
/-- where a static field lies, its class's statics cell in H -/
def vx_L (C n d : String) (A : Nat → Prop) (U : State) (H : Heap) : Prop := ∃ (c : ClassId) (k : Class) (i : Nat) (f : Field) (a : Nat) (cell : Cell), U.vm.findClass C = some c ∧ U.fieldFound? C n d = some (c, k, i, f) ∧ f.isStatic = true ∧ k.statics = some a ∧ H[a]? = some cell ∧ cell.vm.isStatics = true ∧ cell.cls = c ∧ f.slot < cell.slots.size ∧ k.staticTypes[f.slot]? = some f.type ∧ ¬ A a
theorem vx_L.moved {C n d : String} {A : Nat → Prop} {u U : State} {H : Heap} (hvm : u.vm.Alike U.vm) (h : vx_L C n d A u H) : vx_L C n d A U H := by
  obtain ⟨c, k, i, f, a, cell, h1, h2, h3, h4, h5, h6, h7, h8, h9, h10⟩ := h
  obtain ⟨k', hi', he⟩ := State.fieldFound?_setVm hvm h2
  exact ⟨c, k', i, f, a, cell, by rw [hvm.findClass]; exact h1, hi', h3, by rw [he]; exact h4, h5, h6, h7, h8, by rw [he]; exact h9, h10⟩
theorem vx_L.kept {C n d : String} {A : Nat → Prop} {U : State} {H H1 : Heap} (h : vx_L C n d A U H) (hq : ∀ a : Nat, a < H.size → ¬ A a → H1[a]? = H[a]?) : vx_L C n d A U H1 := by
  obtain ⟨c, k, i, f, a, cell, h1, h2, h3, h4, h5, h6, h7, h8, h9, h10⟩ := h
  exact ⟨c, k, i, f, a, cell, h1, h2, h3, h4, by rw [hq a (Array.getElem?_eq_some_iff.mp h5).1 h10]; exact h5, h6, h7, h8, h9, h10⟩
theorem vx_L.narrow {C n d : String} {A B : Nat → Prop} {U : State} {H : Heap} (h : vx_L C n d A U H) (hAB : ∀ q, B q → A q) : vx_L C n d B U H := by
  obtain ⟨c, k, i, f, a, cell, h1, h2, h3, h4, h5, h6, h7, h8, h9, h10⟩ := h
  exact ⟨c, k, i, f, a, cell, h1, h2, h3, h4, h5, h6, h7, h8, h9, fun z => h10 (hAB _ z)⟩
theorem vx_L.word {C n d : String} {A : Nat → Prop} {s : State} {args : Array Value} (h : vx_L C n d A s s.heap) : (Cond.laysStatic C n d).before args s = true := by
  obtain ⟨c, k, i, f, a, cell, h1, h2, h3, h4, h5, h6, h7, h8, h9, -⟩ := h
  show (Cond.laysStatic C n d).holds args s none s [] = true
  exact Cond.laysStatic_of h1 h2 h3 h4 h5 h6 h7 h8 h9
/-- .. and what it holds: null or some reference -/
def vx_Zq (C n d : String) (A : Nat → Prop) (U : State) (H : Heap) : Prop := va_Zq C n d A U H ∧ vx_L C n d A U H
theorem vx_Zq.moved {C n d : String} {A : Nat → Prop} {u U : State} {H : Heap} (hvm : u.vm.Alike U.vm) (h : vx_Zq C n d A u H) : vx_Zq C n d A U H := ⟨va_Zq.moved hvm h.1, vx_L.moved hvm h.2⟩
theorem vx_Zq.kept {C n d : String} {A : Nat → Prop} {U : State} {H H1 : Heap} (h : vx_Zq C n d A U H) (hq : ∀ a : Nat, a < H.size → ¬ A a → H1[a]? = H[a]?) : vx_Zq C n d A U H1 := ⟨va_Zq.kept h.1 hq, vx_L.kept h.2 hq⟩
theorem vx_Zq.narrow {C n d : String} {A B : Nat → Prop} {U : State} {H : Heap} (h : vx_Zq C n d A U H) (hAB : ∀ q, B q → A q) : vx_Zq C n d B U H := ⟨va_Zq.narrow h.1 hAB, vx_L.narrow h.2 hAB⟩
theorem vx_Zqof {args : Array Value} {s : State} {C n d : String} {A : Nat → Prop} (hl : (Cond.laysStatic C n d).before args s = true) (hini : (Cond.initialized C).before args s = true) (h : (Cond.isRef (.static C n d)).before args s = true) (hA : ∀ a : Nat, a < s.heap.size → ¬ A a) : vx_Zq C n d A s s.heap := by
  refine ⟨va_Zqof hl hini h hA, ?_⟩
  obtain ⟨c, k, i, f, a, cell, h1, h2, h3, h4, h5, h6, h7, h8, h9⟩ := Cond.laysStatic_spec hl
  exact ⟨c, k, i, f, a, cell, h1, h2, h3, h4, h5, h6, h7, h8, h9, hA a (Array.getElem?_eq_some_iff.mp h5).1⟩
theorem vx_isRef {C n d : String} {v : Value} {A : Nat → Prop} {s : State} {args : Array Value} (h : va_Z C n d v A s s.heap) (hv : v.isRef = true) : (Cond.isRef (.static C n d)).before args s = true := by
  obtain ⟨cf, kf, fi, f, a, cell, h1, h2, h3, h4, h5, h6, h7, -⟩ := h
  have he : (Term.static C n d).eval args s none [] s = some v := by
    simp [Term.eval, State.fieldNamed?, h1, h2, h4, h5, h6, h7]
  simp only [Cond.before, Cond.holds, Cond.value, he]
  cases v <;> simp_all [Value.isRef]
theorem vx_isRefq {C n d : String} {A : Nat → Prop} {s : State} {args : Array Value} (h : va_Zq C n d A s s.heap) : (Cond.isRef (.static C n d)).before args s = true := by
  rcases h with h | ⟨t, h⟩
  · exact vx_isRef h rfl
  · exact vx_isRef h rfl
/-- the same frame, seen from here: as if the method were called anew in this heap -/
theorem vx_rebase {T : State} (X : Stand p l e R s m args below meth c T locs cells slots) {R' : Room} (hf : R'.frames ≤ R.frames) (hl : R'.locals ≤ R.locals) (hc : cells + R'.cells ≤ R.cells) (hs : slots + R'.slots ≤ R.slots) :
    Stand p l e R' ((T.setVm s.vm).setFrames (.invoking m args :: below)) m args below meth c T [] 0 0 := by
  have htop : (T.setVm s.vm).topJava?.isSome := X.here.top
  have hF : ((T.setVm s.vm).setFrames (.invoking m args :: below)).frames = .invoking m args :: below := State.frames_setFrames _ (State.cur_lt_of_top htop)
  obtain ⟨g₀, hg0⟩ := Option.isSome_iff_exists.mp htop
  obtain ⟨r, hr⟩ := State.topJava?_eq_some.mp hg0
  have hl9 : e.platform.stackLimits (T.setVm s.vm).me = e.platform.stackLimits s.me := X.limits
  have hb9 : (T.setVm s.vm).me.stackBytes = s.me.stackBytes := X.bytes
  refine ⟨X.admits, X.cas, X.clock, hF, ?_, X.hears, X.method, X.code, X.here, X.tail, X.warmed, ?_, ?_, ?_⟩
  · have h := X.room
    have hU : ((T.setVm s.vm).setFrames (.invoking m args :: below)).localsInUse = s.localsInUse := by
      rw [State.localsInUse_invoking hF (meth := meth) (c := c) X.method X.code, State.localsInUse_invoking X.frames X.method X.code]
    simp only [State.hasRoom, Bool.and_eq_true, decide_eq_true_eq] at h ⊢
    obtain ⟨⟨⟨⟨h1, h2, h3, h4, h5, h6⟩, h7⟩, h8⟩, h9⟩ := h
    rw [X.frames, List.length_cons] at h2 h3
    have q1 := X.heapSize
    have q2 := X.used
    simp only [hF, hU, List.length_cons, State.stackLimits_setFrames, State.stackBytes_setFrames, hl9, hb9]
    refine ⟨⟨⟨⟨by omega, by omega, by omega, by omega, by omega, h6⟩, ?_⟩, ?_⟩, X.book⟩
    · show T.heap.size + R'.cells ≤ e.platform.maxCells
      omega
    · show T.slotsUsed + R'.slots ≤ e.platform.maxSlots
      omega
  · rw [State.stackLimits_setFrames]; rfl
  · rw [State.stackBytes_setFrames]; rfl
  · refine ⟨?_, Nat.le_refl _, Nat.le_refl _, ?_, ?_, fun a c9 h9 => ⟨c9, h9, rfl, rfl, fun _ _ => rfl⟩⟩
    · obtain ⟨t, ht, -⟩ := State.frames_cons hr
      show T.setVm s.vm = { ((T.setVm s.vm).setFrames (.invoking m args :: below)).setFrames (T.setVm s.vm).frames with heap := T.heap, slotsUsed := T.slotsUsed }
      rw [State.setFrames_setFrames, State.setFrames_self ht]
      rfl
    · show T.slotsUsed = T.slotsUsed + ((T.heap.toList.drop T.heap.size).map (·.slots.size)).sum
      rw [List.drop_eq_nil_of_le (Nat.le_of_eq Array.length_toList)]
      rfl
    · show ((T.heap.toList.drop T.heap.size).map (·.slots.size)).sum ≤ 0
      rw [List.drop_eq_nil_of_le (Nat.le_of_eq Array.length_toList)]
      exact Nat.le_refl _
/-- 'throw new E()': new; dup; invokespecial; athrow -/
theorem vx_throw0 {cc : ByteArray} {pc : Nat} (hexec : p.tables.exec = Jvm.exec) (hb : c.code = cc) (hl : l.stackTraces = false) {own cls : String} {names : List String} {ik ic mc ms : Nat} {A : Nat → Prop}
    (hown : s.vm.findClass own = some m.cls) (hcls : Bundle.fit cls = true) (hnames : ∀ n ∈ names, Bundle.fit n = true)
    (hk : (Cond.classLink own ik cls).before args s = true) (hini : (Cond.initialized cls).before args s = true) (hat : ∀ w ∈ vx_at0 own ic cls names, w.before args s = true)
    (hgood : ∀ w ∈ Cond.classLink own ik cls :: Cond.initialized cls :: vx_at0 own ic cls names, vx_ot w = true)
    (hU : vx_Zq Bundle.tN "UNASSIGNED_STACK" Bundle.steD A s s.heap) (hN : vx_Zq Bundle.tN "SUPPRESSED_SENTINEL" Bundle.listD A s s.heap) (hS : va_S A s.heap H locs) (hsize : ls.size = c.maxLocals)
    (d0 : decode cc pc = .ok (.new ik, 3)) (d3 : decode cc (pc + 3) = .ok (.dup, 1)) (d4 : decode cc (pc + 4) = .ok (.invokespecial ic, 3)) (d7 : decode cc (pc + 7) = .ok (.athrow, 1))
    (hout : ∀ x ∈ c.exceptionTable.toList, covers x (pc + 7) = false)
    (hRframes : names.length + 3 < R.frames) (hRlocals : (rest.map fun v => v.category).sum + (13 * (names.length + 1) + 42) ≤ R.locals) (hRcells : cells + 1 ≤ R.cells) (hRslots : slots + 6 ≤ R.slots) (hlocks : meth.locks = false)
    (hx : ∀ t : State, s.vm.Alike t.vm → H.size ≤ t.heap.size → (∀ q : Nat, q < H.size → t.heap[q]? = H[q]?) → XC cls s t)
    (hf : ∀ z ∈ locs, free z.base) (hc : cells + 1 ≤ mc) (hs : slots + 6 ≤ ms) :
    W p l e R s m args below meth c H locs cells slots (vx_MQ below Qc XC args s mc ms free) (F0 m pc ls rest) := by
  intro T hT X
  have htr : e.platform.stackTraces = false := (show e.platform.stackTraces = l.stackTraces by rw [X.admits.platform]).trans hl
  have Y := vx_rebase X (R' := { frames := R.frames, locals := R.locals, cells := 1, slots := 6 }) (Nat.le_refl _) (Nat.le_refl _) hRcells hRslots
  obtain ⟨s', hA⟩ : ∃ z, z = (T.setVm s.vm).setFrames (.invoking m args :: below) := ⟨_, rfl⟩
  rw [← hA] at Y
  have hvm : s'.vm = s.vm := by rw [hA]; rfl
  have hhp : s'.heap = H := by rw [hA]; exact hT
  have hW0 : s.WarmedH s'.vm := by rw [hvm]; exact State.WarmedH.refl s
  have hat' : ∀ w ∈ vx_at0 own ic cls names, w.before args s' = true := fun w hw => vx_ot_at hW0 hvm.symm (hgood w (List.mem_cons_of_mem _ (List.mem_cons_of_mem _ hw))) (hat w hw)
  have hk' : (Cond.classLink own ik cls).before args s' = true := vx_ot_at hW0 hvm.symm (hgood _ List.mem_cons_self) hk
  have hini' : (Cond.initialized cls).before args s' = true := vx_ot_at hW0 hvm.symm (hgood _ (List.mem_cons_of_mem _ List.mem_cons_self)) hini
  have hU' : vx_Zq Bundle.tN "UNASSIGNED_STACK" Bundle.steD A s' s'.heap := by rw [hhp]; exact vx_Zq.moved hW0.alike (hU.kept hS.2.1)
  have hN' : vx_Zq Bundle.tN "SUPPRESSED_SENTINEL" Bundle.listD A s' s'.heap := by rw [hhp]; exact vx_Zq.moved hW0.alike (hN.kept hS.2.1)
  have h : ∀ w ∈ Bundle.ownAtoms0 own ic cls names, w.before args s' = true := vx_own hat' (vx_isRefq hU'.1) (vx_isRefq hN'.1) hU'.2.word hN'.2.word
  have hown' : s'.vm.findClass own = some m.cls := by rw [hvm]; exact hown
  have hins : (Cond.instantiable cls 6).before args s' = true := h _ (by simp [Bundle.ownAtoms0])
  obtain ⟨vm₁, cX, kX, hfX, hkX, -, -, X₁, st1⟩ := Y.newCold hexec (own := own) (C := cls) (index := ik) (n := 6) hown' hk' hins hini'
    (g := F0 m pc ls rest) rfl (by rw [hb]; exact d0) (Nat.le_refl _) (Nat.le_refl _)
  generalize hT1 : (T.setVm vm₁).pushCell { cls := cX, slots := kX.instanceTypes.map defaultValue, vm := .none } = T1 at X₁ st1
  have hcat : (Value.ref T.heap.size).category = 1 := rfl
  have hcellA : T1.heap[T.heap.size]? = some (freshCell cX kX) := by rw [← hT1]; exact State.heap_pushCell_size _ _
  have d3' : decode c.code (pc + 3) = .ok (.dup, 1) := by rw [hb]; exact d3
  obtain ⟨U, hsteps, hrun, hend, hW, hsame, ce, hce, hO⟩ := X₁.ctorThrow0 hexec htr (own := own) (cls := cls) (names := names) (ic := ic) hown' hcls hnames h (fun x hx => nomatch hx) hfX hkX hcellA (by rw [hhp, hT]; exact Nat.le_refl _)
    (g := { method := m, pc := pc + 4, locals := ls, stack := .ref T.heap.size :: .ref T.heap.size :: rest, locked := none }) rfl hsize rfl rfl (rest := rest) rfl
    (by rw [hb]; exact d4) (by rw [hb]; exact d7) hout hRframes (by simp only [List.map_cons, List.sum_cons, hcat]; omega) hlocks
  obtain ⟨f1, f2⟩ := vx_frame hsame
  rw [hhp] at f1 f2
  have hWs : s.WarmedH U.vm := State.WarmedH.trans hW0 hW
  have hcl : s.vm.findClass cls = some ce.cls := by
    have h9 := hO.cls
    rw [hvm] at h9
    exact h9
  have hall : s.sameButNew ({ U with vm := s.vm } : State) locs mc ms := by
    subst hA
    obtain ⟨e1, e2⟩ := hsame
    rw [State.setFrames_setFrames] at e1
    have h2 : (T.setVm s.vm).sameButNew ({ U with vm := s.vm } : State) [] (0 + 1) (0 + 6) := ⟨e1, e2⟩
    have h3 := X.same.trans h2
    rw [List.append_nil] at h3
    exact h3.mono hc hs
  refine ⟨U, ?_, .threw T.heap.size, hrun, hend, Or.inr ⟨T.heap.size, rfl, cls, ce, locs, hx U hWs.alike f1 (fun q hq => f2 q hq (fun z hz => nomatch hz)), hce, hO.vm, hcl, hWs, hall, hf⟩⟩
  refine st1 _ ?_
  show Steps p.tables e below (T1.setTop { method := m, pc := pc + 3, locals := ls, stack := .ref T.heap.size :: rest, locked := none }) _
  jvm_step X₁.here [X₁.here.top, hexec, d3', Value.category]
  exact hsteps
/-- 'throw new E("text")': new; dup; ldc; invokespecial; athrow -/
theorem vx_throwS {cc : ByteArray} {pc : Nat} (hexec : p.tables.exec = Jvm.exec) (hb : c.code = cc) (hl : l.stackTraces = false) {own cls text : String} {names : List String} {ik is ic mc ms sa : Nat} {A : Nat → Prop}
    (hown : s.vm.findClass own = some m.cls) (hcls : Bundle.fit cls = true) (hnames : ∀ n ∈ names, Bundle.fit n = true)
    (hk : (Cond.classLink own ik cls).before args s = true) (hini : (Cond.initialized cls).before args s = true) (hstr : vk_R own is text sa s) (hat : ∀ w ∈ vx_atS own ic cls names, w.before args s = true)
    (hgood : ∀ w ∈ Cond.classLink own ik cls :: Cond.initialized cls :: vx_atS own ic cls names, vx_ot w = true)
    (hU : vx_Zq Bundle.tN "UNASSIGNED_STACK" Bundle.steD A s s.heap) (hN : vx_Zq Bundle.tN "SUPPRESSED_SENTINEL" Bundle.listD A s s.heap) (hS : va_S A s.heap H locs) (hsize : ls.size = c.maxLocals)
    (d0 : decode cc pc = .ok (.new ik, 3)) (d3 : decode cc (pc + 3) = .ok (.dup, 1)) (d4 : decode cc (pc + 4) = .ok (.ldc is, 2)) (d6 : decode cc (pc + 6) = .ok (.invokespecial ic, 3)) (d9 : decode cc (pc + 9) = .ok (.athrow, 1))
    (hout : ∀ x ∈ c.exceptionTable.toList, covers x (pc + 9) = false)
    (hRframes : names.length + 3 < R.frames) (hRlocals : (rest.map fun v => v.category).sum + (13 * (names.length + 1) + 43) ≤ R.locals) (hRcells : cells + 1 ≤ R.cells) (hRslots : slots + 6 ≤ R.slots) (hlocks : meth.locks = false)
    (hx : ∀ t : State, s.vm.Alike t.vm → H.size ≤ t.heap.size → (∀ q : Nat, q < H.size → t.heap[q]? = H[q]?) → XC cls s t)
    (hf : ∀ z ∈ locs, free z.base) (hc : cells + 1 ≤ mc) (hs : slots + 6 ≤ ms) :
    W p l e R s m args below meth c H locs cells slots (vx_MQ below Qc XC args s mc ms free) (F0 m pc ls rest) := by
  intro T hT X
  have htr : e.platform.stackTraces = false := (show e.platform.stackTraces = l.stackTraces by rw [X.admits.platform]).trans hl
  have Y := vx_rebase X (R' := { frames := R.frames, locals := R.locals, cells := 1, slots := 6 }) (Nat.le_refl _) (Nat.le_refl _) hRcells hRslots
  obtain ⟨s', hA⟩ : ∃ z, z = (T.setVm s.vm).setFrames (.invoking m args :: below) := ⟨_, rfl⟩
  rw [← hA] at Y
  have hvm : s'.vm = s.vm := by rw [hA]; rfl
  have hhp : s'.heap = H := by rw [hA]; exact hT
  have hW0 : s.WarmedH s'.vm := by rw [hvm]; exact State.WarmedH.refl s
  have hat' : ∀ w ∈ vx_atS own ic cls names, w.before args s' = true := fun w hw => vx_ot_at hW0 hvm.symm (hgood w (List.mem_cons_of_mem _ (List.mem_cons_of_mem _ hw))) (hat w hw)
  have hk' : (Cond.classLink own ik cls).before args s' = true := vx_ot_at hW0 hvm.symm (hgood _ List.mem_cons_self) hk
  have hini' : (Cond.initialized cls).before args s' = true := vx_ot_at hW0 hvm.symm (hgood _ (List.mem_cons_of_mem _ List.mem_cons_self)) hini
  have hU' : vx_Zq Bundle.tN "UNASSIGNED_STACK" Bundle.steD A s' s'.heap := by rw [hhp]; exact vx_Zq.moved hW0.alike (hU.kept hS.2.1)
  have hN' : vx_Zq Bundle.tN "SUPPRESSED_SENTINEL" Bundle.listD A s' s'.heap := by rw [hhp]; exact vx_Zq.moved hW0.alike (hN.kept hS.2.1)
  have h : ∀ w ∈ Bundle.ownAtoms own ic cls names, w.before args s' = true := vx_own hat' (vx_isRefq hU'.1) (vx_isRefq hN'.1) hU'.2.word hN'.2.word
  have hown' : s'.vm.findClass own = some m.cls := by rw [hvm]; exact hown
  have hins : (Cond.instantiable cls 6).before args s' = true := h _ (by simp [Bundle.ownAtoms])
  obtain ⟨vm₁, cX, kX, hfX, hkX, -, -, X₁, st1⟩ := Y.newCold hexec (own := own) (C := cls) (index := ik) (n := 6) hown' hk' hins hini'
    (g := F0 m pc ls rest) rfl (by rw [hb]; exact d0) (Nat.le_refl _) (Nat.le_refl _)
  generalize hT1 : (T.setVm vm₁).pushCell { cls := cX, slots := kX.instanceTypes.map defaultValue, vm := .none } = T1 at X₁ st1
  have hcat : (Value.ref T.heap.size).category = 1 := rfl
  have hcellA : T1.heap[T.heap.size]? = some (freshCell cX kX) := by rw [← hT1]; exact State.heap_pushCell_size _ _
  have d3' : decode c.code (pc + 3) = .ok (.dup, 1) := by rw [hb]; exact d3
  have d4' : decode c.code (pc + 4) = .ok (.ldc is, 2) := by rw [hb]; exact d4
  have hstr' : vk_R own is text sa s' := vk_R.warm hW0 hstr
  obtain ⟨U, hsteps, hrun, hend, hW, hsame, ce, hce, hO⟩ := X₁.ctorThrowS hexec htr (own := own) (cls := cls) (names := names) (ic := ic) hown' hcls hnames h (fun x hx => nomatch hx) hfX hkX hcellA (by rw [hhp, hT]; exact Nat.le_refl _) (msg := .ref sa) rfl
    (g := { method := m, pc := pc + 6, locals := ls, stack := .ref sa :: .ref T.heap.size :: .ref T.heap.size :: rest, locked := none }) rfl hsize rfl rfl (rest := rest) rfl
    (by rw [hb]; exact d6) (by rw [hb]; exact d9) hout hRframes (by simp only [List.map_cons, List.sum_cons, hcat]; omega) hlocks
  obtain ⟨f1, f2⟩ := vx_frame hsame
  rw [hhp] at f1 f2
  have hWs : s.WarmedH U.vm := State.WarmedH.trans hW0 hW
  have hcl : s.vm.findClass cls = some ce.cls := by
    have h9 := hO.cls
    rw [hvm] at h9
    exact h9
  have hall : s.sameButNew ({ U with vm := s.vm } : State) locs mc ms := by
    subst hA
    obtain ⟨e1, e2⟩ := hsame
    rw [State.setFrames_setFrames] at e1
    have h2 : (T.setVm s.vm).sameButNew ({ U with vm := s.vm } : State) [] (0 + 1) (0 + 6) := ⟨e1, e2⟩
    have h3 := X.same.trans h2
    rw [List.append_nil] at h3
    exact h3.mono hc hs
  refine ⟨U, ?_, .threw T.heap.size, hrun, hend, Or.inr ⟨T.heap.size, rfl, cls, ce, locs, hx U hWs.alike f1 (fun q hq => f2 q hq (fun z hz => nomatch hz)), hce, hO.vm, hcl, hWs, hall, hf⟩⟩
  refine st1 _ ?_
  show Steps p.tables e below (T1.setTop { method := m, pc := pc + 3, locals := ls, stack := .ref T.heap.size :: rest, locked := none }) _
  jvm_step X₁.here [X₁.here.top, hexec, d3', Value.category]
  exact X₁.ldcString hexec (own := own) (text := text) (index := is) (a := sa) hown' hstr'.1 hstr'.2
    (g := { method := m, pc := pc + 4, locals := ls, stack := .ref T.heap.size :: .ref T.heap.size :: rest, locked := none }) rfl d4' _ hsteps
/-- 'throw new E("text")', the text by a wide index -/
theorem vx_throwSW {cc : ByteArray} {pc : Nat} (hexec : p.tables.exec = Jvm.exec) (hb : c.code = cc) (hl : l.stackTraces = false) {own cls text : String} {names : List String} {ik is ic mc ms sa : Nat} {A : Nat → Prop}
    (hown : s.vm.findClass own = some m.cls) (hcls : Bundle.fit cls = true) (hnames : ∀ n ∈ names, Bundle.fit n = true)
    (hk : (Cond.classLink own ik cls).before args s = true) (hini : (Cond.initialized cls).before args s = true) (hstr : vk_R own is text sa s) (hat : ∀ w ∈ vx_atS own ic cls names, w.before args s = true)
    (hgood : ∀ w ∈ Cond.classLink own ik cls :: Cond.initialized cls :: vx_atS own ic cls names, vx_ot w = true)
    (hU : vx_Zq Bundle.tN "UNASSIGNED_STACK" Bundle.steD A s s.heap) (hN : vx_Zq Bundle.tN "SUPPRESSED_SENTINEL" Bundle.listD A s s.heap) (hS : va_S A s.heap H locs) (hsize : ls.size = c.maxLocals)
    (d0 : decode cc pc = .ok (.new ik, 3)) (d3 : decode cc (pc + 3) = .ok (.dup, 1)) (d4 : decode cc (pc + 4) = .ok (.ldc_w is, 3)) (d7 : decode cc (pc + 7) = .ok (.invokespecial ic, 3)) (d10 : decode cc (pc + 10) = .ok (.athrow, 1))
    (hout : ∀ x ∈ c.exceptionTable.toList, covers x (pc + 10) = false)
    (hRframes : names.length + 3 < R.frames) (hRlocals : (rest.map fun v => v.category).sum + (13 * (names.length + 1) + 43) ≤ R.locals) (hRcells : cells + 1 ≤ R.cells) (hRslots : slots + 6 ≤ R.slots) (hlocks : meth.locks = false)
    (hx : ∀ t : State, s.vm.Alike t.vm → H.size ≤ t.heap.size → (∀ q : Nat, q < H.size → t.heap[q]? = H[q]?) → XC cls s t)
    (hf : ∀ z ∈ locs, free z.base) (hc : cells + 1 ≤ mc) (hs : slots + 6 ≤ ms) :
    W p l e R s m args below meth c H locs cells slots (vx_MQ below Qc XC args s mc ms free) (F0 m pc ls rest) := by
  intro T hT X
  have htr : e.platform.stackTraces = false := (show e.platform.stackTraces = l.stackTraces by rw [X.admits.platform]).trans hl
  have Y := vx_rebase X (R' := { frames := R.frames, locals := R.locals, cells := 1, slots := 6 }) (Nat.le_refl _) (Nat.le_refl _) hRcells hRslots
  obtain ⟨s', hA⟩ : ∃ z, z = (T.setVm s.vm).setFrames (.invoking m args :: below) := ⟨_, rfl⟩
  rw [← hA] at Y
  have hvm : s'.vm = s.vm := by rw [hA]; rfl
  have hhp : s'.heap = H := by rw [hA]; exact hT
  have hW0 : s.WarmedH s'.vm := by rw [hvm]; exact State.WarmedH.refl s
  have hat' : ∀ w ∈ vx_atS own ic cls names, w.before args s' = true := fun w hw => vx_ot_at hW0 hvm.symm (hgood w (List.mem_cons_of_mem _ (List.mem_cons_of_mem _ hw))) (hat w hw)
  have hk' : (Cond.classLink own ik cls).before args s' = true := vx_ot_at hW0 hvm.symm (hgood _ List.mem_cons_self) hk
  have hini' : (Cond.initialized cls).before args s' = true := vx_ot_at hW0 hvm.symm (hgood _ (List.mem_cons_of_mem _ List.mem_cons_self)) hini
  have hU' : vx_Zq Bundle.tN "UNASSIGNED_STACK" Bundle.steD A s' s'.heap := by rw [hhp]; exact vx_Zq.moved hW0.alike (hU.kept hS.2.1)
  have hN' : vx_Zq Bundle.tN "SUPPRESSED_SENTINEL" Bundle.listD A s' s'.heap := by rw [hhp]; exact vx_Zq.moved hW0.alike (hN.kept hS.2.1)
  have h : ∀ w ∈ Bundle.ownAtoms own ic cls names, w.before args s' = true := vx_own hat' (vx_isRefq hU'.1) (vx_isRefq hN'.1) hU'.2.word hN'.2.word
  have hown' : s'.vm.findClass own = some m.cls := by rw [hvm]; exact hown
  have hins : (Cond.instantiable cls 6).before args s' = true := h _ (by simp [Bundle.ownAtoms])
  obtain ⟨vm₁, cX, kX, hfX, hkX, -, -, X₁, st1⟩ := Y.newCold hexec (own := own) (C := cls) (index := ik) (n := 6) hown' hk' hins hini'
    (g := F0 m pc ls rest) rfl (by rw [hb]; exact d0) (Nat.le_refl _) (Nat.le_refl _)
  generalize hT1 : (T.setVm vm₁).pushCell { cls := cX, slots := kX.instanceTypes.map defaultValue, vm := .none } = T1 at X₁ st1
  have hcat : (Value.ref T.heap.size).category = 1 := rfl
  have hcellA : T1.heap[T.heap.size]? = some (freshCell cX kX) := by rw [← hT1]; exact State.heap_pushCell_size _ _
  have d3' : decode c.code (pc + 3) = .ok (.dup, 1) := by rw [hb]; exact d3
  have d4' : decode c.code (pc + 4) = .ok (.ldc_w is, 3) := by rw [hb]; exact d4
  have hstr' : vk_R own is text sa s' := vk_R.warm hW0 hstr
  obtain ⟨U, hsteps, hrun, hend, hW, hsame, ce, hce, hO⟩ := X₁.ctorThrowS hexec htr (own := own) (cls := cls) (names := names) (ic := ic) hown' hcls hnames h (fun x hx => nomatch hx) hfX hkX hcellA (by rw [hhp, hT]; exact Nat.le_refl _) (msg := .ref sa) rfl
    (g := { method := m, pc := pc + 7, locals := ls, stack := .ref sa :: .ref T.heap.size :: .ref T.heap.size :: rest, locked := none }) rfl hsize rfl rfl (rest := rest) rfl
    (by rw [hb]; exact d7) (by rw [hb]; exact d10) hout hRframes (by simp only [List.map_cons, List.sum_cons, hcat]; omega) hlocks
  obtain ⟨f1, f2⟩ := vx_frame hsame
  rw [hhp] at f1 f2
  have hWs : s.WarmedH U.vm := State.WarmedH.trans hW0 hW
  have hcl : s.vm.findClass cls = some ce.cls := by
    have h9 := hO.cls
    rw [hvm] at h9
    exact h9
  have hall : s.sameButNew ({ U with vm := s.vm } : State) locs mc ms := by
    subst hA
    obtain ⟨e1, e2⟩ := hsame
    rw [State.setFrames_setFrames] at e1
    have h2 : (T.setVm s.vm).sameButNew ({ U with vm := s.vm } : State) [] (0 + 1) (0 + 6) := ⟨e1, e2⟩
    have h3 := X.same.trans h2
    rw [List.append_nil] at h3
    exact h3.mono hc hs
  refine ⟨U, ?_, .threw T.heap.size, hrun, hend, Or.inr ⟨T.heap.size, rfl, cls, ce, locs, hx U hWs.alike f1 (fun q hq => f2 q hq (fun z hz => nomatch hz)), hce, hO.vm, hcl, hWs, hall, hf⟩⟩
  refine st1 _ ?_
  show Steps p.tables e below (T1.setTop { method := m, pc := pc + 3, locals := ls, stack := .ref T.heap.size :: rest, locked := none }) _
  jvm_step X₁.here [X₁.here.top, hexec, d3', Value.category]
  exact X₁.ldcStringW hexec (own := own) (text := text) (index := is) (a := sa) hown' hstr'.1 hstr'.2
    (g := { method := m, pc := pc + 4, locals := ls, stack := .ref T.heap.size :: .ref T.heap.size :: rest, locked := none }) rfl d4' _ hsteps
end Ends
section Bodies
variable {l : Launch}
theorem vx_ofW {y : MethodName} {ws ws' : List Cond} {rm : Room} {Pc : Array Value → State → Prop} {Qc : Array Value → State → Outcome → State → Prop} {XC : String → State → State → Prop} {mc ms : Nat} {free : Addr → Prop} {cc : ByteArray} {maxL : Nat} {ret : Option FieldType}
    (hy : plainName y.cls = true) (hw : ws = Cond.code y cc maxL ret :: ws')
    (body : ∀ p e s m args below meth c s₁, BodyLoose p l y (headSpec ws rm) cc maxL ret e s m args below meth c s₁ → c.maxLocals = maxL → (∀ x ∈ c.exceptionTable.toList, False) → Pc args s →
      W p l e (headSpec ws rm).room s m args below meth c s.heap [] 0 0 (vx_MQ below Qc XC args s mc ms free) (entryFrame m args maxL)) : vx_Met l y ws rm Pc Qc XC mc ms free := by
  refine MetFree.of_bodyS (code := cc) (maxLocals := maxL) (ret := ret) hy ?_ ?_
  · intro args s m h hn
    obtain ⟨meth, c, h1, h2, h3, h4, h5, h6, -, -⟩ := Cond.code_spec hn (atoms_spec (ws := ws) h _ (by rw [hw]; exact List.mem_cons_self))
    exact ⟨meth, c, h1, h2, h3, h4, h5, h6⟩
  · intro p e s m args below meth c s₁ B hml hP _
    have hh0 : s₁.heap = s.heap := by rw [B.state]; rfl
    have ht : ∀ x ∈ c.exceptionTable.toList, False := by
      obtain ⟨meth9, c9, h1, h2, -, -, -, -, h7, -⟩ := Cond.code_spec B.named (atoms_spec (ws := ws) B.pre _ (by rw [hw]; exact List.mem_cons_self))
      cases Option.some.inj (h1.symm.trans B.method)
      cases Option.some.inj (h2.symm.trans (Stand.of_body B).code)
      intro x hx
      rw [Array.isEmpty_iff.mp h7] at hx
      cases hx
    obtain ⟨t, a1, o, b1, b2, b3⟩ := body p e s m args below meth c s₁ B hml ht hP s₁ hh0 (Stand.of_body B)
    exact ⟨t, o, a1, b1, b2, b3⟩
/-- the table of a body with handlers -/
theorem vx_table {p : Program} {x y : MethodName} {S : Spec} {cc bytes : ByteArray} {maxL maxL' : Nat} {ret ret' : Option FieldType} {e : Env} {s s₁ : State} {m : MethodId} {args : Array Value} {below : List Frame} {meth : Method} {c : Code} {hh : List (Nat × Nat × Nat × Nat)}
    (B : BodyLoose p l y S cc maxL ret e s m args below meth c s₁) (h : (Cond.codeWith y bytes maxL' ret' hh).before args s = true) : c.exceptionTable.toList = tableOf hh := by
  obtain ⟨m9, meth9, c9, hn9, h1, h2, -, -, h6, -⟩ := Cond.codeWith_spec h
  cases Option.some.inj (hn9.symm.trans B.named)
  cases Option.some.inj (h1.symm.trans B.method)
  cases Option.some.inj (h2.symm.trans (Stand.of_body B).code)
  rw [← h6, table_eq]
end Bodies
end VXA
/-! ===== END ===== -/
/-! ===== BEGIN a static call of a method with an exception table ===== -/
section VXS
variable {p : Program} {l : Launch} {e : Env} {R : Room} {s : State} {m : MethodId} {args : Array Value} {below : List Frame} {meth : Method} {c : Code} {T : State} {H : Heap} {locs : List Loc} {cells slots : Nat}
abbrev vx_CSW (R : Room) (s : State) (args : Array Value) (own : String) (index : Nat) (y : MethodName) (bytes : ByteArray) (maxL : Nat) (ret : Option FieldType) (hh : List (Nat × Nat × Nat × Nat)) (ws : List Cond) (rm : Room) (mc ms n : Nat) : Prop :=
  (rm.cells = mc ∧ rm.slots = ms ∧ rm.frames + 1 ≤ R.frames ∧ 8 + (maxL + 11) + rm.locals ≤ R.locals ∧ (∀ w ∈ ws, ∀ (a' : Array Value) (U : State), s.WarmedH U.vm → w.before a' U = true) ∧ Cond.codeWith y bytes maxL ret hh ∈ ws) ∧
  (Cond.codeWith y bytes maxL ret hh).before args s = true ∧ (Cond.initialized y.cls).before args s = true ∧ (y.cls ≠ "java/lang/invoke/MethodHandle" ∧ y.cls ≠ "java/lang/invoke/VarHandle") ∧
  (∀ sig, parseMethodDescriptor y.desc = some sig → n = sig.parameters.length) ∧ (Cond.methodLink own index y).before args s = true ∧ (Cond.static y).before args s = true
theorem vx_cwSW {own : String} {index maxL mc ms : Nat} {y : MethodName} {bytes : ByteArray} {ret : Option FieldType} {hh : List (Nat × Nat × Nat × Nat)} {Ts ws ws' : List Cond} {rm : Room} (n : Nat) (ht : ∀ w ∈ Ts, w.before args s = true) (hT : GoodIn Ts (va_wsS own index y ws)) (hw : ws = Cond.codeWith y bytes maxL ret hh :: ws') (hrc : rm.cells = mc) (hrs : rm.slots = ms)
    (hd : y.cls ≠ "java/lang/invoke/MethodHandle" ∧ y.cls ≠ "java/lang/invoke/VarHandle" ∧ (parseMethodDescriptor y.desc).map (fun d => d.parameters.length) = some n) (hR : rm.frames + 1 ≤ R.frames ∧ 8 + (maxL + 11) + rm.locals ≤ R.locals) :
    vx_CSW R s args own index y bytes maxL ret hh ws rm mc ms n := by
  have ok : ∀ w ∈ va_wsS own index y ws, w.before args s = true := fun w h => ht w (hT w h).1
  have hG : GoodIn Ts ws := fun w h => hT w (by unfold va_wsS; exact List.mem_append_right _ h)
  have hc : Cond.codeWith y bytes maxL ret hh ∈ ws := by rw [hw]; exact List.mem_cons_self
  refine ⟨⟨hrc, hrs, hR.1, hR.2, pay_in ht hG, hc⟩, ht _ (hG _ hc).1, ok _ (by simp [va_wsS]), ⟨hd.1, hd.2.1⟩, fun sig h => ?_, ok _ (by simp [va_wsS]), ok _ (by simp [va_wsS])⟩
  have h2 := hd.2.2
  rw [h] at h2
  exact (Option.some.inj h2).symm
theorem vx_callSW (X : Stand p l e R s m args below meth c T locs cells slots) (hexec : p.tables.exec = Jvm.exec) {own : String} {index : Nat} {y : MethodName} {bytes : ByteArray} {maxL : Nat} {ret : Option FieldType} {hh : List (Nat × Nat × Nat × Nat)}
    (hown : s.vm.findClass own = some m.cls) (hlink : (Cond.methodLink own index y).before args s = true) (hstat : (Cond.static y).before args s = true) (hinit : (Cond.initialized y.cls).before args s = true)
    (hcode : (Cond.codeWith y bytes maxL ret hh).before args s = true) (hy : y.cls ≠ "java/lang/invoke/MethodHandle" ∧ y.cls ≠ "java/lang/invoke/VarHandle")
    {W9 : Nat} {Pre : Pt → Array Value → Prop} {Post : Pt → Array Value → Option Value → Pt → Prop} (hK : Back l R p e below s args y 3 W9 Pre Post)
    {g : JFrame} (hg : g.method = m) (hsize : g.locals.size = c.maxLocals) {argsL rest : List Value} (hlen : ∀ sig, parseMethodDescriptor y.desc = some sig → argsL.length = sig.parameters.length)
    (hstack : g.stack = argsL.reverse ++ rest) (hW : 2 * g.monitorRoom + (rest.map fun v => v.category).sum ≤ W9) (hdg : decode c.code g.pc = .ok (.invokestatic index, 3))
    (hpre : ∀ vm₁, s.WarmedH vm₁ → Pre ⟨T.setVm vm₁, locs, cells, slots⟩ argsL.toArray) :
    ∃ (v : Option Value) (vm₁ : Vm) (B : Pt), s.WarmedH vm₁ ∧ Stand p l e R s m args below meth c B.U B.locs B.cells B.slots ∧ Post ⟨T.setVm vm₁, locs, cells, slots⟩ argsL.toArray v B ∧
      ∀ target, Steps p.tables e below (B.U.setTop { g with pc := g.pc + 3, stack := v.toList ++ rest }) target → Steps p.tables e below (T.setTop g) target := by
  obtain ⟨mk, methM, cM, hnamed, hmethM, -, -, -, -, -, -, hsigM⟩ := Cond.codeWith_spec hcode
  have hstatic : methM.isStatic = true := Cond.static_spec hnamed hmethM hstat
  obtain ⟨kP, hkP, -⟩ := className_of_methodNamed hnamed
  have hinitP : kP.init = .initialized := Cond.initialized_spec (findClass_of_methodNamed hnamed) hkP hinit
  obtain ⟨vm₁, X₁, hstep₁⟩ := X.invokestatic hexec hown hlink hnamed hmethM hstatic hkP hinitP hy (g := g) hg (argsL := argsL) (rest := rest) (hlen _ hsigM) hstack hdg
  obtain ⟨v, B, X', hpost, hsteps⟩ := hK m meth c ⟨T.setVm vm₁, locs, cells, slots⟩ { g with stack := rest } (.invokestatic index) mk argsL.toArray X₁ hg hsize hdg hW (X₁.named hnamed) (hpre vm₁ X₁.warmed)
  exact ⟨v, vm₁, B, X₁.warmed, X', hpost, fun target h => hstep₁ _ fun acts => by rw [doInvoke_state]; exact hsteps.trans h⟩
theorem vx_runSW {y : MethodName} {bytes cc : ByteArray} {maxL nL mc ms n index : Nat} {ret : Option FieldType} {hh : List (Nat × Nat × Nat × Nat)} {ws : List Cond} {rm : Room} {Pc : Array Value → State → Prop} {Qc : Array Value → State → Outcome → State → Prop} {free : Addr → Prop} {Ts : List Cond} {own : String} {As rest : List Value} {g : JFrame}
    (S : CallFix p m c cc nL s args Ts own) (hM : Met l y ws rm Pc Qc mc ms free) (cw : vx_CSW R s args own index y bytes maxL ret hh ws rm mc ms n) (hp : PreS s H Pc As)
    (hg : g.method = m) (hn : As.length = n) (hsize : g.locals.size = nL) (hstack : g.stack = As.reverse ++ rest) (hW : 2 * g.monitorRoom + (rest.map fun v => v.category).sum ≤ 8) (hdg : decode cc g.pc = .ok (.invokestatic index, 3)) (hf : cells + mc ≤ R.cells ∧ slots + ms ≤ R.slots) :
    va_Run p l e R s m args below meth c H locs cells slots mc ms g rest (Qc As.toArray) (free) := by
  obtain ⟨⟨hrc, hrs, hfr, hlo, hws, hcw⟩, hcode, hini, hy, hlen, hl, hstt⟩ := cw
  have hK : Back l R p e below s args y 3 8 (PreOf R mc ms Pc) (PostOf Qc mc ms free) := va_backW (hh := hh) (bytes := bytes) (maxL := maxL) (ret := ret) hM hp.1 hrc hrs hfr hlo hws hcw (fun a' U hW => word_at hW (Or.inl (by first | rfl | simp [Cond.onTables, Cond.keeps, Cond.steady])) hini)
  obtain ⟨hx, hb, hml, ho, -⟩ := S
  intro T hT X
  obtain ⟨v, vm₁, ⟨U', l2, c2, s2⟩, hW₁, X', ⟨g', mk, t, L, e1, e2, hq, h1, hL, h2, h3⟩, st⟩ := vx_callSW X hx (hh := hh) (bytes := bytes) (maxL := maxL) (ret := ret) ho hl hstt hini hcode hy hK hg (hsize.trans hml.symm) (argsL := As) (rest := rest) (fun sig h => hn.trans (hlen sig h)) hstack hW (by rw [hb]; exact hdg)
    (fun vm₁ hW₁ => ⟨hf.1, hf.2, hp.2 (T.setVm vm₁) hT hW₁⟩)
  dsimp only [Pt.U, Pt.locs, Pt.cells, Pt.slots] at X' e1 e2 h1 h2 h3 st
  subst h1; subst h2; subst h3
  exact ⟨v, (T.setVm vm₁).calling g' mk As.toArray, t, U', L, hT, X', hL, e1, e2, hq, st⟩
/-- not caught here, past rows that name other classes: it goes on to the caller -/
theorem vx_outP {p : Program} {l : Launch} {e : Env} {R : Room} {s : State} {m : MethodId} {args : Array Value} {below : List Frame} {meth : Method} {c : Code} {H : Heap} {locs : List Loc} {cells slots : Nat} {free : Addr → Prop} {ls : Array Slot} {rest : List Value} {Qc : Array Value → State → Outcome → State → Prop} {XC : String → State → State → Prop}
    {pc : Nat} {own E : String} {ce : Cell} {q : Addr} {mc ms : Nat} (hown : s.vm.findClass own = some m.cls) (hlocks : meth.locks = false)
    (hpass : ∀ z ∈ c.exceptionTable.toList, covers z pc = false ∨ (z.catchType ≠ 0 ∧ ∃ nm : String, (Cond.classLink own z.catchType nm).before args s = true ∧ va_Nc E nm s)) (hcell : H[q]? = some ce) (hv : ce.vm = .none) (hcl : s.vm.findClass E = some ce.cls)
    (hx : ∀ t : State, t.heap = H → s.vm.Alike t.vm → XC E s t) (hf : ∀ z ∈ locs, free z.base) (hc : cells ≤ mc) (hs : slots ≤ ms) :
    vx_W p l e R s m args below meth c H locs cells slots (vx_MQ below Qc XC args s mc ms free) (F0 m pc ls rest) q := by
  intro T hT X
  have hpl : e.platform.magicAccessors = ({} : Platform).magicAccessors := by rw [X.admits.platform]
  obtain ⟨vm', hW', X', st⟩ := X.outThrough hlocks q (g := F0 m pc ls rest) rfl rfl rfl (cell := ce) (by rw [hT]; exact hcell) (by rw [hv]; rfl)
    (by obtain ⟨k9, h9, -⟩ := Vm.findClass_spec hcl; exact ⟨k9, h9⟩) (fun z hz => by
      rcases hpass z hz with h | ⟨hz0, nm, hl1, hn1⟩
      · exact Or.inl h
      · obtain ⟨c6, hc6, hcl6⟩ := Cond.classLink_spec hown hl1 e.platform hpl
        obtain ⟨a8, b8, h1, h2, h3⟩ := hn1
        cases Option.some.inj (h1.symm.trans hcl)
        cases Option.some.inj (h2.symm.trans hc6)
        exact Or.inr ⟨hz0, _, hcl6, h3⟩)
  obtain ⟨g₀, hfr⟩ := X'.frames_eq
  have hcell9 : ((T.setVm vm').setFrames (.throwing q :: below)).heap[q]? = some ce := by
    show T.heap[q]? = some ce
    rw [hT]; exact hcell
  have hend : Ended ((T.setVm vm').setFrames (.throwing q :: below)) below (.threw q) := State.frames_setFrames _ (State.cur_lt_of_frames hfr)
  refine ⟨(T.setVm vm').setFrames (.throwing q :: below), ?_, .threw q, X'.here.running, hend, Or.inr ⟨q, rfl, E, ce, locs, hx _ hT (X'.ends _).1.alike, hcell9, hv, hcl, (X'.ends _).1, (X'.ends _).2.mono hc hs, hf⟩⟩
  rw [X.pushThrowing_eq]
  exact st
/-- a thing of a world lies in the heap -/
theorem vx_lt {D : va_G} {cl : List vw_C} {ws : va_W} {H1 : Heap} (h : va_P D cl ws H1) {k : Nat} {q : Nat × va_E} (hk : ws[k]? = some q) : q.1 < H1.size := (h k q hk).lt
end VXS
/-! ===== END ===== -/
/-! ===== BEGIN methods with a table of their own: called by a name, returning or throwing ===== -/
section VXH
/-! vx_backW, vx_callVX, vx_callSX, vx_callVW, vx_runVW, vx_runVX, vx_runSX, vx_ofWH follow the same proofs as their sisters above (Free/Laws.lean, Shelf42/LK1.lean); vx_outP calls Shelf42/NT130.lean (outThrough). -/
section
variable {l : Launch} {R : Room} {p : Program} {e : Env} {below : List Frame} {s : State} {sargs : Array Value} {y : MethodName} {len W9 : Nat}
theorem vx_backW {ws : List Cond} {rm : Room} {Pc : Array Value → State → Prop} {Qc : Array Value → State → Outcome → State → Prop} {XC : String → State → State → Prop} {mc ms : Nat} {free : Addr → Prop} {bytes : ByteArray} {maxL : Nat} {ret : Option FieldType} {hh : List (Nat × Nat × Nat × Nat)}
    (hM : vx_Met l y ws rm Pc Qc XC mc ms free) (hblind : FrameBlind Pc) (hrc : rm.cells = mc) (hrs : rm.slots = ms)
    (hframes : rm.frames + 1 ≤ R.frames) (hlocals : W9 + (maxL + 11) + rm.locals ≤ R.locals)
    (hws : ∀ w ∈ ws, ∀ a' U, s.WarmedH U.vm → w.before a' U = true) (hcode : Cond.codeWith y bytes maxL ret hh ∈ ws) (hinit : ∀ a' U, s.WarmedH U.vm → (Cond.initialized y.cls).before a' U = true) :
    vx_Back l R p e below s sargs y len W9 (PreOf R mc ms Pc) (PostOf Qc mc ms free) (vx_Post XC mc ms free) := by
  intro m meth c A g ig mk a X hg hsize hdg hW hn hp
  have h1 : (headSpec ws rm).pre.before a A.U = true := atoms_intro fun w hw => hws w hw _ _ X.warmed
  have h2 : (Cond.codeWith y bytes maxL ret hh).before a A.U = true := hws _ hcode _ _ X.warmed
  have h3 : (Cond.initialized y.cls).before a A.U = true := hinit _ _ X.warmed
  have h4 : A.cells + (headSpec ws rm).room.cells ≤ R.cells := by rw [show (headSpec ws rm).room.cells = mc from hrc]; exact hp.1
  have h5 : A.slots + (headSpec ws rm).room.slots ≤ R.slots := by rw [show (headSpec ws rm).room.slots = ms from hrs]; exact hp.2.1
  have hPc : Pc a (A.U.calling g mk a) := hblind _ _ _ _ hp.2.2
  obtain ⟨U, Ls, c0, s0⟩ := A
  dsimp only [Pt.U, Pt.locs, Pt.cells, Pt.slots] at h1 h2 h3 h4 h5 X hn hPc ⊢
  obtain ⟨m9, methY, cY, hn9, hmY, hcY, -, hlY, -⟩ := Cond.codeWith_spec h2
  cases Option.some.inj (hn9.symm.trans hn)
  obtain ⟨kY, hkY, -⟩ := className_of_methodNamed hn
  have hinitY : kY.init = .initialized := Cond.initialized_spec (findClass_of_methodNamed hn) hkY h3
  have h : At U g.method c below := by rw [hg]; exact X.here
  have hlocals9 : W9 + (maxL + 11) + (headSpec ws rm).room.locals ≤ R.locals := hlocals
  have happ : (headSpec ws rm).appliesLoose y e.platform (U.calling g mk a) = true :=
    Spec.appliesLoose_calling (g := g) h hdg hn hkY hinitY
      (X.room_calling (g := g) (R' := (headSpec ws rm).room) hsize hmY hcY hframes (by rw [hlY]; omega) h4 h5) h1
  obtain ⟨mid, hmid⟩ := h.above
  have hfr : (U.setTop g).frames = (.java g :: mid) ++ below := by rw [State.frames_setTop' g h.top, hmid]; rfl
  obtain ⟨o, s₂, hsteps, -, hend, hq⟩ := Steps.callFree hM p X.admits X.cas X.clock (acts := []) hfr happ hPc trivial
  have hq' : vx_Q Qc XC mc ms free a (U.calling g mk a) o s₂ := hq
  rw [State.frames_setTop' g h.top] at hend
  obtain ⟨g₀, hg0⟩ := Option.isSome_iff_exists.mp h.top
  obtain ⟨r, hr⟩ := State.topJava?_eq_some.mp hg0
  have hr' : (({ U with heap := s₂.heap, slotsUsed := s₂.slotsUsed } : State).setVm s₂.vm).frames = .java g₀ :: r := hr
  rcases hq' with ⟨hqc, L, hfe, hL⟩ | ⟨q, rfl, E, ce, L, hx, hce, hcv, hcl, hW₂, hsm, hL⟩
  · obtain ⟨⟨v, rfl⟩, hW₂, e2, q2, q3, q4, q5, q6⟩ := id hfe
    have e3 : s₂ = ({ (U.calling g mk a).setFrames s₂.frames with heap := s₂.heap, slotsUsed := s₂.slotsUsed } : State).setVm s₂.vm := by
      have : s₂ = ({ s₂ with vm := (U.calling g mk a).vm } : State).setVm s₂.vm := rfl
      rw [e2] at this
      exact this
    obtain ⟨c₂, i₂, len₂, hc₂, hd₂, hf₂⟩ := hend
    have hW' : U.WarmedH s₂.vm := hW₂
    have hcc : c₂ = c := by
      have h1 : s₂.code? g.method = U.code? g.method := by
        rw [State.code?_eq, State.code?_eq, hW'.alike.method?]
      exact Option.some.inj (hc₂.symm.trans (h1.trans h.code))
    subst hcc
    have hlen : len₂ = len := by rw [hdg] at hd₂; cases hd₂; rfl
    subst hlen
    have hs₂ : s₂ = (({ U with heap := s₂.heap, slotsUsed := s₂.slotsUsed } : State).setVm s₂.vm).setTop { g with pc := g.pc + len₂, stack := v.toList ++ g.stack } := by
      refine e3.trans ?_
      rw [hf₂, State.calling_eq h.top, State.setFrames_setFrames, State.setTop_of_frames _ hr', hr]
      rfl
    have hsame : U.sameButNew ({ U with heap := s₂.heap, slotsUsed := s₂.slotsUsed } : State) L mc ms := by
      refine ⟨?_, q2, q3, q4, q5, q6⟩
      obtain ⟨t, ht, -⟩ := State.frames_cons hr
      show ({ U with heap := s₂.heap, slotsUsed := s₂.slotsUsed } : State) = { U.setFrames U.frames with heap := s₂.heap, slotsUsed := s₂.slotsUsed }
      rw [State.setFrames_self ht]
    subst hg
    refine Or.inl ⟨v, ⟨(({ U with heap := s₂.heap, slotsUsed := s₂.slotsUsed } : State).setVm s₂.vm), Ls ++ L, c0 + mc, s0 + ms⟩,
      ⟨X.admits, X.cas, X.clock, X.frames, X.room, X.hears, X.method, X.code, (X.here.setHeapUsed s₂.heap s₂.slotsUsed).setVm hW'.alike, X.tail, State.WarmedH.trans X.warmed hW', X.limits, X.bytes, X.same.trans (hsame.setVm s.vm)⟩,
      ⟨g, mk, s₂, L, rfl, rfl, hqc, rfl, hL, rfl, rfl⟩, ?_⟩
    show Steps p.tables e below _ ((({ U with heap := s₂.heap, slotsUsed := s₂.slotsUsed } : State).setVm s₂.vm).setTop { g with pc := g.pc + len₂, stack := v.toList ++ g.stack })
    rw [← hs₂]
    exact hsteps
  · obtain ⟨e2, q2, q3, q4, q5, q6⟩ := id hsm
    have e3 : s₂ = ({ (U.calling g mk a).setFrames s₂.frames with heap := s₂.heap, slotsUsed := s₂.slotsUsed } : State).setVm s₂.vm := by
      have : s₂ = ({ s₂ with vm := (U.calling g mk a).vm } : State).setVm s₂.vm := rfl
      rw [e2] at this
      exact this
    have hf₂ : s₂.frames = .throwing q :: .java g :: U.frames.tail := hend
    have hW' : U.WarmedH s₂.vm := hW₂
    have hs₂ : s₂ = ((({ U with heap := s₂.heap, slotsUsed := s₂.slotsUsed } : State).setVm s₂.vm).setTop g).pushFrame (.throwing q) := by
      refine e3.trans ?_
      rw [hf₂, State.calling_eq h.top, State.setFrames_setFrames, State.pushFrame, State.frames_setTop _ hr', State.setTop_of_frames _ hr', State.setFrames_setFrames, hr]
      rfl
    have hsame : U.sameButNew ({ U with heap := s₂.heap, slotsUsed := s₂.slotsUsed } : State) L mc ms := by
      refine ⟨?_, q2, q3, q4, q5, q6⟩
      obtain ⟨t, ht, -⟩ := State.frames_cons hr
      show ({ U with heap := s₂.heap, slotsUsed := s₂.slotsUsed } : State) = { U.setFrames U.frames with heap := s₂.heap, slotsUsed := s₂.slotsUsed }
      rw [State.setFrames_self ht]
    subst hg
    refine Or.inr ⟨q, ⟨(({ U with heap := s₂.heap, slotsUsed := s₂.slotsUsed } : State).setVm s₂.vm), Ls ++ L, c0 + mc, s0 + ms⟩,
      ⟨X.admits, X.cas, X.clock, X.frames, X.room, X.hears, X.method, X.code, (X.here.setHeapUsed s₂.heap s₂.slotsUsed).setVm hW'.alike, X.tail, State.WarmedH.trans X.warmed hW', X.limits, X.bytes, X.same.trans (hsame.setVm s.vm)⟩,
      ⟨g, mk, s₂, L, E, ce, rfl, rfl, hx, hce, hcv, hcl, rfl, hL, rfl, rfl⟩, ?_⟩
    show Steps p.tables e below _ (((({ U with heap := s₂.heap, slotsUsed := s₂.slotsUsed } : State).setVm s₂.vm).setTop g).pushFrame (.throwing q))
    rw [← hs₂]
    exact hsteps
end
variable {p : Program} {l : Launch} {e : Env} {R : Room} {s : State} {m : MethodId} {args : Array Value} {below : List Frame} {meth : Method} {c : Code} {T : State} {H : Heap} {locs : List Loc} {cells slots : Nat}
theorem vx_callVX (X : Stand p l e R s m args below meth c T locs cells slots) (hexec : p.tables.exec = Jvm.exec) {own C : String} {index : Nat} {y : MethodName} {bytes : ByteArray} {maxL : Nat} {ret : Option FieldType} {hh : List (Nat × Nat × Nat × Nat)}
    (hown : s.vm.findClass own = some m.cls) (hlink : (Cond.methodLink own index y).before args s = true) (hinst : (Cond.instanceMethod y).before args s = true) (hsel : (Cond.selects C y y).before args s = true)
    (hcode : (Cond.codeWith y bytes maxL ret hh).before args s = true) (hy : y.cls ≠ "java/lang/invoke/MethodHandle" ∧ y.cls ≠ "java/lang/invoke/VarHandle")
    {W9 : Nat} {Pre : Pt → Array Value → Prop} {Post : Pt → Array Value → Option Value → Pt → Prop} {PostX : Pt → Array Value → Addr → Pt → Prop} (hK : vx_Back l R p e below s args y 3 W9 Pre Post PostX)
    {b : Addr} {cellB : Cell} (hcell : T.heap[b]? = some cellB) (hobj : cellB.vm.isStatics = false) (hcls : s.vm.findClass C = some cellB.cls)
    {g : JFrame} (hg : g.method = m) (hsize : g.locals.size = c.maxLocals) {argsL rest : List Value} (hlen : ∀ sig, parseMethodDescriptor y.desc = some sig → argsL.length = sig.parameters.length)
    (hstack : g.stack = argsL.reverse ++ .ref b :: rest) (hW : 2 * g.monitorRoom + (rest.map fun v => v.category).sum ≤ W9) (hdg : decode c.code g.pc = .ok (.invokevirtual index, 3))
    (hpre : ∀ vm₁, s.WarmedH vm₁ → Pre ⟨T.setVm vm₁, locs, cells, slots⟩ (Value.ref b :: argsL).toArray) :
    (∃ (v : Option Value) (vm₁ : Vm) (B : Pt), s.WarmedH vm₁ ∧ Stand p l e R s m args below meth c B.U B.locs B.cells B.slots ∧ Post ⟨T.setVm vm₁, locs, cells, slots⟩ (Value.ref b :: argsL).toArray v B ∧
      ∀ target, Steps p.tables e below (B.U.setTop { g with pc := g.pc + 3, stack := v.toList ++ rest }) target → Steps p.tables e below (T.setTop g) target) ∨
    (∃ (q : Addr) (vm₁ : Vm) (B : Pt), s.WarmedH vm₁ ∧ Stand p l e R s m args below meth c B.U B.locs B.cells B.slots ∧ PostX ⟨T.setVm vm₁, locs, cells, slots⟩ (Value.ref b :: argsL).toArray q B ∧
      Steps p.tables e below (T.setTop g) ((B.U.setTop { g with stack := rest }).pushFrame (.throwing q))) := by
  obtain ⟨mk, methM, hnamed, hmethM, hstM, habM⟩ := Cond.instanceMethod_spec hinst
  obtain ⟨m8, methM', cM, hn8, hmethM', -, -, -, -, -, -, hsigM⟩ := Cond.codeWith_spec hcode
  cases Option.some.inj (hn8.symm.trans hnamed)
  cases hmethM.symm.trans hmethM'
  obtain ⟨c2, r2, m2, q1, q2, q3, q4, kP, hkP, hkPi⟩ := Cond.selects_spec hsel
  cases hcls.symm.trans q1
  cases (State.methodFound?_of_named hnamed hy).symm.trans q2
  cases hnamed.symm.trans q3
  have hselP : selectMethod e.platform s.vm cellB.cls mk = .method mk := by rw [Launch.admits_selectMethod X.admits]; exact q4
  obtain ⟨vm₁, X₁, hstep₁⟩ := X.invokevirtual hexec hown hlink hnamed hmethM hstM hkP hkPi hy (a := b) (cell := cellB) hcell
    (fun z h => by rw [h] at hobj; cases hobj) hselP hmethM habM hkP hkPi (g := g) hg (argsL := argsL) (rest := rest) (hlen _ hsigM) hstack hdg
  rcases hK m meth c ⟨T.setVm vm₁, locs, cells, slots⟩ { g with stack := rest } (.invokevirtual index) mk (Value.ref b :: argsL).toArray X₁ hg hsize hdg hW (X₁.named hnamed) (hpre vm₁ X₁.warmed) with ⟨v, B, X', hpost, hsteps⟩ | ⟨q, B, X', hpost, hsteps⟩
  · exact Or.inl ⟨v, vm₁, B, X₁.warmed, X', hpost, fun target h => hstep₁ _ fun acts => by rw [doInvoke_state]; exact hsteps.trans h⟩
  · exact Or.inr ⟨q, vm₁, B, X₁.warmed, X', hpost, hstep₁ _ fun acts => by rw [doInvoke_state]; exact hsteps⟩
theorem vx_callSX (X : Stand p l e R s m args below meth c T locs cells slots) (hexec : p.tables.exec = Jvm.exec) {own : String} {index : Nat} {y : MethodName} {bytes : ByteArray} {maxL : Nat} {ret : Option FieldType} {hh : List (Nat × Nat × Nat × Nat)}
    (hown : s.vm.findClass own = some m.cls) (hlink : (Cond.methodLink own index y).before args s = true) (hstat : (Cond.static y).before args s = true) (hinit : (Cond.initialized y.cls).before args s = true)
    (hcode : (Cond.codeWith y bytes maxL ret hh).before args s = true) (hy : y.cls ≠ "java/lang/invoke/MethodHandle" ∧ y.cls ≠ "java/lang/invoke/VarHandle")
    {W9 : Nat} {Pre : Pt → Array Value → Prop} {Post : Pt → Array Value → Option Value → Pt → Prop} {PostX : Pt → Array Value → Addr → Pt → Prop} (hK : vx_Back l R p e below s args y 3 W9 Pre Post PostX)
    {g : JFrame} (hg : g.method = m) (hsize : g.locals.size = c.maxLocals) {argsL rest : List Value} (hlen : ∀ sig, parseMethodDescriptor y.desc = some sig → argsL.length = sig.parameters.length)
    (hstack : g.stack = argsL.reverse ++ rest) (hW : 2 * g.monitorRoom + (rest.map fun v => v.category).sum ≤ W9) (hdg : decode c.code g.pc = .ok (.invokestatic index, 3))
    (hpre : ∀ vm₁, s.WarmedH vm₁ → Pre ⟨T.setVm vm₁, locs, cells, slots⟩ argsL.toArray) :
    (∃ (v : Option Value) (vm₁ : Vm) (B : Pt), s.WarmedH vm₁ ∧ Stand p l e R s m args below meth c B.U B.locs B.cells B.slots ∧ Post ⟨T.setVm vm₁, locs, cells, slots⟩ argsL.toArray v B ∧
      ∀ target, Steps p.tables e below (B.U.setTop { g with pc := g.pc + 3, stack := v.toList ++ rest }) target → Steps p.tables e below (T.setTop g) target) ∨
    (∃ (q : Addr) (vm₁ : Vm) (B : Pt), s.WarmedH vm₁ ∧ Stand p l e R s m args below meth c B.U B.locs B.cells B.slots ∧ PostX ⟨T.setVm vm₁, locs, cells, slots⟩ argsL.toArray q B ∧
      Steps p.tables e below (T.setTop g) ((B.U.setTop { g with stack := rest }).pushFrame (.throwing q))) := by
  obtain ⟨mk, methM, cM, hnamed, hmethM, -, -, -, -, -, -, hsigM⟩ := Cond.codeWith_spec hcode
  have hstatic : methM.isStatic = true := Cond.static_spec hnamed hmethM hstat
  obtain ⟨kP, hkP, -⟩ := className_of_methodNamed hnamed
  have hinitP : kP.init = .initialized := Cond.initialized_spec (findClass_of_methodNamed hnamed) hkP hinit
  obtain ⟨vm₁, X₁, hstep₁⟩ := X.invokestatic hexec hown hlink hnamed hmethM hstatic hkP hinitP hy (g := g) hg (argsL := argsL) (rest := rest) (hlen _ hsigM) hstack hdg
  rcases hK m meth c ⟨T.setVm vm₁, locs, cells, slots⟩ { g with stack := rest } (.invokestatic index) mk argsL.toArray X₁ hg hsize hdg hW (X₁.named hnamed) (hpre vm₁ X₁.warmed) with ⟨v, B, X', hpost, hsteps⟩ | ⟨q, B, X', hpost, hsteps⟩
  · exact Or.inl ⟨v, vm₁, B, X₁.warmed, X', hpost, fun target h => hstep₁ _ fun acts => by rw [doInvoke_state]; exact hsteps.trans h⟩
  · exact Or.inr ⟨q, vm₁, B, X₁.warmed, X', hpost, hstep₁ _ fun acts => by rw [doInvoke_state]; exact hsteps⟩
theorem vx_callVW (X : Stand p l e R s m args below meth c T locs cells slots) (hexec : p.tables.exec = Jvm.exec) {own C : String} {index : Nat} {y : MethodName} {bytes : ByteArray} {maxL : Nat} {ret : Option FieldType} {hh : List (Nat × Nat × Nat × Nat)}
    (hown : s.vm.findClass own = some m.cls) (hlink : (Cond.methodLink own index y).before args s = true) (hinst : (Cond.instanceMethod y).before args s = true) (hsel : (Cond.selects C y y).before args s = true)
    (hcode : (Cond.codeWith y bytes maxL ret hh).before args s = true) (hy : y.cls ≠ "java/lang/invoke/MethodHandle" ∧ y.cls ≠ "java/lang/invoke/VarHandle")
    {W9 : Nat} {Pre : Pt → Array Value → Prop} {Post : Pt → Array Value → Option Value → Pt → Prop} (hK : Back l R p e below s args y 3 W9 Pre Post)
    {b : Addr} {cellB : Cell} (hcell : T.heap[b]? = some cellB) (hobj : cellB.vm.isStatics = false) (hcls : s.vm.findClass C = some cellB.cls)
    {g : JFrame} (hg : g.method = m) (hsize : g.locals.size = c.maxLocals) {argsL rest : List Value} (hlen : ∀ sig, parseMethodDescriptor y.desc = some sig → argsL.length = sig.parameters.length)
    (hstack : g.stack = argsL.reverse ++ .ref b :: rest) (hW : 2 * g.monitorRoom + (rest.map fun v => v.category).sum ≤ W9) (hdg : decode c.code g.pc = .ok (.invokevirtual index, 3))
    (hpre : ∀ vm₁, s.WarmedH vm₁ → Pre ⟨T.setVm vm₁, locs, cells, slots⟩ (Value.ref b :: argsL).toArray) :
    ∃ (v : Option Value) (vm₁ : Vm) (B : Pt), s.WarmedH vm₁ ∧ Stand p l e R s m args below meth c B.U B.locs B.cells B.slots ∧ Post ⟨T.setVm vm₁, locs, cells, slots⟩ (Value.ref b :: argsL).toArray v B ∧
      ∀ target, Steps p.tables e below (B.U.setTop { g with pc := g.pc + 3, stack := v.toList ++ rest }) target → Steps p.tables e below (T.setTop g) target := by
  obtain ⟨mk, methM, hnamed, hmethM, hstM, habM⟩ := Cond.instanceMethod_spec hinst
  obtain ⟨m8, methM', cM, hn8, hmethM', -, -, -, -, -, -, hsigM⟩ := Cond.codeWith_spec hcode
  cases Option.some.inj (hn8.symm.trans hnamed)
  cases hmethM.symm.trans hmethM'
  obtain ⟨c2, r2, m2, q1, q2, q3, q4, kP, hkP, hkPi⟩ := Cond.selects_spec hsel
  cases hcls.symm.trans q1
  cases (State.methodFound?_of_named hnamed hy).symm.trans q2
  cases hnamed.symm.trans q3
  have hselP : selectMethod e.platform s.vm cellB.cls mk = .method mk := by rw [Launch.admits_selectMethod X.admits]; exact q4
  obtain ⟨vm₁, X₁, hstep₁⟩ := X.invokevirtual hexec hown hlink hnamed hmethM hstM hkP hkPi hy (a := b) (cell := cellB) hcell
    (fun z h => by rw [h] at hobj; cases hobj) hselP hmethM habM hkP hkPi (g := g) hg (argsL := argsL) (rest := rest) (hlen _ hsigM) hstack hdg
  obtain ⟨v, B, X', hpost, hsteps⟩ := hK m meth c ⟨T.setVm vm₁, locs, cells, slots⟩ { g with stack := rest } (.invokevirtual index) mk (Value.ref b :: argsL).toArray X₁ hg hsize hdg hW (X₁.named hnamed) (hpre vm₁ X₁.warmed)
  exact ⟨v, vm₁, B, X₁.warmed, X', hpost, fun target h => hstep₁ _ fun acts => by rw [doInvoke_state]; exact hsteps.trans h⟩
abbrev vx_CVW (R : Room) (s : State) (args : Array Value) (own C : String) (index : Nat) (y : MethodName) (bytes : ByteArray) (maxL : Nat) (ret : Option FieldType) (hh : List (Nat × Nat × Nat × Nat)) (ws : List Cond) (rm : Room) (mc ms n : Nat) : Prop :=
  (rm.cells = mc ∧ rm.slots = ms ∧ rm.frames + 1 ≤ R.frames ∧ 8 + (maxL + 11) + rm.locals ≤ R.locals ∧ (∀ w ∈ ws, ∀ (a' : Array Value) (U : State), s.WarmedH U.vm → w.before a' U = true) ∧ Cond.codeWith y bytes maxL ret hh ∈ ws) ∧
  (Cond.codeWith y bytes maxL ret hh).before args s = true ∧ (Cond.initialized y.cls).before args s = true ∧ (y.cls ≠ "java/lang/invoke/MethodHandle" ∧ y.cls ≠ "java/lang/invoke/VarHandle") ∧
  (∀ sig, parseMethodDescriptor y.desc = some sig → n = sig.parameters.length) ∧ (Cond.methodLink own index y).before args s = true ∧ (Cond.instanceMethod y).before args s = true ∧ (Cond.selects C y y).before args s = true
theorem vx_cwVW {own C : String} {index maxL mc ms : Nat} {y : MethodName} {bytes : ByteArray} {ret : Option FieldType} {hh : List (Nat × Nat × Nat × Nat)} {Ts ws ws' : List Cond} {rm : Room} (n : Nat) (ht : ∀ w ∈ Ts, w.before args s = true) (hT : GoodIn Ts (wsV own index C y ws)) (hw : ws = Cond.codeWith y bytes maxL ret hh :: ws') (hrc : rm.cells = mc) (hrs : rm.slots = ms)
    (hd : y.cls = C ∧ y.cls ≠ "java/lang/invoke/MethodHandle" ∧ y.cls ≠ "java/lang/invoke/VarHandle" ∧ (parseMethodDescriptor y.desc).map (fun d => d.parameters.length) = some n) (hR : rm.frames + 1 ≤ R.frames ∧ 8 + (maxL + 11) + rm.locals ≤ R.locals) :
    vx_CVW R s args own C index y bytes maxL ret hh ws rm mc ms n := by
  obtain ⟨hC, hd⟩ := hd
  subst hC
  have ok : ∀ w ∈ wsV own index y.cls y ws, w.before args s = true := fun w h => ht w (hT w h).1
  have hG : GoodIn Ts ws := fun w h => hT w (by unfold wsV; exact List.mem_append_right _ h)
  have hc : Cond.codeWith y bytes maxL ret hh ∈ ws := by rw [hw]; exact List.mem_cons_self
  refine ⟨⟨hrc, hrs, hR.1, hR.2, pay_in ht hG, hc⟩, ht _ (hG _ hc).1, ok _ (by simp [wsV]), ⟨hd.1, hd.2.1⟩, fun sig h => ?_, ok _ (by simp [wsV]), ok _ (by simp [wsV]), ok _ (by simp [wsV])⟩
  have h2 := hd.2.2
  rw [h] at h2
  exact (Option.some.inj h2).symm
theorem vx_runVW {y : MethodName} {bytes cc : ByteArray} {maxL nL mc ms n index : Nat} {ret : Option FieldType} {hh : List (Nat × Nat × Nat × Nat)} {ws : List Cond} {rm : Room} {Pc : Array Value → State → Prop} {Qc : Array Value → State → Outcome → State → Prop} {free : Addr → Prop} {Ts : List Cond} {own C : String} {b : Addr} {As rest : List Value} {g : JFrame}
    (S : CallFix p m c cc nL s args Ts own) (hM : Met l y ws rm Pc Qc mc ms free) (cw : vx_CVW R s args own C index y bytes maxL ret hh ws rm mc ms n) (hp : PreV s H C b Pc As)
    (hg : g.method = m) (hn : As.length = n) (hsize : g.locals.size = nL) (hstack : g.stack = As.reverse ++ .ref b :: rest) (hW : 2 * g.monitorRoom + (rest.map fun v => v.category).sum ≤ 8) (hdg : decode cc g.pc = .ok (.invokevirtual index, 3)) (hf : cells + mc ≤ R.cells ∧ slots + ms ≤ R.slots) :
    va_Run p l e R s m args below meth c H locs cells slots mc ms g rest (Qc (Value.ref b :: As).toArray) free := by
  obtain ⟨⟨hrc, hrs, hfr, hlo, hws, hcw⟩, hcode, hini, hy, hlen, hl, hin, hse⟩ := cw
  have hK : Back l R p e below s args y 3 8 (PreOf R mc ms Pc) (PostOf Qc mc ms free) := va_backW (hh := hh) (bytes := bytes) (maxL := maxL) (ret := ret) hM hp.1 hrc hrs hfr hlo hws hcw (fun a' U hW => word_at hW (Or.inl (by first | rfl | simp [Cond.onTables, Cond.keeps, Cond.steady])) hini)
  obtain ⟨hx, hb, hml, ho, -⟩ := S
  obtain ⟨-, ⟨cellB, hcB, hoB, hclB⟩, hPc⟩ := hp
  intro T hT X
  obtain ⟨v, vm₁, ⟨U', l2, c2, s2⟩, hW₁, X', ⟨g', mk, t, L, e1, e2, hq, h1, hL, h2, h3⟩, st⟩ := vx_callVW X hx (C := C) (hh := hh) (bytes := bytes) (maxL := maxL) (ret := ret) ho hl hin hse hcode hy hK (by rw [hT]; exact hcB) hoB hclB hg (hsize.trans hml.symm) (argsL := As) (rest := rest) (fun sig h => hn.trans (hlen sig h)) hstack hW (by rw [hb]; exact hdg)
    (fun vm₁ hW₁ => ⟨hf.1, hf.2, hPc (T.setVm vm₁) hT hW₁⟩)
  dsimp only [Pt.U, Pt.locs, Pt.cells, Pt.slots] at X' e1 e2 h1 h2 h3 st
  subst h1; subst h2; subst h3
  exact ⟨v, (T.setVm vm₁).calling g' mk (Value.ref b :: As).toArray, t, U', L, hT, X', hL, e1, e2, hq, st⟩
section
variable {y : MethodName} {bytes cc : ByteArray} {maxL nL mc ms n index : Nat} {ret : Option FieldType} {ws : List Cond} {rm : Room} {Pc : Array Value → State → Prop} {Qc : Array Value → State → Outcome → State → Prop} {XC : String → State → State → Prop} {free : Addr → Prop} {Ts : List Cond} {own C : String} {b : Addr} {As rest : List Value} {g : JFrame}
theorem vx_runVX {hh : List (Nat × Nat × Nat × Nat)} (S : CallFix p m c cc nL s args Ts own) (hM : vx_Met l y ws rm Pc Qc XC mc ms free) (cw : vx_CVW R s args own C index y bytes maxL ret hh ws rm mc ms n) (hp : PreV s H C b Pc As)
    (hg : g.method = m) (hn : As.length = n) (hsize : g.locals.size = nL) (hstack : g.stack = As.reverse ++ .ref b :: rest) (hW : 2 * g.monitorRoom + (rest.map fun v => v.category).sum ≤ 8) (hdg : decode cc g.pc = .ok (.invokevirtual index, 3)) (hf : cells + mc ≤ R.cells ∧ slots + ms ≤ R.slots) :
    vx_Run p l e R s m args below meth c H locs cells slots mc ms g rest (Qc (Value.ref b :: As).toArray) XC free := by
  obtain ⟨⟨hrc, hrs, hfr, hlo, hws, hcw⟩, hcode, hini, hy, hlen, hl, hin, hse⟩ := cw
  have hK : vx_Back l R p e below s args y 3 8 (PreOf R mc ms Pc) (PostOf Qc mc ms free) (vx_Post XC mc ms free) := vx_backW (hh := hh) (bytes := bytes) (maxL := maxL) (ret := ret) hM hp.1 hrc hrs hfr hlo hws hcw (fun a' U hW => word_at hW (Or.inl (by first | rfl | simp [Cond.onTables, Cond.keeps, Cond.steady])) hini)
  obtain ⟨hx, hb, hml, ho, -⟩ := S
  obtain ⟨-, ⟨cellB, hcB, hoB, hclB⟩, hPc⟩ := hp
  intro T hT X
  rcases vx_callVX X hx (C := C) (hh := hh) (bytes := bytes) (maxL := maxL) (ret := ret) ho hl hin hse hcode hy hK (by rw [hT]; exact hcB) hoB hclB hg (hsize.trans hml.symm) (argsL := As) (rest := rest) (fun sig h => hn.trans (hlen sig h)) hstack hW (by rw [hb]; exact hdg)
    (fun vm₁ hW₁ => ⟨hf.1, hf.2, hPc (T.setVm vm₁) hT hW₁⟩) with ⟨v, vm₁, ⟨U', l2, c2, s2⟩, hW₁, X', ⟨g', mk, t, L, e1, e2, hq, h1, hL, h2, h3⟩, st⟩ | ⟨q, vm₁, ⟨U', l2, c2, s2⟩, hW₁, X', ⟨g', mk, t, L, E, ce, e1, e2, hq, hce, hcv, hcl, h1, hL, h2, h3⟩, st⟩
  · dsimp only [Pt.U, Pt.locs, Pt.cells, Pt.slots] at X' e1 e2 h1 h2 h3 st
    subst h1; subst h2; subst h3
    exact Or.inl ⟨v, (T.setVm vm₁).calling g' mk (Value.ref b :: As).toArray, t, U', L, hT, X', hL, e1, e2, hq, st⟩
  · dsimp only [Pt.U, Pt.locs, Pt.cells, Pt.slots] at X' e1 e2 h1 h2 h3 st hcl
    subst h1; subst h2; subst h3
    exact Or.inr ⟨q, (T.setVm vm₁).calling g' mk (Value.ref b :: As).toArray, t, U', L, E, ce, hT, X', hL, e1, e2, hq, hce, hcv, vx_cls hW₁ hcl, st⟩
theorem vx_runSX {hh : List (Nat × Nat × Nat × Nat)} (S : CallFix p m c cc nL s args Ts own) (hM : vx_Met l y ws rm Pc Qc XC mc ms free) (cw : vx_CSW R s args own index y bytes maxL ret hh ws rm mc ms n) (hp : PreS s H Pc As)
    (hg : g.method = m) (hn : As.length = n) (hsize : g.locals.size = nL) (hstack : g.stack = As.reverse ++ rest) (hW : 2 * g.monitorRoom + (rest.map fun v => v.category).sum ≤ 8) (hdg : decode cc g.pc = .ok (.invokestatic index, 3)) (hf : cells + mc ≤ R.cells ∧ slots + ms ≤ R.slots) :
    vx_Run p l e R s m args below meth c H locs cells slots mc ms g rest (Qc As.toArray) XC free := by
  obtain ⟨⟨hrc, hrs, hfr, hlo, hws, hcw⟩, hcode, hini, hy, hlen, hl, hstt⟩ := cw
  have hK : vx_Back l R p e below s args y 3 8 (PreOf R mc ms Pc) (PostOf Qc mc ms free) (vx_Post XC mc ms free) := vx_backW (hh := hh) (bytes := bytes) (maxL := maxL) (ret := ret) hM hp.1 hrc hrs hfr hlo hws hcw (fun a' U hW => word_at hW (Or.inl (by first | rfl | simp [Cond.onTables, Cond.keeps, Cond.steady])) hini)
  obtain ⟨hx, hb, hml, ho, -⟩ := S
  intro T hT X
  rcases vx_callSX X hx (hh := hh) (bytes := bytes) (maxL := maxL) (ret := ret) ho hl hstt hini hcode hy hK hg (hsize.trans hml.symm) (argsL := As) (rest := rest) (fun sig h => hn.trans (hlen sig h)) hstack hW (by rw [hb]; exact hdg)
    (fun vm₁ hW₁ => ⟨hf.1, hf.2, hp.2 (T.setVm vm₁) hT hW₁⟩) with ⟨v, vm₁, ⟨U', l2, c2, s2⟩, hW₁, X', ⟨g', mk, t, L, e1, e2, hq, h1, hL, h2, h3⟩, st⟩ | ⟨q, vm₁, ⟨U', l2, c2, s2⟩, hW₁, X', ⟨g', mk, t, L, E, ce, e1, e2, hq, hce, hcv, hcl, h1, hL, h2, h3⟩, st⟩
  · dsimp only [Pt.U, Pt.locs, Pt.cells, Pt.slots] at X' e1 e2 h1 h2 h3 st
    subst h1; subst h2; subst h3
    exact Or.inl ⟨v, (T.setVm vm₁).calling g' mk As.toArray, t, U', L, hT, X', hL, e1, e2, hq, st⟩
  · dsimp only [Pt.U, Pt.locs, Pt.cells, Pt.slots] at X' e1 e2 h1 h2 h3 st hcl
    subst h1; subst h2; subst h3
    exact Or.inr ⟨q, (T.setVm vm₁).calling g' mk As.toArray, t, U', L, E, ce, hT, X', hL, e1, e2, hq, hce, hcv, vx_cls hW₁ hcl, st⟩
end
end VXH
theorem vx_ofWH {l : Launch} {y : MethodName} {ws ws' : List Cond} {rm : Room} {Pc : Array Value → State → Prop} {Qc : Array Value → State → Outcome → State → Prop} {XC : String → State → State → Prop} {mc ms : Nat} {free : Addr → Prop} {cc : ByteArray} {maxL : Nat} {ret : Option FieldType} {hh : List (Nat × Nat × Nat × Nat)}
    (hy : plainName y.cls = true) (hw : ws = Cond.codeWith y cc maxL ret hh :: ws')
    (body : ∀ p e s m args below meth c s₁, BodyLoose p l y (headSpec ws rm) cc maxL ret e s m args below meth c s₁ → c.maxLocals = maxL → Pc args s →
      W p l e (headSpec ws rm).room s m args below meth c s.heap [] 0 0 (vx_MQ below Qc XC args s mc ms free) (entryFrame m args maxL)) : vx_Met l y ws rm Pc Qc XC mc ms free := by
  refine MetFree.of_bodyS (code := cc) (maxLocals := maxL) (ret := ret) hy ?_ ?_
  · intro args s m h hn
    obtain ⟨m9, meth, c, hn9, h1, h2, h3, h4, -, h5, h6, -⟩ := Cond.codeWith_spec (atoms_spec (ws := ws) h _ (by rw [hw]; exact List.mem_cons_self))
    cases hn.symm.trans hn9
    exact ⟨meth, c, h1, h2, h3, h4, h5, h6⟩
  · intro p e s m args below meth c s₁ B hml hP _
    have hh0 : s₁.heap = s.heap := by rw [B.state]; rfl
    obtain ⟨t, a1, o, b1, b2, b3⟩ := body p e s m args below meth c s₁ B hml hP s₁ hh0 (Stand.of_body B)
    exact ⟨t, o, a1, b1, b2, b3⟩
/-! ===== END ===== -/
end
section
/-! ===== BEGIN printed: names, fields, word lists, decode rows ===== -/
def RX0 : String := "ApartSteps$Carrying"
def TX0 : u_T := fun k => match k with
  | _ => ("ApartSteps$Carrying", "counts", "[I", true)
def tyX0 : Nat → FieldType := fun k => match k with
  | _ => .array .int
abbrev wsX00 : List Cond := u_ws RX0 TX0 1
theorem nmX0 : ∀ a, a < 1 → ∀ b, b < 1 → a ≠ b → (TX0 a).2.1 ≠ (TX0 b).2.1 := by decide +kernel
theorem tyX0_ok : ∀ k, k < 1 → parseFieldDescriptor (TX0 k).2.2.1 = some (tyX0 k) := by decide +kernel
abbrev cX0_init : ByteArray := prog_2_method_1_code
def yX0_init : MethodName := ⟨RX0, "<init>", "()V"⟩
abbrev cX0_carryAll : ByteArray := prog_2_method_2_code
def yX0_carryAll : MethodName := ⟨RX0, "carryAll", "(II)I"⟩
abbrev cX0_countOf : ByteArray := prog_2_method_3_code
def yX0_countOf : MethodName := ⟨RX0, "countOf", "(I)I"⟩
abbrev cX0_change : ByteArray := prog_2_method_4_code
def yX0_change : MethodName := ⟨RX0, "change", "(II)V"⟩
abbrev cX0_countsWithNext : ByteArray := prog_2_method_5_code
def yX0_countsWithNext : MethodName := ⟨RX0, "countsWithNext", "(I)Z"⟩
abbrev cX0_firstToCarry : ByteArray := prog_2_method_6_code
def yX0_firstToCarry : MethodName := ⟨RX0, "firstToCarry", "()I"⟩
abbrev cX0_carryAt : ByteArray := prog_2_method_7_code
def yX0_carryAt : MethodName := ⟨RX0, "carryAt", "(I)V"⟩
abbrev cX0_toMark : ByteArray := prog_2_method_8_code
def yX0_toMark : MethodName := ⟨RX0, "toMark", "()I"⟩
def RX1 : String := "ApartSteps$Reading"
def TX1 : u_T := fun k => match k with
  | 0 => ("ApartSteps$Reading", "numbers", "[I", true)
  | 1 => ("ApartSteps$Reading", "count", "I", false)
  | 2 => ("ApartSteps$Reading", "skipped", "I", false)
  | _ => ("ApartSteps$Reading", "loose", "I", false)
def tyX1 : Nat → FieldType := fun k => match k with
  | 0 => .array .int
  | 1 => .int
  | 2 => .int
  | _ => .int
abbrev wsX10 : List Cond := u_ws RX1 TX1 4
theorem nmX1 : ∀ a, a < 4 → ∀ b, b < 4 → a ≠ b → (TX1 a).2.1 ≠ (TX1 b).2.1 := by decide +kernel
theorem tyX1_ok : ∀ k, k < 4 → parseFieldDescriptor (TX1 k).2.2.1 = some (tyX1 k) := by decide +kernel
abbrev cX1_init : ByteArray := prog_3_method_1_code
def yX1_init : MethodName := ⟨RX1, "<init>", "()V"⟩
abbrev cX1_readAll : ByteArray := prog_3_method_2_code
def yX1_readAll : MethodName := ⟨RX1, "readAll", "(JI)V"⟩
abbrev cX1_endNumber : ByteArray := prog_3_method_3_code
def yX1_endNumber : MethodName := ⟨RX1, "endNumber", "(JI)V"⟩
abbrev cX1_numberAt : ByteArray := prog_3_method_4_code
def yX1_numberAt : MethodName := ⟨RX1, "numberAt", "(I)I"⟩
def RX2 : String := "ApartSteps$State"
def TX2 : u_T := fun k => match k with
  | 0 => ("ApartSteps$State", "numbers", "[I", true)
  | 1 => ("ApartSteps$State", "digits", "J", false)
  | 2 => ("ApartSteps$State", "length", "I", false)
  | 3 => ("ApartSteps$State", "stopPart", "I", false)
  | _ => ("ApartSteps$State", "stopReason", "I", false)
def tyX2 : Nat → FieldType := fun k => match k with
  | 0 => .array .int
  | 1 => .long
  | 2 => .int
  | 3 => .int
  | _ => .int
abbrev wsX20 : List Cond := u_ws RX2 TX2 5
theorem nmX2 : ∀ a, a < 5 → ∀ b, b < 5 → a ≠ b → (TX2 a).2.1 ≠ (TX2 b).2.1 := by decide +kernel
theorem tyX2_ok : ∀ k, k < 5 → parseFieldDescriptor (TX2 k).2.2.1 = some (tyX2 k) := by decide +kernel
abbrev cX2_init : ByteArray := prog_4_method_1_code
def yX2_init : MethodName := ⟨RX2, "<init>", "()V"⟩
abbrev cX2_copyOf : ByteArray := prog_4_method_2_code
def yX2_copyOf : MethodName := ⟨RX2, "copyOf", "(LApartSteps$State;)V"⟩
abbrev cX2_numberIn : ByteArray := prog_4_method_3_code
def yX2_numberIn : MethodName := ⟨RX2, "numberIn", "(I)I"⟩
abbrev cX2_give : ByteArray := prog_4_method_4_code
def yX2_give : MethodName := ⟨RX2, "give", "(II)V"⟩
abbrev cX2_sum : ByteArray := prog_4_method_5_code
def yX2_sum : MethodName := ⟨RX2, "sum", "()I"⟩
abbrev cX2_hasRoomFor : ByteArray := prog_4_method_6_code
def yX2_hasRoomFor : MethodName := ⟨RX2, "hasRoomFor", "(I)Z"⟩
abbrev cX2_putCode : ByteArray := prog_4_method_7_code
def yX2_putCode : MethodName := ⟨RX2, "putCode", "(I)V"⟩
abbrev cX2_turnDigit : ByteArray := prog_4_method_8_code
def yX2_turnDigit : MethodName := ⟨RX2, "turnDigit", "(I)V"⟩
abbrev cX2_dropFirst : ByteArray := prog_4_method_9_code
def yX2_dropFirst : MethodName := ⟨RX2, "dropFirst", "(I)V"⟩
def RX3 : String := "ApartSteps$TextScan"
def TX3 : u_T := fun k => match k with
  | 0 => ("ApartSteps$TextScan", "expected", "I", false)
  | 1 => ("ApartSteps$TextScan", "kind", "C", false)
  | 2 => ("ApartSteps$TextScan", "stall", "I", false)
  | 3 => ("ApartSteps$TextScan", "value", "I", false)
  | 4 => ("ApartSteps$TextScan", "least", "I", false)
  | _ => ("ApartSteps$TextScan", "most", "I", false)
def tyX3 : Nat → FieldType := fun k => match k with
  | 0 => .int
  | 1 => .char
  | 2 => .int
  | 3 => .int
  | 4 => .int
  | _ => .int
abbrev wsX30 : List Cond := u_ws RX3 TX3 6
theorem nmX3 : ∀ a, a < 6 → ∀ b, b < 6 → a ≠ b → (TX3 a).2.1 ≠ (TX3 b).2.1 := by decide +kernel
theorem tyX3_ok : ∀ k, k < 6 → parseFieldDescriptor (TX3 k).2.2.1 = some (tyX3 k) := by decide +kernel
abbrev cX3_init : ByteArray := prog_5_method_1_code
def yX3_init : MethodName := ⟨RX3, "<init>", "()V"⟩
abbrev cX3_start : ByteArray := prog_5_method_2_code
def yX3_start : MethodName := ⟨RX3, "start", "()V"⟩
abbrev cX3_isComplete : ByteArray := prog_5_method_3_code
def yX3_isComplete : MethodName := ⟨RX3, "isComplete", "()Z"⟩
abbrev cX3_take : ByteArray := prog_5_method_4_code
def yX3_take : MethodName := ⟨RX3, "take", "(C)Z"⟩
abbrev cX3_takeBegin : ByteArray := prog_5_method_5_code
def yX3_takeBegin : MethodName := ⟨RX3, "takeBegin", "(C)Z"⟩
abbrev cX3_takeOperation : ByteArray := prog_5_method_6_code
def yX3_takeOperation : MethodName := ⟨RX3, "takeOperation", "(C)Z"⟩
abbrev cX3_expectNumber : ByteArray := prog_5_method_7_code
def yX3_expectNumber : MethodName := ⟨RX3, "expectNumber", "(CII)Z"⟩
abbrev cX3_takeOtherStall : ByteArray := prog_5_method_8_code
def yX3_takeOtherStall : MethodName := ⟨RX3, "takeOtherStall", "(C)Z"⟩
abbrev cX3_takeFirstDigit : ByteArray := prog_5_method_9_code
def yX3_takeFirstDigit : MethodName := ⟨RX3, "takeFirstDigit", "(C)Z"⟩
abbrev cX3_takeDigit : ByteArray := prog_5_method_10_code
def yX3_takeDigit : MethodName := ⟨RX3, "takeDigit", "(C)Z"⟩
abbrev cX3_takeSeparator : ByteArray := prog_5_method_11_code
def yX3_takeSeparator : MethodName := ⟨RX3, "takeSeparator", "(C)Z"⟩
abbrev cX3_isStall : ByteArray := prog_5_method_12_code
def yX3_isStall : MethodName := ⟨RX3, "isStall", "(C)Z"⟩
abbrev cX3_isDigit : ByteArray := prog_5_method_13_code
def yX3_isDigit : MethodName := ⟨RX3, "isDigit", "(C)Z"⟩
def RX4 : String := "ApartSteps$WaysRow"
def TX4 : u_T := fun k => match k with
  | 0 => ("ApartSteps$WaysRow", "lefts", "[I", true)
  | 1 => ("ApartSteps$WaysRow", "counts", "[I", true)
  | _ => ("ApartSteps$WaysRow", "size", "I", false)
def tyX4 : Nat → FieldType := fun k => match k with
  | 0 => .array .int
  | 1 => .array .int
  | _ => .int
abbrev wsX40 : List Cond := u_ws RX4 TX4 3
theorem nmX4 : ∀ a, a < 3 → ∀ b, b < 3 → a ≠ b → (TX4 a).2.1 ≠ (TX4 b).2.1 := by decide +kernel
theorem tyX4_ok : ∀ k, k < 3 → parseFieldDescriptor (TX4 k).2.2.1 = some (tyX4 k) := by decide +kernel
abbrev cX4_init : ByteArray := prog_6_method_1_code
def yX4_init : MethodName := ⟨RX4, "<init>", "()V"⟩
abbrev cX4_clear : ByteArray := prog_6_method_2_code
def yX4_clear : MethodName := ⟨RX4, "clear", "()V"⟩
abbrev cX4_put : ByteArray := prog_6_method_3_code
def yX4_put : MethodName := ⟨RX4, "put", "(II)V"⟩
abbrev cX4_goOn : ByteArray := prog_6_method_4_code
def yX4_goOn : MethodName := ⟨RX4, "goOn", "(ILApartSteps$WaysRow;)V"⟩
abbrev cX4_countOf : ByteArray := prog_6_method_5_code
def yX4_countOf : MethodName := ⟨RX4, "countOf", "(I)I"⟩
def RX5 : String := "ApartSteps"
def TX5 : u_T := fun k => match k with
  | 0 => ("ApartSteps", "now", "LApartSteps$State;", true)
  | 1 => ("ApartSteps", "snapshot", "LApartSteps$State;", true)
  | 2 => ("ApartSteps", "snapshotTaken", "Z", false)
  | 3 => ("ApartSteps", "saved", "[LApartSteps$State;", true)
  | 4 => ("ApartSteps", "savedCount", "I", false)
  | 5 => ("ApartSteps", "text", "[C", true)
  | 6 => ("ApartSteps", "textLength", "I", false)
  | 7 => ("ApartSteps", "scan", "LApartSteps$TextScan;", true)
  | 8 => ("ApartSteps", "reading", "LApartSteps$Reading;", true)
  | 9 => ("ApartSteps", "carrying", "LApartSteps$Carrying;", true)
  | 10 => ("ApartSteps", "oneRow", "LApartSteps$WaysRow;", true)
  | _ => ("ApartSteps", "otherRow", "LApartSteps$WaysRow;", true)
def tyX5 : Nat → FieldType := fun k => match k with
  | 0 => .object "ApartSteps$State"
  | 1 => .object "ApartSteps$State"
  | 2 => .boolean
  | 3 => .array (.object "ApartSteps$State")
  | 4 => .int
  | 5 => .array .char
  | 6 => .int
  | 7 => .object "ApartSteps$TextScan"
  | 8 => .object "ApartSteps$Reading"
  | 9 => .object "ApartSteps$Carrying"
  | 10 => .object "ApartSteps$WaysRow"
  | _ => .object "ApartSteps$WaysRow"
abbrev wsX50 : List Cond := u_ws RX5 TX5 12
theorem nmX5 : ∀ a, a < 12 → ∀ b, b < 12 → a ≠ b → (TX5 a).2.1 ≠ (TX5 b).2.1 := by decide +kernel
theorem tyX5_ok : ∀ k, k < 12 → parseFieldDescriptor (TX5 k).2.2.1 = some (tyX5 k) := by decide +kernel
abbrev cX5_init : ByteArray := prog_1_method_1_code
def yX5_init : MethodName := ⟨RX5, "<init>", "()V"⟩
abbrev cX5_set : ByteArray := prog_1_method_2_code
def yX5_set : MethodName := ⟨RX5, "set", "(II)I"⟩
abbrev cX5_add : ByteArray := prog_1_method_3_code
def yX5_add : MethodName := ⟨RX5, "add", "(II)I"⟩
abbrev cX5_takeAway : ByteArray := prog_1_method_4_code
def yX5_takeAway : MethodName := ⟨RX5, "takeAway", "(II)I"⟩
abbrev cX5_raise : ByteArray := prog_1_method_5_code
def yX5_raise : MethodName := ⟨RX5, "raise", "(I)I"⟩
abbrev cX5_pay : ByteArray := prog_1_method_6_code
def yX5_pay : MethodName := ⟨RX5, "pay", "(III)I"⟩
abbrev cX5_send : ByteArray := prog_1_method_7_code
def yX5_send : MethodName := ⟨RX5, "send", "(I)I"⟩
abbrev cX5_turn : ByteArray := prog_1_method_8_code
def yX5_turn : MethodName := ⟨RX5, "turn", "(I)I"⟩
abbrev cX5_cut : ByteArray := prog_1_method_9_code
def yX5_cut : MethodName := ⟨RX5, "cut", "(I)I"⟩
abbrev cX5_append : ByteArray := prog_1_method_10_code
def yX5_append : MethodName := ⟨RX5, "append", "(I)I"⟩
abbrev cX5_clearBuffer : ByteArray := prog_1_method_11_code
def yX5_clearBuffer : MethodName := ⟨RX5, "clearBuffer", "()I"⟩
abbrev cX5_firstError : ByteArray := prog_1_method_12_code
def yX5_firstError : MethodName := ⟨RX5, "firstError", "()I"⟩
abbrev cX5_work : ByteArray := prog_1_method_13_code
def yX5_work : MethodName := ⟨RX5, "work", "()I"⟩
abbrev cX5_hasStopped : ByteArray := prog_1_method_14_code
def yX5_hasStopped : MethodName := ⟨RX5, "hasStopped", "()Z"⟩
abbrev cX5_stoppedPart : ByteArray := prog_1_method_15_code
def yX5_stoppedPart : MethodName := ⟨RX5, "stoppedPart", "()I"⟩
abbrev cX5_whyStopped : ByteArray := prog_1_method_16_code
def yX5_whyStopped : MethodName := ⟨RX5, "whyStopped", "()I"⟩
abbrev cX5_undo : ByteArray := prog_1_method_17_code
def yX5_undo : MethodName := ⟨RX5, "undo", "()I"⟩
abbrev cX5_keep : ByteArray := prog_1_method_18_code
def yX5_keep : MethodName := ⟨RX5, "keep", "()I"⟩
abbrev cX5_restore : ByteArray := prog_1_method_19_code
def yX5_restore : MethodName := ⟨RX5, "restore", "()I"⟩
abbrev cX5_savedStates : ByteArray := prog_1_method_20_code
def yX5_savedStates : MethodName := ⟨RX5, "savedStates", "()I"⟩
abbrev cX5_worthOf : ByteArray := prog_1_method_21_code
def yX5_worthOf : MethodName := ⟨RX5, "worthOf", "(I)I"⟩
abbrev cX5_worthOfSet : ByteArray := prog_1_method_22_code
def yX5_worthOfSet : MethodName := ⟨RX5, "worthOfSet", "(I)I"⟩
abbrev cX5_say : ByteArray := prog_1_method_23_code
def yX5_say : MethodName := ⟨RX5, "say", "(I)I"⟩
abbrev cX5_sayByCounting : ByteArray := prog_1_method_24_code
def yX5_sayByCounting : MethodName := ⟨RX5, "sayByCounting", "(I)I"⟩
abbrev cX5_fullSet : ByteArray := prog_1_method_25_code
def yX5_fullSet : MethodName := ⟨RX5, "fullSet", "(I)I"⟩
abbrev cX5_ways : ByteArray := prog_1_method_26_code
def yX5_ways : MethodName := ⟨RX5, "ways", "(I)I"⟩
abbrev cX5_waysByGaps : ByteArray := prog_1_method_27_code
def yX5_waysByGaps : MethodName := ⟨RX5, "waysByGaps", "(I)I"⟩
abbrev cX5_spokenLength : ByteArray := prog_1_method_28_code
def yX5_spokenLength : MethodName := ⟨RX5, "spokenLength", "(II)I"⟩
abbrev cX5_spokenAt : ByteArray := prog_1_method_29_code
def yX5_spokenAt : MethodName := ⟨RX5, "spokenAt", "(III)I"⟩
abbrev cX5_numberOf : ByteArray := prog_1_method_30_code
def yX5_numberOf : MethodName := ⟨RX5, "numberOf", "(I)I"⟩
abbrev cX5_stepsOf : ByteArray := prog_1_method_31_code
def yX5_stepsOf : MethodName := ⟨RX5, "stepsOf", "(I)I"⟩
abbrev cX5_total : ByteArray := prog_1_method_32_code
def yX5_total : MethodName := ⟨RX5, "total", "()I"⟩
abbrev cX5_richest : ByteArray := prog_1_method_33_code
def yX5_richest : MethodName := ⟨RX5, "richest", "()I"⟩
abbrev cX5_sumByCarries : ByteArray := prog_1_method_34_code
def yX5_sumByCarries : MethodName := ⟨RX5, "sumByCarries", "(II)I"⟩
abbrev cX5_carries : ByteArray := prog_1_method_35_code
def yX5_carries : MethodName := ⟨RX5, "carries", "(II)I"⟩
abbrev cX5_streamLength : ByteArray := prog_1_method_36_code
def yX5_streamLength : MethodName := ⟨RX5, "streamLength", "()I"⟩
abbrev cX5_digitAt : ByteArray := prog_1_method_37_code
def yX5_digitAt : MethodName := ⟨RX5, "digitAt", "(I)I"⟩
abbrev cX5_readNumbers : ByteArray := prog_1_method_38_code
def yX5_readNumbers : MethodName := ⟨RX5, "readNumbers", "()I"⟩
abbrev cX5_readAt : ByteArray := prog_1_method_39_code
def yX5_readAt : MethodName := ⟨RX5, "readAt", "(I)I"⟩
abbrev cX5_errors : ByteArray := prog_1_method_40_code
def yX5_errors : MethodName := ⟨RX5, "errors", "()I"⟩
abbrev cX5_looseDigits : ByteArray := prog_1_method_41_code
def yX5_looseDigits : MethodName := ⟨RX5, "looseDigits", "()I"⟩
abbrev cX5_readIfTurned : ByteArray := prog_1_method_42_code
def yX5_readIfTurned : MethodName := ⟨RX5, "readIfTurned", "(I)I"⟩
abbrev cX5_codeLength : ByteArray := prog_1_method_43_code
def yX5_codeLength : MethodName := ⟨RX5, "codeLength", "(I)I"⟩
abbrev cX5_sparseShare : ByteArray := prog_1_method_44_code
def yX5_sparseShare : MethodName := ⟨RX5, "sparseShare", "()D"⟩
abbrev cX5_digest : ByteArray := prog_1_method_45_code
def yX5_digest : MethodName := ⟨RX5, "digest", "()J"⟩
abbrev cX5_checkStall : ByteArray := prog_1_method_46_code
def yX5_checkStall : MethodName := ⟨RX5, "checkStall", "(I)V"⟩
abbrev cX5_checkTribe : ByteArray := prog_1_method_47_code
def yX5_checkTribe : MethodName := ⟨RX5, "checkTribe", "(I)V"⟩
abbrev cX5_checkNumber : ByteArray := prog_1_method_48_code
def yX5_checkNumber : MethodName := ⟨RX5, "checkNumber", "(I)V"⟩
abbrev cX5_checkNumberFromOne : ByteArray := prog_1_method_49_code
def yX5_checkNumberFromOne : MethodName := ⟨RX5, "checkNumberFromOne", "(I)V"⟩
abbrev cX5_checkDigit : ByteArray := prog_1_method_50_code
def yX5_checkDigit : MethodName := ⟨RX5, "checkDigit", "(I)V"⟩
abbrev cX5_checkStopped : ByteArray := prog_1_method_51_code
def yX5_checkStopped : MethodName := ⟨RX5, "checkStopped", "()V"⟩
abbrev cX5_saveNow : ByteArray := prog_1_method_52_code
def yX5_saveNow : MethodName := ⟨RX5, "saveNow", "()V"⟩
abbrev cX5_dropOldest : ByteArray := prog_1_method_53_code
def yX5_dropOldest : MethodName := ⟨RX5, "dropOldest", "()V"⟩
abbrev cX5_copyState : ByteArray := prog_1_method_54_code
def yX5_copyState : MethodName := ⟨RX5, "copyState", "(LApartSteps$State;LApartSteps$State;)V"⟩
abbrev cX5_worth : ByteArray := prog_1_method_55_code
def yX5_worth : MethodName := ⟨RX5, "worth", "(I)I"⟩
abbrev cX5_hasStep : ByteArray := prog_1_method_56_code
def yX5_hasStep : MethodName := ⟨RX5, "hasStep", "(II)Z"⟩
abbrev cX5_worthOfMark : ByteArray := prog_1_method_57_code
def yX5_worthOfMark : MethodName := ⟨RX5, "worthOfMark", "(I)I"⟩
abbrev cX5_greedyMark : ByteArray := prog_1_method_58_code
def yX5_greedyMark : MethodName := ⟨RX5, "greedyMark", "(I)I"⟩
abbrev cX5_countedMark : ByteArray := prog_1_method_59_code
def yX5_countedMark : MethodName := ⟨RX5, "countedMark", "(I)I"⟩
abbrev cX5_worthBelow : ByteArray := prog_1_method_60_code
def yX5_worthBelow : MethodName := ⟨RX5, "worthBelow", "(I)I"⟩
abbrev cX5_fullMark : ByteArray := prog_1_method_61_code
def yX5_fullMark : MethodName := ⟨RX5, "fullMark", "(I)I"⟩
abbrev cX5_canRaise : ByteArray := prog_1_method_62_code
def yX5_canRaise : MethodName := ⟨RX5, "canRaise", "(I)Z"⟩
abbrev cX5_raisedWorth : ByteArray := prog_1_method_63_code
def yX5_raisedWorth : MethodName := ⟨RX5, "raisedWorth", "(I)I"⟩
abbrev cX5_waysInTable : ByteArray := prog_1_method_64_code
def yX5_waysInTable : MethodName := ⟨RX5, "waysInTable", "(I)I"⟩
abbrev cX5_waysOfMark : ByteArray := prog_1_method_65_code
def yX5_waysOfMark : MethodName := ⟨RX5, "waysOfMark", "(I)I"⟩
abbrev cX5_wordAt : ByteArray := prog_1_method_66_code
def yX5_wordAt : MethodName := ⟨RX5, "wordAt", "(III)I"⟩
abbrev cX5_stepFromLowest : ByteArray := prog_1_method_67_code
def yX5_stepFromLowest : MethodName := ⟨RX5, "stepFromLowest", "(II)I"⟩
abbrev cX5_carryStalls : ByteArray := prog_1_method_68_code
def yX5_carryStalls : MethodName := ⟨RX5, "carryStalls", "(II)I"⟩
abbrev cX5_lengthOfCode : ByteArray := prog_1_method_69_code
def yX5_lengthOfCode : MethodName := ⟨RX5, "lengthOfCode", "(I)I"⟩
abbrev cX5_digitOf : ByteArray := prog_1_method_70_code
def yX5_digitOf : MethodName := ⟨RX5, "digitOf", "(JI)I"⟩
abbrev cX5_countIfTurned : ByteArray := prog_1_method_71_code
def yX5_countIfTurned : MethodName := ⟨RX5, "countIfTurned", "(I)I"⟩
abbrev cX5_scanText : ByteArray := prog_1_method_72_code
def yX5_scanText : MethodName := ⟨RX5, "scanText", "()I"⟩
abbrev cX5_doParts : ByteArray := prog_1_method_73_code
def yX5_doParts : MethodName := ⟨RX5, "doParts", "()I"⟩
abbrev cX5_doPart : ByteArray := prog_1_method_74_code
def yX5_doPart : MethodName := ⟨RX5, "doPart", "()I"⟩
abbrev cX5_giveIfFits : ByteArray := prog_1_method_75_code
def yX5_giveIfFits : MethodName := ⟨RX5, "giveIfFits", "(I)I"⟩
abbrev cX5_doRaise : ByteArray := prog_1_method_76_code
def yX5_doRaise : MethodName := ⟨RX5, "doRaise", "(I)I"⟩
abbrev cX5_doSend : ByteArray := prog_1_method_77_code
def yX5_doSend : MethodName := ⟨RX5, "doSend", "(I)I"⟩
abbrev cX5_doTurn : ByteArray := prog_1_method_78_code
def yX5_doTurn : MethodName := ⟨RX5, "doTurn", "(I)I"⟩
abbrev cX5_mix : ByteArray := prog_1_method_79_code
def yX5_mix : MethodName := ⟨RX5, "mix", "(JJ)J"⟩
abbrev cX5_mixNumber : ByteArray := prog_1_method_80_code
def yX5_mixNumber : MethodName := ⟨RX5, "mixNumber", "(JI)J"⟩
abbrev cX5_mixStream : ByteArray := prog_1_method_81_code
def yX5_mixStream : MethodName := ⟨RX5, "mixStream", "(J)J"⟩
abbrev cX5_mixStop : ByteArray := prog_1_method_82_code
def yX5_mixStop : MethodName := ⟨RX5, "mixStop", "(J)J"⟩
abbrev cX5_mixText : ByteArray := prog_1_method_83_code
def yX5_mixText : MethodName := ⟨RX5, "mixText", "(J)J"⟩
abbrev cX5_bitsOfShare : ByteArray := prog_1_method_84_code
def yX5_bitsOfShare : MethodName := ⟨RX5, "bitsOfShare", "(D)J"⟩
def RX6 : String := "ApartStepsModel"
def TX6 : u_T := fun k => match k with
  | 0 => ("ApartStepsModel", "s", "[I", true)
  | 1 => ("ApartStepsModel", "states", "I", false)
  | 2 => ("ApartStepsModel", "isKept", "Z", false)
  | 3 => ("ApartStepsModel", "thrown", "I", false)
  | 4 => ("ApartStepsModel", "text", "[I", true)
  | 5 => ("ApartStepsModel", "typed", "I", false)
  | 6 => ("ApartStepsModel", "at", "I", false)
  | 7 => ("ApartStepsModel", "first", "I", false)
  | 8 => ("ApartStepsModel", "second", "I", false)
  | 9 => ("ApartStepsModel", "counts", "[I", true)
  | 10 => ("ApartStepsModel", "carried", "I", false)
  | 11 => ("ApartStepsModel", "found", "[I", true)
  | 12 => ("ApartStepsModel", "wrong", "I", false)
  | _ => ("ApartStepsModel", "loose", "I", false)
def tyX6 : Nat → FieldType := fun k => match k with
  | 0 => .array .int
  | 1 => .int
  | 2 => .boolean
  | 3 => .int
  | 4 => .array .int
  | 5 => .int
  | 6 => .int
  | 7 => .int
  | 8 => .int
  | 9 => .array .int
  | 10 => .int
  | 11 => .array .int
  | 12 => .int
  | _ => .int
abbrev wsX60 : List Cond := u_ws RX6 TX6 14
theorem nmX6 : ∀ a, a < 14 → ∀ b, b < 14 → a ≠ b → (TX6 a).2.1 ≠ (TX6 b).2.1 := by decide +kernel
theorem tyX6_ok : ∀ k, k < 14 → parseFieldDescriptor (TX6 k).2.2.1 = some (tyX6 k) := by decide +kernel
abbrev cX6_init : ByteArray := prog_8_method_1_code
def yX6_init : MethodName := ⟨RX6, "<init>", "()V"⟩
abbrev cX6_thrown : ByteArray := prog_8_method_2_code
def yX6_thrown : MethodName := ⟨RX6, "thrown", "()I"⟩
abbrev cX6_in : ByteArray := prog_8_method_3_code
def yX6_in : MethodName := ⟨RX6, "in", "(III)Z"⟩
abbrev cX6_goes : ByteArray := prog_8_method_4_code
def yX6_goes : MethodName := ⟨RX6, "goes", "(ZZZ)Z"⟩
abbrev cX6_copies : ByteArray := prog_8_method_5_code
def yX6_copies : MethodName := ⟨RX6, "copies", "(II)V"⟩
abbrev cX6_saves : ByteArray := prog_8_method_6_code
def yX6_saves : MethodName := ⟨RX6, "saves", "()V"⟩
abbrev cX6_worth : ByteArray := prog_8_method_7_code
def yX6_worth : MethodName := ⟨RX6, "worth", "(I)I"⟩
abbrev cX6_worths : ByteArray := prog_8_method_8_code
def yX6_worths : MethodName := ⟨RX6, "worths", "(I)I"⟩
abbrev cX6_said : ByteArray := prog_8_method_9_code
def yX6_said : MethodName := ⟨RX6, "said", "(I)I"⟩
abbrev cX6_full : ByteArray := prog_8_method_10_code
def yX6_full : MethodName := ⟨RX6, "full", "(I)I"⟩
abbrev cX6_many : ByteArray := prog_8_method_11_code
def yX6_many : MethodName := ⟨RX6, "many", "(I)I"⟩
abbrev cX6_step : ByteArray := prog_8_method_12_code
def yX6_step : MethodName := ⟨RX6, "step", "(II)I"⟩
abbrev cX6_countWays : ByteArray := prog_8_method_13_code
def yX6_countWays : MethodName := ⟨RX6, "countWays", "(I)I"⟩
abbrev cX6_adds : ByteArray := prog_8_method_14_code
def yX6_adds : MethodName := ⟨RX6, "adds", "(II)I"⟩
abbrev cX6_carry : ByteArray := prog_8_method_15_code
def yX6_carry : MethodName := ⟨RX6, "carry", "(I)Z"⟩
abbrev cX6_isStall : ByteArray := prog_8_method_16_code
def yX6_isStall : MethodName := ⟨RX6, "isStall", "(I)Z"⟩
abbrev cX6_isNumber : ByteArray := prog_8_method_17_code
def yX6_isNumber : MethodName := ⟨RX6, "isNumber", "(I)Z"⟩
abbrev cX6_raised : ByteArray := prog_8_method_18_code
def yX6_raised : MethodName := ⟨RX6, "raised", "(I)I"⟩
abbrev cX6_canRaise : ByteArray := prog_8_method_19_code
def yX6_canRaise : MethodName := ⟨RX6, "canRaise", "(I)Z"⟩
abbrev cX6_set : ByteArray := prog_8_method_20_code
def yX6_set : MethodName := ⟨RX6, "set", "(II)I"⟩
abbrev cX6_add : ByteArray := prog_8_method_21_code
def yX6_add : MethodName := ⟨RX6, "add", "(II)I"⟩
abbrev cX6_takeAway : ByteArray := prog_8_method_22_code
def yX6_takeAway : MethodName := ⟨RX6, "takeAway", "(II)I"⟩
abbrev cX6_raise : ByteArray := prog_8_method_23_code
def yX6_raise : MethodName := ⟨RX6, "raise", "(I)I"⟩
abbrev cX6_pay : ByteArray := prog_8_method_24_code
def yX6_pay : MethodName := ⟨RX6, "pay", "(III)I"⟩
abbrev cX6_codeOf : ByteArray := prog_8_method_25_code
def yX6_codeOf : MethodName := ⟨RX6, "codeOf", "(I)I"⟩
abbrev cX6_canSend : ByteArray := prog_8_method_26_code
def yX6_canSend : MethodName := ⟨RX6, "canSend", "(I)Z"⟩
abbrev cX6_sends : ByteArray := prog_8_method_27_code
def yX6_sends : MethodName := ⟨RX6, "sends", "(I)I"⟩
abbrev cX6_send : ByteArray := prog_8_method_28_code
def yX6_send : MethodName := ⟨RX6, "send", "(I)I"⟩
abbrev cX6_isDigit : ByteArray := prog_8_method_29_code
def yX6_isDigit : MethodName := ⟨RX6, "isDigit", "(I)Z"⟩
abbrev cX6_turns : ByteArray := prog_8_method_30_code
def yX6_turns : MethodName := ⟨RX6, "turns", "(I)I"⟩
abbrev cX6_turn : ByteArray := prog_8_method_31_code
def yX6_turn : MethodName := ⟨RX6, "turn", "(I)I"⟩
abbrev cX6_cut : ByteArray := prog_8_method_32_code
def yX6_cut : MethodName := ⟨RX6, "cut", "(I)I"⟩
abbrev cX6_reads : ByteArray := prog_8_method_33_code
def yX6_reads : MethodName := ⟨RX6, "reads", "()I"⟩
abbrev cX6_append : ByteArray := prog_8_method_34_code
def yX6_append : MethodName := ⟨RX6, "append", "(I)I"⟩
abbrev cX6_clearBuffer : ByteArray := prog_8_method_35_code
def yX6_clearBuffer : MethodName := ⟨RX6, "clearBuffer", "()I"⟩
abbrev cX6_isAt : ByteArray := prog_8_method_36_code
def yX6_isAt : MethodName := ⟨RX6, "isAt", "(II)Z"⟩
abbrev cX6_sign : ByteArray := prog_8_method_37_code
def yX6_sign : MethodName := ⟨RX6, "sign", "(I)Z"⟩
abbrev cX6_number : ByteArray := prog_8_method_38_code
def yX6_number : MethodName := ⟨RX6, "number", "(II)I"⟩
abbrev cX6_part : ByteArray := prog_8_method_39_code
def yX6_part : MethodName := ⟨RX6, "part", "()I"⟩
abbrev cX6_isWhole : ByteArray := prog_8_method_40_code
def yX6_isWhole : MethodName := ⟨RX6, "isWhole", "()Z"⟩
abbrev cX6_firstError : ByteArray := prog_8_method_41_code
def yX6_firstError : MethodName := ⟨RX6, "firstError", "()I"⟩
abbrev cX6_reason : ByteArray := prog_8_method_42_code
def yX6_reason : MethodName := ⟨RX6, "reason", "(I)I"⟩
abbrev cX6_does : ByteArray := prog_8_method_43_code
def yX6_does : MethodName := ⟨RX6, "does", "(I)V"⟩
abbrev cX6_work : ByteArray := prog_8_method_44_code
def yX6_work : MethodName := ⟨RX6, "work", "()I"⟩
abbrev cX6_hasStopped : ByteArray := prog_8_method_45_code
def yX6_hasStopped : MethodName := ⟨RX6, "hasStopped", "()Z"⟩
abbrev cX6_stoppedPart : ByteArray := prog_8_method_46_code
def yX6_stoppedPart : MethodName := ⟨RX6, "stoppedPart", "()I"⟩
abbrev cX6_whyStopped : ByteArray := prog_8_method_47_code
def yX6_whyStopped : MethodName := ⟨RX6, "whyStopped", "()I"⟩
abbrev cX6_sum : ByteArray := prog_8_method_48_code
def yX6_sum : MethodName := ⟨RX6, "sum", "()I"⟩
abbrev cX6_undo : ByteArray := prog_8_method_49_code
def yX6_undo : MethodName := ⟨RX6, "undo", "()I"⟩
abbrev cX6_keep : ByteArray := prog_8_method_50_code
def yX6_keep : MethodName := ⟨RX6, "keep", "()I"⟩
abbrev cX6_restore : ByteArray := prog_8_method_51_code
def yX6_restore : MethodName := ⟨RX6, "restore", "()I"⟩
abbrev cX6_savedStates : ByteArray := prog_8_method_52_code
def yX6_savedStates : MethodName := ⟨RX6, "savedStates", "()I"⟩
abbrev cX6_worthOf : ByteArray := prog_8_method_53_code
def yX6_worthOf : MethodName := ⟨RX6, "worthOf", "(I)I"⟩
abbrev cX6_worthOfSet : ByteArray := prog_8_method_54_code
def yX6_worthOfSet : MethodName := ⟨RX6, "worthOfSet", "(I)I"⟩
abbrev cX6_say : ByteArray := prog_8_method_55_code
def yX6_say : MethodName := ⟨RX6, "say", "(I)I"⟩
abbrev cX6_sayByCounting : ByteArray := prog_8_method_56_code
def yX6_sayByCounting : MethodName := ⟨RX6, "sayByCounting", "(I)I"⟩
abbrev cX6_fullSet : ByteArray := prog_8_method_57_code
def yX6_fullSet : MethodName := ⟨RX6, "fullSet", "(I)I"⟩
abbrev cX6_ways : ByteArray := prog_8_method_58_code
def yX6_ways : MethodName := ⟨RX6, "ways", "(I)I"⟩
abbrev cX6_waysByGaps : ByteArray := prog_8_method_59_code
def yX6_waysByGaps : MethodName := ⟨RX6, "waysByGaps", "(I)I"⟩
abbrev cX6_spokenLength : ByteArray := prog_8_method_60_code
def yX6_spokenLength : MethodName := ⟨RX6, "spokenLength", "(II)I"⟩
abbrev cX6_word : ByteArray := prog_8_method_61_code
def yX6_word : MethodName := ⟨RX6, "word", "(III)I"⟩
abbrev cX6_spokenAt : ByteArray := prog_8_method_62_code
def yX6_spokenAt : MethodName := ⟨RX6, "spokenAt", "(III)I"⟩
abbrev cX6_numberOf : ByteArray := prog_8_method_63_code
def yX6_numberOf : MethodName := ⟨RX6, "numberOf", "(I)I"⟩
abbrev cX6_stepsOf : ByteArray := prog_8_method_64_code
def yX6_stepsOf : MethodName := ⟨RX6, "stepsOf", "(I)I"⟩
abbrev cX6_total : ByteArray := prog_8_method_65_code
def yX6_total : MethodName := ⟨RX6, "total", "()I"⟩
abbrev cX6_rich : ByteArray := prog_8_method_66_code
def yX6_rich : MethodName := ⟨RX6, "rich", "()I"⟩
abbrev cX6_richest : ByteArray := prog_8_method_67_code
def yX6_richest : MethodName := ⟨RX6, "richest", "()I"⟩
abbrev cX6_sumByCarries : ByteArray := prog_8_method_68_code
def yX6_sumByCarries : MethodName := ⟨RX6, "sumByCarries", "(II)I"⟩
abbrev cX6_carries : ByteArray := prog_8_method_69_code
def yX6_carries : MethodName := ⟨RX6, "carries", "(II)I"⟩
abbrev cX6_streamLength : ByteArray := prog_8_method_70_code
def yX6_streamLength : MethodName := ⟨RX6, "streamLength", "()I"⟩
abbrev cX6_digitAt : ByteArray := prog_8_method_71_code
def yX6_digitAt : MethodName := ⟨RX6, "digitAt", "(I)I"⟩
abbrev cX6_readNumbers : ByteArray := prog_8_method_72_code
def yX6_readNumbers : MethodName := ⟨RX6, "readNumbers", "()I"⟩
abbrev cX6_readAt : ByteArray := prog_8_method_73_code
def yX6_readAt : MethodName := ⟨RX6, "readAt", "(I)I"⟩
abbrev cX6_errors : ByteArray := prog_8_method_74_code
def yX6_errors : MethodName := ⟨RX6, "errors", "()I"⟩
abbrev cX6_looseDigits : ByteArray := prog_8_method_75_code
def yX6_looseDigits : MethodName := ⟨RX6, "looseDigits", "()I"⟩
abbrev cX6_readTurned : ByteArray := prog_8_method_76_code
def yX6_readTurned : MethodName := ⟨RX6, "readTurned", "(I)I"⟩
abbrev cX6_readIfTurned : ByteArray := prog_8_method_77_code
def yX6_readIfTurned : MethodName := ⟨RX6, "readIfTurned", "(I)I"⟩
abbrev cX6_codeLength : ByteArray := prog_8_method_78_code
def yX6_codeLength : MethodName := ⟨RX6, "codeLength", "(I)I"⟩
abbrev cX6_allSteps : ByteArray := prog_8_method_79_code
def yX6_allSteps : MethodName := ⟨RX6, "allSteps", "(Z)I"⟩
abbrev cX6_sparseShare : ByteArray := prog_8_method_80_code
def yX6_sparseShare : MethodName := ⟨RX6, "sparseShare", "()D"⟩
abbrev cX6_bits : ByteArray := prog_8_method_81_code
def yX6_bits : MethodName := ⟨RX6, "bits", "(II)J"⟩
abbrev cX6_hashOfStalls : ByteArray := prog_8_method_82_code
def yX6_hashOfStalls : MethodName := ⟨RX6, "hashOfStalls", "(J)J"⟩
abbrev cX6_digest : ByteArray := prog_8_method_83_code
def yX6_digest : MethodName := ⟨RX6, "digest", "()J"⟩
def RJ6 : String := "java/lang/Integer"
def TJ6 : u_T := fun k => match k with
  | _ => ("", "", "", false)
def tyJ6 : Nat → FieldType := fun k => match k with
  | _ => .int
abbrev wsJ60 : List Cond := u_ws RJ6 TJ6 0
theorem nmJ6 : ∀ a, a < 0 → ∀ b, b < 0 → a ≠ b → (TJ6 a).2.1 ≠ (TJ6 b).2.1 := by decide +kernel
theorem tyJ6_ok : ∀ k, k < 0 → parseFieldDescriptor (TJ6 k).2.2.1 = some (tyJ6 k) := by decide +kernel
abbrev cJ6_bitCount_0f7a4 : ByteArray := prog_13_method_49_code
def yJ6_bitCount_0f7a4 : MethodName := ⟨RJ6, "bitCount", "(I)I"⟩
def RJ0 : String := "java/lang/String"
def TJ0 : u_T := fun k => match k with
  | _ => ("", "", "", false)
def tyJ0 : Nat → FieldType := fun k => match k with
  | _ => .int
abbrev wsJ00 : List Cond := u_ws RJ0 TJ0 0
theorem nmJ0 : ∀ a, a < 0 → ∀ b, b < 0 → a ≠ b → (TJ0 a).2.1 ≠ (TJ0 b).2.1 := by decide +kernel
theorem tyJ0_ok : ∀ k, k < 0 → parseFieldDescriptor (TJ0 k).2.2.1 = some (tyJ0 k) := by decide +kernel
def RL : String := "ApartStepsLaw"
abbrev cL_set : ByteArray := method_3_code
def yL_set : MethodName := ⟨RL, "set", "(LApartSteps;II[J)I"⟩
abbrev cL_add : ByteArray := method_4_code
def yL_add : MethodName := ⟨RL, "add", "(LApartSteps;II[J)I"⟩
abbrev cL_takeAway : ByteArray := method_5_code
def yL_takeAway : MethodName := ⟨RL, "takeAway", "(LApartSteps;II[J)I"⟩
abbrev cL_raise : ByteArray := method_6_code
def yL_raise : MethodName := ⟨RL, "raise", "(LApartSteps;I[J)I"⟩
abbrev cL_pay : ByteArray := method_7_code
def yL_pay : MethodName := ⟨RL, "pay", "(LApartSteps;III[J)I"⟩
abbrev cL_send : ByteArray := method_8_code
def yL_send : MethodName := ⟨RL, "send", "(LApartSteps;I[J)I"⟩
abbrev cL_turn : ByteArray := method_9_code
def yL_turn : MethodName := ⟨RL, "turn", "(LApartSteps;I[J)I"⟩
abbrev cL_cut : ByteArray := method_10_code
def yL_cut : MethodName := ⟨RL, "cut", "(LApartSteps;I[J)I"⟩
abbrev cL_append : ByteArray := method_11_code
def yL_append : MethodName := ⟨RL, "append", "(LApartSteps;I[J)I"⟩
abbrev cL_work : ByteArray := method_12_code
def yL_work : MethodName := ⟨RL, "work", "(LApartSteps;[J)I"⟩
abbrev cL_stoppedPart : ByteArray := method_13_code
def yL_stoppedPart : MethodName := ⟨RL, "stoppedPart", "(LApartSteps;[J)I"⟩
abbrev cL_whyStopped : ByteArray := method_14_code
def yL_whyStopped : MethodName := ⟨RL, "whyStopped", "(LApartSteps;[J)I"⟩
abbrev cL_undo : ByteArray := method_15_code
def yL_undo : MethodName := ⟨RL, "undo", "(LApartSteps;[J)I"⟩
abbrev cL_restore : ByteArray := method_16_code
def yL_restore : MethodName := ⟨RL, "restore", "(LApartSteps;[J)I"⟩
abbrev cL_worthOf : ByteArray := method_17_code
def yL_worthOf : MethodName := ⟨RL, "worthOf", "(LApartSteps;I[J)I"⟩
abbrev cL_worthOfSet : ByteArray := method_18_code
def yL_worthOfSet : MethodName := ⟨RL, "worthOfSet", "(LApartSteps;I[J)I"⟩
abbrev cL_say : ByteArray := method_19_code
def yL_say : MethodName := ⟨RL, "say", "(LApartSteps;I[J)I"⟩
abbrev cL_sayByCounting : ByteArray := method_20_code
def yL_sayByCounting : MethodName := ⟨RL, "sayByCounting", "(LApartSteps;I[J)I"⟩
abbrev cL_fullSet : ByteArray := method_21_code
def yL_fullSet : MethodName := ⟨RL, "fullSet", "(LApartSteps;I[J)I"⟩
abbrev cL_ways : ByteArray := method_22_code
def yL_ways : MethodName := ⟨RL, "ways", "(LApartSteps;I[J)I"⟩
abbrev cL_waysByGaps : ByteArray := method_23_code
def yL_waysByGaps : MethodName := ⟨RL, "waysByGaps", "(LApartSteps;I[J)I"⟩
abbrev cL_spokenLength : ByteArray := method_24_code
def yL_spokenLength : MethodName := ⟨RL, "spokenLength", "(LApartSteps;II[J)I"⟩
abbrev cL_spokenAt : ByteArray := method_25_code
def yL_spokenAt : MethodName := ⟨RL, "spokenAt", "(LApartSteps;III[J)I"⟩
abbrev cL_numberOf : ByteArray := method_26_code
def yL_numberOf : MethodName := ⟨RL, "numberOf", "(LApartSteps;I[J)I"⟩
abbrev cL_stepsOf : ByteArray := method_27_code
def yL_stepsOf : MethodName := ⟨RL, "stepsOf", "(LApartSteps;I[J)I"⟩
abbrev cL_sumByCarries : ByteArray := method_28_code
def yL_sumByCarries : MethodName := ⟨RL, "sumByCarries", "(LApartSteps;II[J)I"⟩
abbrev cL_carries : ByteArray := method_29_code
def yL_carries : MethodName := ⟨RL, "carries", "(LApartSteps;II[J)I"⟩
abbrev cL_digitAt : ByteArray := method_30_code
def yL_digitAt : MethodName := ⟨RL, "digitAt", "(LApartSteps;I[J)I"⟩
abbrev cL_readAt : ByteArray := method_31_code
def yL_readAt : MethodName := ⟨RL, "readAt", "(LApartSteps;I[J)I"⟩
abbrev cL_readIfTurned : ByteArray := method_32_code
def yL_readIfTurned : MethodName := ⟨RL, "readIfTurned", "(LApartSteps;I[J)I"⟩
abbrev cL_codeLength : ByteArray := method_33_code
def yL_codeLength : MethodName := ⟨RL, "codeLength", "(LApartSteps;I[J)I"⟩
abbrev cL_law : ByteArray := code
def yL_law : MethodName := ⟨RL, "law", "([I)Z"⟩
abbrev vwCl : List vw_C := [(RX0, TX0, 1), (RX1, TX1, 4), (RX2, TX2, 5), (RX3, TX3, 6), (RX4, TX4, 3), (RX5, TX5, 12), (RX6, TX6, 14)]
end
section
/-! numbers: an int is iI of an integer, a long lL of one -/
def iI (z : Int) : Int32 := Int32.ofInt z
def lL (z : Int) : Int64 := Int64.ofInt z
theorem iI_toInt {z : Int} (h1 : -2147483648 ≤ z) (h2 : z < 2147483648) : (iI z).toInt = z := by
  rw [iI, Int32.toInt_ofInt]
  show z.bmod 4294967296 = z
  rw [Int.bmod_eq_of_le (by omega) (by omega)]
theorem iI_as (x : Int32) : iI x.toInt = x := Int32.ofInt_toInt x
theorem iI_ex (x : Int32) : ∃ z : Int, (-2147483648 ≤ z ∧ z < 2147483648) ∧ x = iI z := by
  have h1 := Int32.le_toInt x
  have h2 := Int32.toInt_lt x
  exact ⟨x.toInt, ⟨by omega, by omega⟩, (iI_as x).symm⟩
theorem iI_add (a b : Int) : iI a + iI b = iI (a + b) := (Int32.ofInt_add a b).symm
theorem iI_sub (a b : Int) : iI a - iI b = iI (a - b) := (Int32.ofInt_sub a b).symm
theorem iI_mul (a b : Int) : iI a * iI b = iI (a * b) := (Int32.ofInt_mul a b).symm
theorem iI_nat (n : Nat) : iI (n : Int) = nI n := by
  unfold iI nI
  apply Int32.toBitVec_inj.1
  simp
theorem iI_clamp {z : Int} (h1 : 0 ≤ z) (h2 : z < 2147483648) : (iI z).toNatClampNeg = z.toNat := by
  show (iI z).toInt.toNat = z.toNat
  rw [iI_toInt (by omega) h2]
theorem iI_lt {a b : Int} (ha : -2147483648 ≤ a ∧ a < 2147483648) (hb : -2147483648 ≤ b ∧ b < 2147483648) : iI a < iI b ↔ a < b := by
  rw [Int32.lt_iff_toInt_lt, iI_toInt ha.1 ha.2, iI_toInt hb.1 hb.2]
theorem iI_le {a b : Int} (ha : -2147483648 ≤ a ∧ a < 2147483648) (hb : -2147483648 ≤ b ∧ b < 2147483648) : iI a ≤ iI b ↔ a ≤ b := by
  rw [Int32.le_iff_toInt_le, iI_toInt ha.1 ha.2, iI_toInt hb.1 hb.2]
theorem iI_eq {a b : Int} (ha : -2147483648 ≤ a ∧ a < 2147483648) (hb : -2147483648 ≤ b ∧ b < 2147483648) : iI a = iI b ↔ a = b := by
  constructor
  · intro h
    have h2 := congrArg Int32.toInt h
    rw [iI_toInt ha.1 ha.2, iI_toInt hb.1 hb.2] at h2
    exact h2
  · intro h; rw [h]
theorem iI_in {z : Int} {n : Nat} (h1 : 0 ≤ z) (h2 : z < n) (hn : n < 2147483648) : vp_in (iI z) n := by
  rw [vp_in_iff, iI_toInt (by omega) (by omega)]
  omega
theorem iI_div {a b : Int} (ha : 0 ≤ a ∧ a < 2147483648) (hb : 0 < b ∧ b < 2147483648) : iI a / iI b = iI (a / b) := by
  obtain ⟨m, rfl⟩ := Int.eq_ofNat_of_zero_le ha.1
  obtain ⟨n, rfl⟩ := Int.eq_ofNat_of_zero_le (by omega : 0 ≤ b)
  rw [iI_nat, iI_nat, pk_div (by omega) (by omega) (by omega), ← iI_nat]
  rfl
theorem iI_rem {a b : Int} (ha : 0 ≤ a ∧ a < 2147483648) (hb : 0 < b ∧ b < 2147483648) : iI a - iI a / iI b * iI b = iI (a % b) := by
  rw [iI_div ha hb, iI_mul, iI_sub]
  congr 1
  have := Int.emod_add_mul_ediv a b
  rw [Int.mul_comm] at this
  omega
theorem iI_s31 : ∀ s, s < 32 → (((nI s) &&& 31).toBitVec.smod 32).toNat = s := by decide +kernel
theorem iI_u31 : ∀ s, s < 32 → (((nI s).toUInt32 &&& Int32.toUInt32 31).toBitVec % 32).toNat = s := by decide +kernel
theorem iI_shr {m s : Nat} (hm : m < 2147483648) (hs : s < 32) : iI (m : Int) >>> (iI (s : Int) &&& 31) = iI ((m >>> s : Nat) : Int) := by
  rw [iI_nat, iI_nat, pk_shrN (by omega) _ s (iI_s31 s hs), ← iI_nat, Nat.shiftRight_eq_div_pow]
theorem iI_ushr {m s : Nat} (hm : m < 2147483648) (hs : s < 32) : ((iI (m : Int)).toUInt32 >>> ((iI (s : Int)).toUInt32 &&& Int32.toUInt32 31)).toInt32 = iI ((m >>> s : Nat) : Int) := by
  rw [iI_nat, iI_nat, pk_ushrN (by omega) _ s (iI_u31 s hs), ← iI_nat, Nat.shiftRight_eq_div_pow]
theorem iI_shl {m s : Nat} (h : m <<< s < 4294967296) (hs : s < 32) : iI (m : Int) <<< (iI (s : Int) &&& 31) = iI ((m <<< s : Nat) : Int) := by
  rw [Nat.shiftLeft_eq] at h
  rw [iI_nat, iI_nat, pk_shlN _ s (iI_s31 s hs) (by omega), ← iI_nat, Nat.shiftLeft_eq]
theorem iI_and (m n : Nat) : iI (m : Int) &&& iI (n : Int) = iI ((m &&& n : Nat) : Int) := by
  rw [iI_nat, iI_nat, iI_nat]
  apply Int32.toBitVec_inj.1
  show BitVec.ofNat 32 m &&& BitVec.ofNat 32 n = BitVec.ofNat 32 (m &&& n)
  apply BitVec.eq_of_getLsbD_eq
  intro i hi
  simp [hi]
theorem iI_or (m n : Nat) : iI (m : Int) ||| iI (n : Int) = iI ((m ||| n : Nat) : Int) := by
  rw [iI_nat, iI_nat, iI_nat]
  apply Int32.toBitVec_inj.1
  show BitVec.ofNat 32 m ||| BitVec.ofNat 32 n = BitVec.ofNat 32 (m ||| n)
  apply BitVec.eq_of_getLsbD_eq
  intro i hi
  simp [hi]
theorem lL_toInt {z : Int} (h1 : -9223372036854775808 ≤ z) (h2 : z < 9223372036854775808) : (lL z).toInt = z := by
  rw [lL, Int64.toInt_ofInt]
  show z.bmod 18446744073709551616 = z
  rw [Int.bmod_eq_of_le (by omega) (by omega)]
theorem lL_add (a b : Int) : lL a + lL b = lL (a + b) := (Int64.ofInt_add a b).symm
theorem lL_sub (a b : Int) : lL a - lL b = lL (a - b) := (Int64.ofInt_sub a b).symm
theorem lL_mul (a b : Int) : lL a * lL b = lL (a * b) := (Int64.ofInt_mul a b).symm
theorem iI_i2l {a : Int} (ha : -2147483648 ≤ a ∧ a < 2147483648) : (iI a).toInt64 = lL a := by
  apply Int64.toInt_inj.1
  rw [Int32.toInt_toInt64, iI_toInt ha.1 ha.2, lL_toInt (by omega) (by omega)]
theorem lL_nat (n : Nat) : lL (n : Int) = lN n := by
  unfold lL lN
  apply Int64.toBitVec_inj.1
  simp
/-! the words -/
def lw_gd : List Cond := lw_tbl.filter goodWord
theorem gd_mem {w : Cond} (h : w ∈ lw_tbl) (g : goodWord w = true) : w ∈ lw_gd := List.mem_filter.mpr ⟨h, g⟩
theorem gd_in {w : Cond} (h : w ∈ lw_gd) : w ∈ lw_tbl := (List.mem_filter.mp h).1
theorem gd_good {w : Cond} (h : w ∈ lw_gd) : goodWord w = true := (List.mem_filter.mp h).2
theorem tb_0 {w : Cond} (i : Nat) (h : (k2_sels lw_privs)[i]? = some w) : w ∈ lw_tbl := List.mem_append_left _ (List.mem_of_getElem? h)
theorem tb_t {w : Cond} (h : w ∈ tables_1) : w ∈ lw_tbl := List.mem_append_right _ h
theorem tb_1 {w : Cond} (i : Nat) (h : tables_1_1[i]? = some w) : w ∈ lw_tbl := tb_t (List.mem_append_left _ (List.mem_of_getElem? h))
theorem tb_2 {w : Cond} (i : Nat) (h : tables_1_2[i]? = some w) : w ∈ lw_tbl := tb_t (List.mem_append_right _ (List.mem_append_left _ (List.mem_of_getElem? h)))
theorem tb_3 {w : Cond} (i : Nat) (h : tables_1_3[i]? = some w) : w ∈ lw_tbl := tb_t (List.mem_append_right _ (List.mem_append_right _ (List.mem_append_left _ (List.mem_of_getElem? h))))
theorem tb_4 {w : Cond} (i : Nat) (h : tables_1_4[i]? = some w) : w ∈ lw_tbl := tb_t (List.mem_append_right _ (List.mem_append_right _ (List.mem_append_right _ (List.mem_append_left _ (List.mem_of_getElem? h)))))
theorem tb_5 {w : Cond} (i : Nat) (h : tables_1_5[i]? = some w) : w ∈ lw_tbl := tb_t (List.mem_append_right _ (List.mem_append_right _ (List.mem_append_right _ (List.mem_append_right _ (List.mem_append_left _ (List.mem_of_getElem? h))))))
theorem tb_6 {w : Cond} (i : Nat) (h : tables_1_6[i]? = some w) : w ∈ lw_tbl := tb_t (List.mem_append_right _ (List.mem_append_right _ (List.mem_append_right _ (List.mem_append_right _ (List.mem_append_right _ (List.mem_of_getElem? h))))))
/-- a method, said once: class, code, locals, what it returns, the room below it, its table, whether a constructor -/
abbrev MeT : Type := String × ByteArray × Nat × Option FieldType × Nat × Nat × List (Nat × Nat × Nat × Nat) × Bool
def YKx (y : MethodName) (me : MeT) (np : Nat) : Prop := Cond.code y me.2.1 me.2.2.1 me.2.2.2.1 ∈ lw_gd ∧ Cond.initialized y.cls ∈ lw_gd ∧ (y.cls ≠ "java/lang/invoke/MethodHandle" ∧ y.cls ≠ "java/lang/invoke/VarHandle" ∧ (parseMethodDescriptor y.desc).map (fun d => d.parameters.length) = some np) ∧ plainName y.cls = true ∧ me.1 = y.cls ∧ me.2.2.2.2.2.2.1 = [] 
def YKs (y : MethodName) (me : MeT) (np : Nat) : Prop := YKx y me np ∧ Cond.static y ∈ lw_gd
def YKi (y : MethodName) (me : MeT) (np : Nat) : Prop := YKx y me np ∧ Cond.instanceMethod y ∈ lw_gd
def YKv (y : MethodName) (me : MeT) (np : Nat) : Prop := YKi y me np ∧ Cond.selects y.cls y y ∈ lw_gd
def YKh (y : MethodName) (me : MeT) (np : Nat) : Prop := Cond.codeWith y me.2.1 me.2.2.1 me.2.2.2.1 me.2.2.2.2.2.2.1 ∈ lw_gd ∧ Cond.initialized y.cls ∈ lw_gd ∧ (y.cls ≠ "java/lang/invoke/MethodHandle" ∧ y.cls ≠ "java/lang/invoke/VarHandle" ∧ (parseMethodDescriptor y.desc).map (fun d => d.parameters.length) = some np) ∧ plainName y.cls = true ∧ me.1 = y.cls ∧ Cond.static y ∈ lw_gd
/-- a field's entry in a class's pool: the class of the object by its number, the field by its place -/
def FL (own : String) (idx ci k : Nat) : Prop := ∃ (C : String) (T : u_T) (n : Nat), vwCl[ci]? = some (C, T, n) ∧ k < n ∧ Cond.fieldLink own idx (T k).1 (T k).2.1 (T k).2.2.1 ∈ lw_gd
end
section
def mJ6_bitCount_0f7a4 : MeT := (RJ6, cJ6_bitCount_0f7a4, 1, (some .int), 0, 0, [], false)
theorem kJ6_bitCount_0f7a4 : YKs yJ6_bitCount_0f7a4 mJ6_bitCount_0f7a4 1 := ⟨⟨gd_mem (tb_2 66 (by decide +kernel)) (by decide +kernel), gd_mem (tb_1 14 (by decide +kernel)) (by decide +kernel), ⟨by decide +kernel, by decide +kernel, by decide +kernel⟩, by decide +kernel, rfl, rfl⟩, gd_mem (tb_2 65 (by decide +kernel)) (by decide +kernel)⟩
def mL_add : MeT := (RL, cL_add, 5, (some .int), 8, 134, [(0, 10, 13, 13), (0, 10, 17, 20)], false)
theorem kL_add : YKh yL_add mL_add 4 := ⟨gd_mem (tb_3 57 (by decide +kernel)) (by decide +kernel), gd_mem (tb_1 0 (by decide +kernel)) (by decide +kernel), ⟨by decide +kernel, by decide +kernel, by decide +kernel⟩, by decide +kernel, rfl, gd_mem (tb_3 56 (by decide +kernel)) (by decide +kernel)⟩
def mL_append : MeT := (RL, cL_append, 4, (some .int), 7, 111, [(0, 9, 12, 15), (0, 9, 15, 20)], false)
theorem kL_append : YKh yL_append mL_append 3 := ⟨gd_mem (tb_3 166 (by decide +kernel)) (by decide +kernel), gd_mem (tb_1 0 (by decide +kernel)) (by decide +kernel), ⟨by decide +kernel, by decide +kernel, by decide +kernel⟩, by decide +kernel, rfl, gd_mem (tb_3 165 (by decide +kernel)) (by decide +kernel)⟩
def mL_carries : MeT := (RL, cL_carries, 5, (some .int), 8, 132, [(0, 10, 13, 13)], false)
theorem kL_carries : YKh yL_carries mL_carries 4 := ⟨gd_mem (tb_4 98 (by decide +kernel)) (by decide +kernel), gd_mem (tb_1 0 (by decide +kernel)) (by decide +kernel), ⟨by decide +kernel, by decide +kernel, by decide +kernel⟩, by decide +kernel, rfl, gd_mem (tb_4 97 (by decide +kernel)) (by decide +kernel)⟩
def mL_codeLength : MeT := (RL, cL_codeLength, 4, (some .int), 8, 131, [(0, 9, 12, 15)], false)
theorem kL_codeLength : YKh yL_codeLength mL_codeLength 3 := ⟨gd_mem (tb_4 127 (by decide +kernel)) (by decide +kernel), gd_mem (tb_1 0 (by decide +kernel)) (by decide +kernel), ⟨by decide +kernel, by decide +kernel, by decide +kernel⟩, by decide +kernel, rfl, gd_mem (tb_4 126 (by decide +kernel)) (by decide +kernel)⟩
def mL_cut : MeT := (RL, cL_cut, 4, (some .int), 7, 111, [(0, 9, 12, 15), (0, 9, 15, 20)], false)
theorem kL_cut : YKh yL_cut mL_cut 3 := ⟨gd_mem (tb_3 153 (by decide +kernel)) (by decide +kernel), gd_mem (tb_1 0 (by decide +kernel)) (by decide +kernel), ⟨by decide +kernel, by decide +kernel, by decide +kernel⟩, by decide +kernel, rfl, gd_mem (tb_3 152 (by decide +kernel)) (by decide +kernel)⟩
def mL_digitAt : MeT := (RL, cL_digitAt, 4, (some .int), 8, 132, [(0, 9, 12, 13)], false)
theorem kL_digitAt : YKh yL_digitAt mL_digitAt 3 := ⟨gd_mem (tb_4 105 (by decide +kernel)) (by decide +kernel), gd_mem (tb_1 0 (by decide +kernel)) (by decide +kernel), ⟨by decide +kernel, by decide +kernel, by decide +kernel⟩, by decide +kernel, rfl, gd_mem (tb_4 104 (by decide +kernel)) (by decide +kernel)⟩
def mL_fullSet : MeT := (RL, cL_fullSet, 4, (some .int), 8, 131, [(0, 9, 12, 15)], false)
theorem kL_fullSet : YKh yL_fullSet mL_fullSet 3 := ⟨gd_mem (tb_4 37 (by decide +kernel)) (by decide +kernel), gd_mem (tb_1 0 (by decide +kernel)) (by decide +kernel), ⟨by decide +kernel, by decide +kernel, by decide +kernel⟩, by decide +kernel, rfl, gd_mem (tb_4 36 (by decide +kernel)) (by decide +kernel)⟩
def mL_law : MeT := (RL, code, 9, ret, 11, 390, [], false)
def mL_numberOf : MeT := (RL, cL_numberOf, 4, (some .int), 8, 131, [(0, 9, 12, 13)], false)
theorem kL_numberOf : YKh yL_numberOf mL_numberOf 3 := ⟨gd_mem (tb_4 77 (by decide +kernel)) (by decide +kernel), gd_mem (tb_1 0 (by decide +kernel)) (by decide +kernel), ⟨by decide +kernel, by decide +kernel, by decide +kernel⟩, by decide +kernel, rfl, gd_mem (tb_4 76 (by decide +kernel)) (by decide +kernel)⟩
def mL_pay : MeT := (RL, cL_pay, 6, (some .int), 8, 135, [(0, 12, 15, 13), (0, 12, 19, 15), (0, 12, 23, 20)], false)
theorem kL_pay : YKh yL_pay mL_pay 5 := ⟨gd_mem (tb_3 104 (by decide +kernel)) (by decide +kernel), gd_mem (tb_1 0 (by decide +kernel)) (by decide +kernel), ⟨by decide +kernel, by decide +kernel, by decide +kernel⟩, by decide +kernel, rfl, gd_mem (tb_3 103 (by decide +kernel)) (by decide +kernel)⟩
def mL_raise : MeT := (RL, cL_raise, 4, (some .int), 8, 132, [(0, 9, 12, 13), (0, 9, 15, 20)], false)
theorem kL_raise : YKh yL_raise mL_raise 3 := ⟨gd_mem (tb_3 89 (by decide +kernel)) (by decide +kernel), gd_mem (tb_1 0 (by decide +kernel)) (by decide +kernel), ⟨by decide +kernel, by decide +kernel, by decide +kernel⟩, by decide +kernel, rfl, gd_mem (tb_3 88 (by decide +kernel)) (by decide +kernel)⟩
def mL_readAt : MeT := (RL, cL_readAt, 4, (some .int), 7, 114, [(0, 9, 12, 13)], false)
theorem kL_readAt : YKh yL_readAt mL_readAt 3 := ⟨gd_mem (tb_4 112 (by decide +kernel)) (by decide +kernel), gd_mem (tb_1 0 (by decide +kernel)) (by decide +kernel), ⟨by decide +kernel, by decide +kernel, by decide +kernel⟩, by decide +kernel, rfl, gd_mem (tb_4 111 (by decide +kernel)) (by decide +kernel)⟩
def mL_readIfTurned : MeT := (RL, cL_readIfTurned, 4, (some .int), 8, 135, [(0, 9, 12, 13)], false)
theorem kL_readIfTurned : YKh yL_readIfTurned mL_readIfTurned 3 := ⟨gd_mem (tb_4 120 (by decide +kernel)) (by decide +kernel), gd_mem (tb_1 0 (by decide +kernel)) (by decide +kernel), ⟨by decide +kernel, by decide +kernel, by decide +kernel⟩, by decide +kernel, rfl, gd_mem (tb_4 119 (by decide +kernel)) (by decide +kernel)⟩
def mL_restore : MeT := (RL, cL_restore, 3, (some .int), 7, 110, [(0, 8, 11, 20)], false)
theorem kL_restore : YKh yL_restore mL_restore 2 := ⟨gd_mem (tb_3 238 (by decide +kernel)) (by decide +kernel), gd_mem (tb_1 0 (by decide +kernel)) (by decide +kernel), ⟨by decide +kernel, by decide +kernel, by decide +kernel⟩, by decide +kernel, rfl, gd_mem (tb_3 237 (by decide +kernel)) (by decide +kernel)⟩
def mL_say : MeT := (RL, cL_say, 4, (some .int), 8, 131, [(0, 9, 12, 15)], false)
theorem kL_say : YKh yL_say mL_say 3 := ⟨gd_mem (tb_4 23 (by decide +kernel)) (by decide +kernel), gd_mem (tb_1 0 (by decide +kernel)) (by decide +kernel), ⟨by decide +kernel, by decide +kernel, by decide +kernel⟩, by decide +kernel, rfl, gd_mem (tb_4 22 (by decide +kernel)) (by decide +kernel)⟩
def mL_sayByCounting : MeT := (RL, cL_sayByCounting, 4, (some .int), 8, 131, [(0, 9, 12, 15)], false)
theorem kL_sayByCounting : YKh yL_sayByCounting mL_sayByCounting 3 := ⟨gd_mem (tb_4 30 (by decide +kernel)) (by decide +kernel), gd_mem (tb_1 0 (by decide +kernel)) (by decide +kernel), ⟨by decide +kernel, by decide +kernel, by decide +kernel⟩, by decide +kernel, rfl, gd_mem (tb_4 29 (by decide +kernel)) (by decide +kernel)⟩
def mL_send : MeT := (RL, cL_send, 4, (some .int), 8, 131, [(0, 9, 12, 15), (0, 9, 15, 20)], false)
theorem kL_send : YKh yL_send mL_send 3 := ⟨gd_mem (tb_3 117 (by decide +kernel)) (by decide +kernel), gd_mem (tb_1 0 (by decide +kernel)) (by decide +kernel), ⟨by decide +kernel, by decide +kernel, by decide +kernel⟩, by decide +kernel, rfl, gd_mem (tb_3 116 (by decide +kernel)) (by decide +kernel)⟩
def mL_set : MeT := (RL, cL_set, 5, (some .int), 8, 133, [(0, 10, 13, 13), (0, 10, 17, 15)], false)
theorem kL_set : YKh yL_set mL_set 4 := ⟨gd_mem (tb_2 189 (by decide +kernel)) (by decide +kernel), gd_mem (tb_1 0 (by decide +kernel)) (by decide +kernel), ⟨by decide +kernel, by decide +kernel, by decide +kernel⟩, by decide +kernel, rfl, gd_mem (tb_2 188 (by decide +kernel)) (by decide +kernel)⟩
def mL_spokenAt : MeT := (RL, cL_spokenAt, 6, (some .int), 8, 134, [(0, 12, 15, 13), (0, 12, 19, 15)], false)
theorem kL_spokenAt : YKh yL_spokenAt mL_spokenAt 5 := ⟨gd_mem (tb_4 69 (by decide +kernel)) (by decide +kernel), gd_mem (tb_1 0 (by decide +kernel)) (by decide +kernel), ⟨by decide +kernel, by decide +kernel, by decide +kernel⟩, by decide +kernel, rfl, gd_mem (tb_4 68 (by decide +kernel)) (by decide +kernel)⟩
def mL_spokenLength : MeT := (RL, cL_spokenLength, 5, (some .int), 8, 132, [(0, 10, 13, 13), (0, 10, 17, 15)], false)
theorem kL_spokenLength : YKh yL_spokenLength mL_spokenLength 4 := ⟨gd_mem (tb_4 58 (by decide +kernel)) (by decide +kernel), gd_mem (tb_1 0 (by decide +kernel)) (by decide +kernel), ⟨by decide +kernel, by decide +kernel, by decide +kernel⟩, by decide +kernel, rfl, gd_mem (tb_4 57 (by decide +kernel)) (by decide +kernel)⟩
def mL_stepsOf : MeT := (RL, cL_stepsOf, 4, (some .int), 8, 131, [(0, 9, 12, 13)], false)
theorem kL_stepsOf : YKh yL_stepsOf mL_stepsOf 3 := ⟨gd_mem (tb_4 84 (by decide +kernel)) (by decide +kernel), gd_mem (tb_1 0 (by decide +kernel)) (by decide +kernel), ⟨by decide +kernel, by decide +kernel, by decide +kernel⟩, by decide +kernel, rfl, gd_mem (tb_4 83 (by decide +kernel)) (by decide +kernel)⟩
def mL_stoppedPart : MeT := (RL, cL_stoppedPart, 3, (some .int), 8, 130, [(0, 8, 11, 20)], false)
theorem kL_stoppedPart : YKh yL_stoppedPart mL_stoppedPart 2 := ⟨gd_mem (tb_3 211 (by decide +kernel)) (by decide +kernel), gd_mem (tb_1 0 (by decide +kernel)) (by decide +kernel), ⟨by decide +kernel, by decide +kernel, by decide +kernel⟩, by decide +kernel, rfl, gd_mem (tb_3 210 (by decide +kernel)) (by decide +kernel)⟩
def mL_sumByCarries : MeT := (RL, cL_sumByCarries, 5, (some .int), 8, 132, [(0, 10, 13, 13)], false)
theorem kL_sumByCarries : YKh yL_sumByCarries mL_sumByCarries 4 := ⟨gd_mem (tb_4 91 (by decide +kernel)) (by decide +kernel), gd_mem (tb_1 0 (by decide +kernel)) (by decide +kernel), ⟨by decide +kernel, by decide +kernel, by decide +kernel⟩, by decide +kernel, rfl, gd_mem (tb_4 90 (by decide +kernel)) (by decide +kernel)⟩
def mL_takeAway : MeT := (RL, cL_takeAway, 5, (some .int), 8, 133, [(0, 10, 13, 13), (0, 10, 17, 20)], false)
theorem kL_takeAway : YKh yL_takeAway mL_takeAway 4 := ⟨gd_mem (tb_3 81 (by decide +kernel)) (by decide +kernel), gd_mem (tb_1 0 (by decide +kernel)) (by decide +kernel), ⟨by decide +kernel, by decide +kernel, by decide +kernel⟩, by decide +kernel, rfl, gd_mem (tb_3 80 (by decide +kernel)) (by decide +kernel)⟩
def mL_turn : MeT := (RL, cL_turn, 4, (some .int), 8, 132, [(0, 9, 12, 13)], false)
theorem kL_turn : YKh yL_turn mL_turn 3 := ⟨gd_mem (tb_3 137 (by decide +kernel)) (by decide +kernel), gd_mem (tb_1 0 (by decide +kernel)) (by decide +kernel), ⟨by decide +kernel, by decide +kernel, by decide +kernel⟩, by decide +kernel, rfl, gd_mem (tb_3 136 (by decide +kernel)) (by decide +kernel)⟩
def mL_undo : MeT := (RL, cL_undo, 3, (some .int), 7, 110, [(0, 8, 11, 20)], false)
theorem kL_undo : YKh yL_undo mL_undo 2 := ⟨gd_mem (tb_3 230 (by decide +kernel)) (by decide +kernel), gd_mem (tb_1 0 (by decide +kernel)) (by decide +kernel), ⟨by decide +kernel, by decide +kernel, by decide +kernel⟩, by decide +kernel, rfl, gd_mem (tb_3 229 (by decide +kernel)) (by decide +kernel)⟩
def mL_ways : MeT := (RL, cL_ways, 4, (some .int), 8, 131, [(0, 9, 12, 15)], false)
theorem kL_ways : YKh yL_ways mL_ways 3 := ⟨gd_mem (tb_4 44 (by decide +kernel)) (by decide +kernel), gd_mem (tb_1 0 (by decide +kernel)) (by decide +kernel), ⟨by decide +kernel, by decide +kernel, by decide +kernel⟩, by decide +kernel, rfl, gd_mem (tb_4 43 (by decide +kernel)) (by decide +kernel)⟩
def mL_waysByGaps : MeT := (RL, cL_waysByGaps, 4, (some .int), 8, 131, [(0, 9, 12, 15)], false)
theorem kL_waysByGaps : YKh yL_waysByGaps mL_waysByGaps 3 := ⟨gd_mem (tb_4 51 (by decide +kernel)) (by decide +kernel), gd_mem (tb_1 0 (by decide +kernel)) (by decide +kernel), ⟨by decide +kernel, by decide +kernel, by decide +kernel⟩, by decide +kernel, rfl, gd_mem (tb_4 50 (by decide +kernel)) (by decide +kernel)⟩
def mL_whyStopped : MeT := (RL, cL_whyStopped, 3, (some .int), 8, 130, [(0, 8, 11, 20)], false)
theorem kL_whyStopped : YKh yL_whyStopped mL_whyStopped 2 := ⟨gd_mem (tb_3 223 (by decide +kernel)) (by decide +kernel), gd_mem (tb_1 0 (by decide +kernel)) (by decide +kernel), ⟨by decide +kernel, by decide +kernel, by decide +kernel⟩, by decide +kernel, rfl, gd_mem (tb_3 222 (by decide +kernel)) (by decide +kernel)⟩
def mL_work : MeT := (RL, cL_work, 3, (some .int), 7, 153, [(0, 8, 11, 15)], false)
theorem kL_work : YKh yL_work mL_work 2 := ⟨gd_mem (tb_3 175 (by decide +kernel)) (by decide +kernel), gd_mem (tb_1 0 (by decide +kernel)) (by decide +kernel), ⟨by decide +kernel, by decide +kernel, by decide +kernel⟩, by decide +kernel, rfl, gd_mem (tb_3 174 (by decide +kernel)) (by decide +kernel)⟩
def mL_worthOf : MeT := (RL, cL_worthOf, 4, (some .int), 7, 111, [(0, 9, 12, 13)], false)
theorem kL_worthOf : YKh yL_worthOf mL_worthOf 3 := ⟨gd_mem (tb_4 6 (by decide +kernel)) (by decide +kernel), gd_mem (tb_1 0 (by decide +kernel)) (by decide +kernel), ⟨by decide +kernel, by decide +kernel, by decide +kernel⟩, by decide +kernel, rfl, gd_mem (tb_4 5 (by decide +kernel)) (by decide +kernel)⟩
def mL_worthOfSet : MeT := (RL, cL_worthOfSet, 4, (some .int), 7, 111, [(0, 9, 12, 15)], false)
theorem kL_worthOfSet : YKh yL_worthOfSet mL_worthOfSet 3 := ⟨gd_mem (tb_4 14 (by decide +kernel)) (by decide +kernel), gd_mem (tb_1 0 (by decide +kernel)) (by decide +kernel), ⟨by decide +kernel, by decide +kernel, by decide +kernel⟩, by decide +kernel, rfl, gd_mem (tb_4 13 (by decide +kernel)) (by decide +kernel)⟩
def mX0_carryAll : MeT := (RX0, cX0_carryAll, 5, (some .int), 3, 63, [], false)
theorem kX0_carryAll : YKv yX0_carryAll mX0_carryAll 2 := ⟨⟨⟨gd_mem (tb_2 131 (by decide +kernel)) (by decide +kernel), gd_mem (tb_1 5 (by decide +kernel)) (by decide +kernel), ⟨by decide +kernel, by decide +kernel, by decide +kernel⟩, by decide +kernel, rfl, rfl⟩, gd_mem (tb_2 129 (by decide +kernel)) (by decide +kernel)⟩, gd_mem (tb_2 130 (by decide +kernel)) (by decide +kernel)⟩
def mX0_carryAt : MeT := (RX0, cX0_carryAt, 2, none, 2, 42, [], false)
theorem kX0_carryAt : YKv yX0_carryAt mX0_carryAt 1 := ⟨⟨⟨gd_mem (tb_2 147 (by decide +kernel)) (by decide +kernel), gd_mem (tb_1 5 (by decide +kernel)) (by decide +kernel), ⟨by decide +kernel, by decide +kernel, by decide +kernel⟩, by decide +kernel, rfl, rfl⟩, gd_mem (tb_2 146 (by decide +kernel)) (by decide +kernel)⟩, gd_mem (tb_0 15 (by decide +kernel)) (by decide +kernel)⟩
def mX0_change : MeT := (RX0, cX0_change, 3, none, 0, 0, [], false)
theorem kX0_change : YKv yX0_change mX0_change 2 := ⟨⟨⟨gd_mem (tb_2 151 (by decide +kernel)) (by decide +kernel), gd_mem (tb_1 5 (by decide +kernel)) (by decide +kernel), ⟨by decide +kernel, by decide +kernel, by decide +kernel⟩, by decide +kernel, rfl, rfl⟩, gd_mem (tb_2 150 (by decide +kernel)) (by decide +kernel)⟩, gd_mem (tb_0 16 (by decide +kernel)) (by decide +kernel)⟩
def mX0_countOf : MeT := (RX0, cX0_countOf, 2, (some .int), 0, 0, [], false)
theorem kX0_countOf : YKv yX0_countOf mX0_countOf 1 := ⟨⟨⟨gd_mem (tb_2 143 (by decide +kernel)) (by decide +kernel), gd_mem (tb_1 5 (by decide +kernel)) (by decide +kernel), ⟨by decide +kernel, by decide +kernel, by decide +kernel⟩, by decide +kernel, rfl, rfl⟩, gd_mem (tb_2 142 (by decide +kernel)) (by decide +kernel)⟩, gd_mem (tb_0 14 (by decide +kernel)) (by decide +kernel)⟩
def mX0_countsWithNext : MeT := (RX0, cX0_countsWithNext, 2, (some .boolean), 1, 21, [], false)
theorem kX0_countsWithNext : YKv yX0_countsWithNext mX0_countsWithNext 1 := ⟨⟨⟨gd_mem (tb_2 139 (by decide +kernel)) (by decide +kernel), gd_mem (tb_1 5 (by decide +kernel)) (by decide +kernel), ⟨by decide +kernel, by decide +kernel, by decide +kernel⟩, by decide +kernel, rfl, rfl⟩, gd_mem (tb_2 138 (by decide +kernel)) (by decide +kernel)⟩, gd_mem (tb_0 13 (by decide +kernel)) (by decide +kernel)⟩
def mX0_firstToCarry : MeT := (RX0, cX0_firstToCarry, 2, (some .int), 2, 42, [], false)
theorem kX0_firstToCarry : YKv yX0_firstToCarry mX0_firstToCarry 0 := ⟨⟨⟨gd_mem (tb_2 135 (by decide +kernel)) (by decide +kernel), gd_mem (tb_1 5 (by decide +kernel)) (by decide +kernel), ⟨by decide +kernel, by decide +kernel, by decide +kernel⟩, by decide +kernel, rfl, rfl⟩, gd_mem (tb_2 134 (by decide +kernel)) (by decide +kernel)⟩, gd_mem (tb_0 12 (by decide +kernel)) (by decide +kernel)⟩
def mX0_init : MeT := (RX0, cX0_init, 1, none, 1, 20, [], true)
theorem kX0_init : YKi yX0_init mX0_init 0 := ⟨⟨gd_mem (tb_1 106 (by decide +kernel)) (by decide +kernel), gd_mem (tb_1 5 (by decide +kernel)) (by decide +kernel), ⟨by decide +kernel, by decide +kernel, by decide +kernel⟩, by decide +kernel, rfl, rfl⟩, gd_mem (tb_1 105 (by decide +kernel)) (by decide +kernel)⟩
def mX0_toMark : MeT := (RX0, cX0_toMark, 3, (some .int), 0, 0, [], false)
theorem kX0_toMark : YKv yX0_toMark mX0_toMark 0 := ⟨⟨⟨gd_mem (tb_2 155 (by decide +kernel)) (by decide +kernel), gd_mem (tb_1 5 (by decide +kernel)) (by decide +kernel), ⟨by decide +kernel, by decide +kernel, by decide +kernel⟩, by decide +kernel, rfl, rfl⟩, gd_mem (tb_2 153 (by decide +kernel)) (by decide +kernel)⟩, gd_mem (tb_2 154 (by decide +kernel)) (by decide +kernel)⟩
def mX1_endNumber : MeT := (RX1, cX1_endNumber, 6, none, 2, 43, [], false)
theorem kX1_endNumber : YKv yX1_endNumber mX1_endNumber 2 := ⟨⟨⟨gd_mem (tb_2 37 (by decide +kernel)) (by decide +kernel), gd_mem (tb_1 4 (by decide +kernel)) (by decide +kernel), ⟨by decide +kernel, by decide +kernel, by decide +kernel⟩, by decide +kernel, rfl, rfl⟩, gd_mem (tb_2 36 (by decide +kernel)) (by decide +kernel)⟩, gd_mem (tb_0 8 (by decide +kernel)) (by decide +kernel)⟩
def mX1_init : MeT := (RX1, cX1_init, 1, none, 1, 20, [], true)
theorem kX1_init : YKi yX1_init mX1_init 0 := ⟨⟨gd_mem (tb_1 84 (by decide +kernel)) (by decide +kernel), gd_mem (tb_1 4 (by decide +kernel)) (by decide +kernel), ⟨by decide +kernel, by decide +kernel, by decide +kernel⟩, by decide +kernel, rfl, rfl⟩, gd_mem (tb_1 83 (by decide +kernel)) (by decide +kernel)⟩
def mX1_numberAt : MeT := (RX1, cX1_numberAt, 2, (some .int), 0, 0, [], false)
theorem kX1_numberAt : YKv yX1_numberAt mX1_numberAt 1 := ⟨⟨⟨gd_mem (tb_2 167 (by decide +kernel)) (by decide +kernel), gd_mem (tb_1 4 (by decide +kernel)) (by decide +kernel), ⟨by decide +kernel, by decide +kernel, by decide +kernel⟩, by decide +kernel, rfl, rfl⟩, gd_mem (tb_2 165 (by decide +kernel)) (by decide +kernel)⟩, gd_mem (tb_2 166 (by decide +kernel)) (by decide +kernel)⟩
def mX1_readAll : MeT := (RX1, cX1_readAll, 6, none, 3, 68, [], false)
theorem kX1_readAll : YKv yX1_readAll mX1_readAll 2 := ⟨⟨⟨gd_mem (tb_2 30 (by decide +kernel)) (by decide +kernel), gd_mem (tb_1 4 (by decide +kernel)) (by decide +kernel), ⟨by decide +kernel, by decide +kernel, by decide +kernel⟩, by decide +kernel, rfl, rfl⟩, gd_mem (tb_2 28 (by decide +kernel)) (by decide +kernel)⟩, gd_mem (tb_2 29 (by decide +kernel)) (by decide +kernel)⟩
def mX2_copyOf : MeT := (RX2, cX2_copyOf, 3, none, 1, 22, [], false)
theorem kX2_copyOf : YKv yX2_copyOf mX2_copyOf 1 := ⟨⟨⟨gd_mem (tb_1 233 (by decide +kernel)) (by decide +kernel), gd_mem (tb_1 2 (by decide +kernel)) (by decide +kernel), ⟨by decide +kernel, by decide +kernel, by decide +kernel⟩, by decide +kernel, rfl, rfl⟩, gd_mem (tb_1 231 (by decide +kernel)) (by decide +kernel)⟩, gd_mem (tb_1 232 (by decide +kernel)) (by decide +kernel)⟩
def mX2_dropFirst : MeT := (RX2, cX2_dropFirst, 2, none, 0, 0, [], false)
theorem kX2_dropFirst : YKv yX2_dropFirst mX2_dropFirst 1 := ⟨⟨⟨gd_mem (tb_3 163 (by decide +kernel)) (by decide +kernel), gd_mem (tb_1 2 (by decide +kernel)) (by decide +kernel), ⟨by decide +kernel, by decide +kernel, by decide +kernel⟩, by decide +kernel, rfl, rfl⟩, gd_mem (tb_3 161 (by decide +kernel)) (by decide +kernel)⟩, gd_mem (tb_3 162 (by decide +kernel)) (by decide +kernel)⟩
def mX2_give : MeT := (RX2, cX2_give, 3, none, 0, 0, [], false)
theorem kX2_give : YKv yX2_give mX2_give 2 := ⟨⟨⟨gd_mem (tb_2 1 (by decide +kernel)) (by decide +kernel), gd_mem (tb_1 2 (by decide +kernel)) (by decide +kernel), ⟨by decide +kernel, by decide +kernel, by decide +kernel⟩, by decide +kernel, rfl, rfl⟩, gd_mem (tb_1 239 (by decide +kernel)) (by decide +kernel)⟩, gd_mem (tb_2 0 (by decide +kernel)) (by decide +kernel)⟩
def mX2_hasRoomFor : MeT := (RX2, cX2_hasRoomFor, 2, (some .boolean), 2, 43, [], false)
theorem kX2_hasRoomFor : YKv yX2_hasRoomFor mX2_hasRoomFor 1 := ⟨⟨⟨gd_mem (tb_3 125 (by decide +kernel)) (by decide +kernel), gd_mem (tb_1 2 (by decide +kernel)) (by decide +kernel), ⟨by decide +kernel, by decide +kernel, by decide +kernel⟩, by decide +kernel, rfl, rfl⟩, gd_mem (tb_3 123 (by decide +kernel)) (by decide +kernel)⟩, gd_mem (tb_3 124 (by decide +kernel)) (by decide +kernel)⟩
def mX2_init : MeT := (RX2, cX2_init, 1, none, 1, 20, [], true)
theorem kX2_init : YKi yX2_init mX2_init 0 := ⟨⟨gd_mem (tb_1 27 (by decide +kernel)) (by decide +kernel), gd_mem (tb_1 2 (by decide +kernel)) (by decide +kernel), ⟨by decide +kernel, by decide +kernel, by decide +kernel⟩, by decide +kernel, rfl, rfl⟩, gd_mem (tb_1 26 (by decide +kernel)) (by decide +kernel)⟩
def mX2_numberIn : MeT := (RX2, cX2_numberIn, 2, (some .int), 0, 0, [], false)
theorem kX2_numberIn : YKv yX2_numberIn mX2_numberIn 1 := ⟨⟨⟨gd_mem (tb_1 237 (by decide +kernel)) (by decide +kernel), gd_mem (tb_1 2 (by decide +kernel)) (by decide +kernel), ⟨by decide +kernel, by decide +kernel, by decide +kernel⟩, by decide +kernel, rfl, rfl⟩, gd_mem (tb_1 235 (by decide +kernel)) (by decide +kernel)⟩, gd_mem (tb_1 236 (by decide +kernel)) (by decide +kernel)⟩
def mX2_putCode : MeT := (RX2, cX2_putCode, 4, none, 2, 43, [], false)
theorem kX2_putCode : YKv yX2_putCode mX2_putCode 1 := ⟨⟨⟨gd_mem (tb_3 134 (by decide +kernel)) (by decide +kernel), gd_mem (tb_1 2 (by decide +kernel)) (by decide +kernel), ⟨by decide +kernel, by decide +kernel, by decide +kernel⟩, by decide +kernel, rfl, rfl⟩, gd_mem (tb_3 132 (by decide +kernel)) (by decide +kernel)⟩, gd_mem (tb_3 133 (by decide +kernel)) (by decide +kernel)⟩
def mX2_sum : MeT := (RX2, cX2_sum, 3, (some .int), 1, 21, [], false)
theorem kX2_sum : YKv yX2_sum mX2_sum 0 := ⟨⟨⟨gd_mem (tb_2 5 (by decide +kernel)) (by decide +kernel), gd_mem (tb_1 2 (by decide +kernel)) (by decide +kernel), ⟨by decide +kernel, by decide +kernel, by decide +kernel⟩, by decide +kernel, rfl, rfl⟩, gd_mem (tb_2 3 (by decide +kernel)) (by decide +kernel)⟩, gd_mem (tb_2 4 (by decide +kernel)) (by decide +kernel)⟩
def mX2_turnDigit : MeT := (RX2, cX2_turnDigit, 2, none, 0, 0, [], false)
theorem kX2_turnDigit : YKv yX2_turnDigit mX2_turnDigit 1 := ⟨⟨⟨gd_mem (tb_3 150 (by decide +kernel)) (by decide +kernel), gd_mem (tb_1 2 (by decide +kernel)) (by decide +kernel), ⟨by decide +kernel, by decide +kernel, by decide +kernel⟩, by decide +kernel, rfl, rfl⟩, gd_mem (tb_3 148 (by decide +kernel)) (by decide +kernel)⟩, gd_mem (tb_3 149 (by decide +kernel)) (by decide +kernel)⟩
def mX3_expectNumber : MeT := (RX3, cX3_expectNumber, 4, (some .boolean), 0, 0, [], false)
theorem kX3_expectNumber : YKv yX3_expectNumber mX3_expectNumber 3 := ⟨⟨⟨gd_mem (tb_1 192 (by decide +kernel)) (by decide +kernel), gd_mem (tb_1 3 (by decide +kernel)) (by decide +kernel), ⟨by decide +kernel, by decide +kernel, by decide +kernel⟩, by decide +kernel, rfl, rfl⟩, gd_mem (tb_1 191 (by decide +kernel)) (by decide +kernel)⟩, gd_mem (tb_0 2 (by decide +kernel)) (by decide +kernel)⟩
def mX3_init : MeT := (RX3, cX3_init, 1, none, 1, 20, [], true)
theorem kX3_init : YKi yX3_init mX3_init 0 := ⟨⟨gd_mem (tb_1 55 (by decide +kernel)) (by decide +kernel), gd_mem (tb_1 3 (by decide +kernel)) (by decide +kernel), ⟨by decide +kernel, by decide +kernel, by decide +kernel⟩, by decide +kernel, rfl, rfl⟩, gd_mem (tb_1 54 (by decide +kernel)) (by decide +kernel)⟩
def mX3_isComplete : MeT := (RX3, cX3_isComplete, 1, (some .boolean), 0, 0, [], false)
theorem kX3_isComplete : YKv yX3_isComplete mX3_isComplete 0 := ⟨⟨⟨gd_mem (tb_3 183 (by decide +kernel)) (by decide +kernel), gd_mem (tb_1 3 (by decide +kernel)) (by decide +kernel), ⟨by decide +kernel, by decide +kernel, by decide +kernel⟩, by decide +kernel, rfl, rfl⟩, gd_mem (tb_3 181 (by decide +kernel)) (by decide +kernel)⟩, gd_mem (tb_3 182 (by decide +kernel)) (by decide +kernel)⟩
def mX3_isDigit : MeT := (RX3, cX3_isDigit, 1, (some .boolean), 0, 0, [], false)
theorem kX3_isDigit : YKs yX3_isDigit mX3_isDigit 1 := ⟨⟨gd_mem (tb_1 210 (by decide +kernel)) (by decide +kernel), gd_mem (tb_1 3 (by decide +kernel)) (by decide +kernel), ⟨by decide +kernel, by decide +kernel, by decide +kernel⟩, by decide +kernel, rfl, rfl⟩, gd_mem (tb_1 209 (by decide +kernel)) (by decide +kernel)⟩
def mX3_isStall : MeT := (RX3, cX3_isStall, 1, (some .boolean), 0, 0, [], false)
theorem kX3_isStall : YKs yX3_isStall mX3_isStall 1 := ⟨⟨gd_mem (tb_1 195 (by decide +kernel)) (by decide +kernel), gd_mem (tb_1 3 (by decide +kernel)) (by decide +kernel), ⟨by decide +kernel, by decide +kernel, by decide +kernel⟩, by decide +kernel, rfl, rfl⟩, gd_mem (tb_1 194 (by decide +kernel)) (by decide +kernel)⟩
def mX3_start : MeT := (RX3, cX3_start, 1, none, 0, 0, [], false)
theorem kX3_start : YKv yX3_start mX3_start 0 := ⟨⟨⟨gd_mem (tb_1 180 (by decide +kernel)) (by decide +kernel), gd_mem (tb_1 3 (by decide +kernel)) (by decide +kernel), ⟨by decide +kernel, by decide +kernel, by decide +kernel⟩, by decide +kernel, rfl, rfl⟩, gd_mem (tb_1 178 (by decide +kernel)) (by decide +kernel)⟩, gd_mem (tb_1 179 (by decide +kernel)) (by decide +kernel)⟩
def mX3_take : MeT := (RX3, cX3_take, 2, (some .boolean), 2, 44, [], false)
theorem kX3_take : YKv yX3_take mX3_take 1 := ⟨⟨⟨gd_mem (tb_1 184 (by decide +kernel)) (by decide +kernel), gd_mem (tb_1 3 (by decide +kernel)) (by decide +kernel), ⟨by decide +kernel, by decide +kernel, by decide +kernel⟩, by decide +kernel, rfl, rfl⟩, gd_mem (tb_1 182 (by decide +kernel)) (by decide +kernel)⟩, gd_mem (tb_1 183 (by decide +kernel)) (by decide +kernel)⟩
def mX3_takeBegin : MeT := (RX3, cX3_takeBegin, 2, (some .boolean), 1, 23, [], false)
theorem kX3_takeBegin : YKv yX3_takeBegin mX3_takeBegin 1 := ⟨⟨⟨gd_mem (tb_1 188 (by decide +kernel)) (by decide +kernel), gd_mem (tb_1 3 (by decide +kernel)) (by decide +kernel), ⟨by decide +kernel, by decide +kernel, by decide +kernel⟩, by decide +kernel, rfl, rfl⟩, gd_mem (tb_1 187 (by decide +kernel)) (by decide +kernel)⟩, gd_mem (tb_0 1 (by decide +kernel)) (by decide +kernel)⟩
def mX3_takeDigit : MeT := (RX3, cX3_takeDigit, 2, (some .boolean), 1, 20, [], false)
theorem kX3_takeDigit : YKv yX3_takeDigit mX3_takeDigit 1 := ⟨⟨⟨gd_mem (tb_1 214 (by decide +kernel)) (by decide +kernel), gd_mem (tb_1 3 (by decide +kernel)) (by decide +kernel), ⟨by decide +kernel, by decide +kernel, by decide +kernel⟩, by decide +kernel, rfl, rfl⟩, gd_mem (tb_1 213 (by decide +kernel)) (by decide +kernel)⟩, gd_mem (tb_0 6 (by decide +kernel)) (by decide +kernel)⟩
def mX3_takeFirstDigit : MeT := (RX3, cX3_takeFirstDigit, 2, (some .boolean), 1, 20, [], false)
theorem kX3_takeFirstDigit : YKv yX3_takeFirstDigit mX3_takeFirstDigit 1 := ⟨⟨⟨gd_mem (tb_1 207 (by decide +kernel)) (by decide +kernel), gd_mem (tb_1 3 (by decide +kernel)) (by decide +kernel), ⟨by decide +kernel, by decide +kernel, by decide +kernel⟩, by decide +kernel, rfl, rfl⟩, gd_mem (tb_1 206 (by decide +kernel)) (by decide +kernel)⟩, gd_mem (tb_0 5 (by decide +kernel)) (by decide +kernel)⟩
def mX3_takeOperation : MeT := (RX3, cX3_takeOperation, 2, (some .boolean), 1, 23, [], false)
theorem kX3_takeOperation : YKv yX3_takeOperation mX3_takeOperation 1 := ⟨⟨⟨gd_mem (tb_1 199 (by decide +kernel)) (by decide +kernel), gd_mem (tb_1 3 (by decide +kernel)) (by decide +kernel), ⟨by decide +kernel, by decide +kernel, by decide +kernel⟩, by decide +kernel, rfl, rfl⟩, gd_mem (tb_1 198 (by decide +kernel)) (by decide +kernel)⟩, gd_mem (tb_0 3 (by decide +kernel)) (by decide +kernel)⟩
def mX3_takeOtherStall : MeT := (RX3, cX3_takeOtherStall, 2, (some .boolean), 1, 20, [], false)
theorem kX3_takeOtherStall : YKv yX3_takeOtherStall mX3_takeOtherStall 1 := ⟨⟨⟨gd_mem (tb_1 203 (by decide +kernel)) (by decide +kernel), gd_mem (tb_1 3 (by decide +kernel)) (by decide +kernel), ⟨by decide +kernel, by decide +kernel, by decide +kernel⟩, by decide +kernel, rfl, rfl⟩, gd_mem (tb_1 202 (by decide +kernel)) (by decide +kernel)⟩, gd_mem (tb_0 4 (by decide +kernel)) (by decide +kernel)⟩
def mX3_takeSeparator : MeT := (RX3, cX3_takeSeparator, 2, (some .boolean), 0, 0, [], false)
theorem kX3_takeSeparator : YKv yX3_takeSeparator mX3_takeSeparator 1 := ⟨⟨⟨gd_mem (tb_1 218 (by decide +kernel)) (by decide +kernel), gd_mem (tb_1 3 (by decide +kernel)) (by decide +kernel), ⟨by decide +kernel, by decide +kernel, by decide +kernel⟩, by decide +kernel, rfl, rfl⟩, gd_mem (tb_1 217 (by decide +kernel)) (by decide +kernel)⟩, gd_mem (tb_0 7 (by decide +kernel)) (by decide +kernel)⟩
def mX4_clear : MeT := (RX4, cX4_clear, 1, none, 0, 0, [], false)
theorem kX4_clear : YKv yX4_clear mX4_clear 0 := ⟨⟨⟨gd_mem (tb_2 99 (by decide +kernel)) (by decide +kernel), gd_mem (tb_1 6 (by decide +kernel)) (by decide +kernel), ⟨by decide +kernel, by decide +kernel, by decide +kernel⟩, by decide +kernel, rfl, rfl⟩, gd_mem (tb_2 97 (by decide +kernel)) (by decide +kernel)⟩, gd_mem (tb_2 98 (by decide +kernel)) (by decide +kernel)⟩
def mX4_countOf : MeT := (RX4, cX4_countOf, 3, (some .int), 0, 0, [], false)
theorem kX4_countOf : YKv yX4_countOf mX4_countOf 1 := ⟨⟨⟨gd_mem (tb_2 114 (by decide +kernel)) (by decide +kernel), gd_mem (tb_1 6 (by decide +kernel)) (by decide +kernel), ⟨by decide +kernel, by decide +kernel, by decide +kernel⟩, by decide +kernel, rfl, rfl⟩, gd_mem (tb_2 112 (by decide +kernel)) (by decide +kernel)⟩, gd_mem (tb_2 113 (by decide +kernel)) (by decide +kernel)⟩
def mX4_goOn : MeT := (RX4, cX4_goOn, 5, none, 2, 40, [], false)
theorem kX4_goOn : YKv yX4_goOn mX4_goOn 2 := ⟨⟨⟨gd_mem (tb_2 107 (by decide +kernel)) (by decide +kernel), gd_mem (tb_1 6 (by decide +kernel)) (by decide +kernel), ⟨by decide +kernel, by decide +kernel, by decide +kernel⟩, by decide +kernel, rfl, rfl⟩, gd_mem (tb_2 105 (by decide +kernel)) (by decide +kernel)⟩, gd_mem (tb_2 106 (by decide +kernel)) (by decide +kernel)⟩
def mX4_init : MeT := (RX4, cX4_init, 1, none, 1, 20, [], true)
theorem kX4_init : YKi yX4_init mX4_init 0 := ⟨⟨gd_mem (tb_1 116 (by decide +kernel)) (by decide +kernel), gd_mem (tb_1 6 (by decide +kernel)) (by decide +kernel), ⟨by decide +kernel, by decide +kernel, by decide +kernel⟩, by decide +kernel, rfl, rfl⟩, gd_mem (tb_1 115 (by decide +kernel)) (by decide +kernel)⟩
def mX4_put : MeT := (RX4, cX4_put, 4, none, 0, 0, [], false)
theorem kX4_put : YKv yX4_put mX4_put 2 := ⟨⟨⟨gd_mem (tb_2 103 (by decide +kernel)) (by decide +kernel), gd_mem (tb_1 6 (by decide +kernel)) (by decide +kernel), ⟨by decide +kernel, by decide +kernel, by decide +kernel⟩, by decide +kernel, rfl, rfl⟩, gd_mem (tb_2 101 (by decide +kernel)) (by decide +kernel)⟩, gd_mem (tb_2 102 (by decide +kernel)) (by decide +kernel)⟩
def mX5_add : MeT := (RX5, cX5_add, 5, (some .int), 7, 110, [], false)
theorem kX5_add : YKv yX5_add mX5_add 2 := ⟨⟨⟨gd_mem (tb_3 62 (by decide +kernel)) (by decide +kernel), gd_mem (tb_1 1 (by decide +kernel)) (by decide +kernel), ⟨by decide +kernel, by decide +kernel, by decide +kernel⟩, by decide +kernel, rfl, rfl⟩, gd_mem (tb_3 60 (by decide +kernel)) (by decide +kernel)⟩, gd_mem (tb_3 61 (by decide +kernel)) (by decide +kernel)⟩
def mX5_append : MeT := (RX5, cX5_append, 2, (some .int), 6, 90, [], false)
theorem kX5_append : YKv yX5_append mX5_append 1 := ⟨⟨⟨gd_mem (tb_3 170 (by decide +kernel)) (by decide +kernel), gd_mem (tb_1 1 (by decide +kernel)) (by decide +kernel), ⟨by decide +kernel, by decide +kernel, by decide +kernel⟩, by decide +kernel, rfl, rfl⟩, gd_mem (tb_3 168 (by decide +kernel)) (by decide +kernel)⟩, gd_mem (tb_3 169 (by decide +kernel)) (by decide +kernel)⟩
def mX5_bitsOfShare : MeT := (RX5, cX5_bitsOfShare, 7, (some .long), 0, 0, [], false)
theorem kX5_bitsOfShare : YKs yX5_bitsOfShare mX5_bitsOfShare 1 := ⟨⟨gd_mem (tb_2 179 (by decide +kernel)) (by decide +kernel), gd_mem (tb_1 1 (by decide +kernel)) (by decide +kernel), ⟨by decide +kernel, by decide +kernel, by decide +kernel⟩, by decide +kernel, rfl, rfl⟩, gd_mem (tb_2 178 (by decide +kernel)) (by decide +kernel)⟩
def mX5_canRaise : MeT := (RX5, cX5_canRaise, 1, (some .boolean), 1, 21, [], false)
theorem kX5_canRaise : YKs yX5_canRaise mX5_canRaise 1 := ⟨⟨gd_mem (tb_3 96 (by decide +kernel)) (by decide +kernel), gd_mem (tb_1 1 (by decide +kernel)) (by decide +kernel), ⟨by decide +kernel, by decide +kernel, by decide +kernel⟩, by decide +kernel, rfl, rfl⟩, gd_mem (tb_3 95 (by decide +kernel)) (by decide +kernel)⟩
def mX5_carries : MeT := (RX5, cX5_carries, 3, (some .int), 7, 110, [], false)
theorem kX5_carries : YKv yX5_carries mX5_carries 2 := ⟨⟨⟨gd_mem (tb_4 102 (by decide +kernel)) (by decide +kernel), gd_mem (tb_1 1 (by decide +kernel)) (by decide +kernel), ⟨by decide +kernel, by decide +kernel, by decide +kernel⟩, by decide +kernel, rfl, rfl⟩, gd_mem (tb_4 100 (by decide +kernel)) (by decide +kernel)⟩, gd_mem (tb_4 101 (by decide +kernel)) (by decide +kernel)⟩
def mX5_carryStalls : MeT := (RX5, cX5_carryStalls, 3, (some .int), 4, 87, [], false)
theorem kX5_carryStalls : YKv yX5_carryStalls mX5_carryStalls 2 := ⟨⟨⟨gd_mem (tb_2 127 (by decide +kernel)) (by decide +kernel), gd_mem (tb_1 1 (by decide +kernel)) (by decide +kernel), ⟨by decide +kernel, by decide +kernel, by decide +kernel⟩, by decide +kernel, rfl, rfl⟩, gd_mem (tb_2 126 (by decide +kernel)) (by decide +kernel)⟩, gd_mem (tb_0 11 (by decide +kernel)) (by decide +kernel)⟩
def mX5_checkDigit : MeT := (RX5, cX5_checkDigit, 2, none, 6, 90, [], false)
theorem kX5_checkDigit : YKv yX5_checkDigit mX5_checkDigit 1 := ⟨⟨⟨gd_mem (tb_3 145 (by decide +kernel)) (by decide +kernel), gd_mem (tb_1 1 (by decide +kernel)) (by decide +kernel), ⟨by decide +kernel, by decide +kernel, by decide +kernel⟩, by decide +kernel, rfl, rfl⟩, gd_mem (tb_3 144 (by decide +kernel)) (by decide +kernel)⟩, gd_mem (tb_0 24 (by decide +kernel)) (by decide +kernel)⟩
def mX5_checkNumber : MeT := (RX5, cX5_checkNumber, 1, none, 6, 90, [], false)
theorem kX5_checkNumber : YKs yX5_checkNumber mX5_checkNumber 1 := ⟨⟨gd_mem (tb_3 29 (by decide +kernel)) (by decide +kernel), gd_mem (tb_1 1 (by decide +kernel)) (by decide +kernel), ⟨by decide +kernel, by decide +kernel, by decide +kernel⟩, by decide +kernel, rfl, rfl⟩, gd_mem (tb_3 28 (by decide +kernel)) (by decide +kernel)⟩
def mX5_checkNumberFromOne : MeT := (RX5, cX5_checkNumberFromOne, 1, none, 6, 90, [], false)
theorem kX5_checkNumberFromOne : YKs yX5_checkNumberFromOne mX5_checkNumberFromOne 1 := ⟨⟨gd_mem (tb_3 111 (by decide +kernel)) (by decide +kernel), gd_mem (tb_1 1 (by decide +kernel)) (by decide +kernel), ⟨by decide +kernel, by decide +kernel, by decide +kernel⟩, by decide +kernel, rfl, rfl⟩, gd_mem (tb_3 110 (by decide +kernel)) (by decide +kernel)⟩
def mX5_checkStall : MeT := (RX5, cX5_checkStall, 1, none, 6, 90, [], false)
theorem kX5_checkStall : YKs yX5_checkStall mX5_checkStall 1 := ⟨⟨gd_mem (tb_2 198 (by decide +kernel)) (by decide +kernel), gd_mem (tb_1 1 (by decide +kernel)) (by decide +kernel), ⟨by decide +kernel, by decide +kernel, by decide +kernel⟩, by decide +kernel, rfl, rfl⟩, gd_mem (tb_2 197 (by decide +kernel)) (by decide +kernel)⟩
def mX5_checkStopped : MeT := (RX5, cX5_checkStopped, 1, none, 6, 90, [], false)
theorem kX5_checkStopped : YKv yX5_checkStopped mX5_checkStopped 0 := ⟨⟨⟨gd_mem (tb_3 219 (by decide +kernel)) (by decide +kernel), gd_mem (tb_1 1 (by decide +kernel)) (by decide +kernel), ⟨by decide +kernel, by decide +kernel, by decide +kernel⟩, by decide +kernel, rfl, rfl⟩, gd_mem (tb_3 218 (by decide +kernel)) (by decide +kernel)⟩, gd_mem (tb_0 31 (by decide +kernel)) (by decide +kernel)⟩
def mX5_checkTribe : MeT := (RX5, cX5_checkTribe, 1, none, 6, 90, [], false)
theorem kX5_checkTribe : YKs yX5_checkTribe mX5_checkTribe 1 := ⟨⟨gd_mem (tb_4 65 (by decide +kernel)) (by decide +kernel), gd_mem (tb_1 1 (by decide +kernel)) (by decide +kernel), ⟨by decide +kernel, by decide +kernel, by decide +kernel⟩, by decide +kernel, rfl, rfl⟩, gd_mem (tb_4 64 (by decide +kernel)) (by decide +kernel)⟩
def mX5_clearBuffer : MeT := (RX5, cX5_clearBuffer, 2, (some .int), 0, 0, [], false)
theorem kX5_clearBuffer : YKv yX5_clearBuffer mX5_clearBuffer 0 := ⟨⟨⟨gd_mem (tb_1 168 (by decide +kernel)) (by decide +kernel), gd_mem (tb_1 1 (by decide +kernel)) (by decide +kernel), ⟨by decide +kernel, by decide +kernel, by decide +kernel⟩, by decide +kernel, rfl, rfl⟩, gd_mem (tb_1 166 (by decide +kernel)) (by decide +kernel)⟩, gd_mem (tb_1 167 (by decide +kernel)) (by decide +kernel)⟩
def mX5_codeLength : MeT := (RX5, cX5_codeLength, 2, (some .int), 7, 110, [], false)
theorem kX5_codeLength : YKv yX5_codeLength mX5_codeLength 1 := ⟨⟨⟨gd_mem (tb_4 131 (by decide +kernel)) (by decide +kernel), gd_mem (tb_1 1 (by decide +kernel)) (by decide +kernel), ⟨by decide +kernel, by decide +kernel, by decide +kernel⟩, by decide +kernel, rfl, rfl⟩, gd_mem (tb_4 129 (by decide +kernel)) (by decide +kernel)⟩, gd_mem (tb_4 130 (by decide +kernel)) (by decide +kernel)⟩
def mX5_copyState : MeT := (RX5, cX5_copyState, 2, none, 2, 44, [], false)
theorem kX5_copyState : YKs yX5_copyState mX5_copyState 2 := ⟨⟨gd_mem (tb_1 229 (by decide +kernel)) (by decide +kernel), gd_mem (tb_1 1 (by decide +kernel)) (by decide +kernel), ⟨by decide +kernel, by decide +kernel, by decide +kernel⟩, by decide +kernel, rfl, rfl⟩, gd_mem (tb_1 228 (by decide +kernel)) (by decide +kernel)⟩
def mX5_countIfTurned : MeT := (RX5, cX5_countIfTurned, 2, (some .int), 4, 93, [], false)
theorem kX5_countIfTurned : YKv yX5_countIfTurned mX5_countIfTurned 1 := ⟨⟨⟨gd_mem (tb_2 171 (by decide +kernel)) (by decide +kernel), gd_mem (tb_1 1 (by decide +kernel)) (by decide +kernel), ⟨by decide +kernel, by decide +kernel, by decide +kernel⟩, by decide +kernel, rfl, rfl⟩, gd_mem (tb_2 170 (by decide +kernel)) (by decide +kernel)⟩, gd_mem (tb_0 18 (by decide +kernel)) (by decide +kernel)⟩
def mX5_countedMark : MeT := (RX5, cX5_countedMark, 5, (some .int), 0, 0, [], false)
theorem kX5_countedMark : YKs yX5_countedMark mX5_countedMark 1 := ⟨⟨gd_mem (tb_2 158 (by decide +kernel)) (by decide +kernel), gd_mem (tb_1 1 (by decide +kernel)) (by decide +kernel), ⟨by decide +kernel, by decide +kernel, by decide +kernel⟩, by decide +kernel, rfl, rfl⟩, gd_mem (tb_2 157 (by decide +kernel)) (by decide +kernel)⟩
def mX5_cut : MeT := (RX5, cX5_cut, 2, (some .int), 6, 90, [], false)
theorem kX5_cut : YKv yX5_cut mX5_cut 1 := ⟨⟨⟨gd_mem (tb_3 157 (by decide +kernel)) (by decide +kernel), gd_mem (tb_1 1 (by decide +kernel)) (by decide +kernel), ⟨by decide +kernel, by decide +kernel, by decide +kernel⟩, by decide +kernel, rfl, rfl⟩, gd_mem (tb_3 155 (by decide +kernel)) (by decide +kernel)⟩, gd_mem (tb_3 156 (by decide +kernel)) (by decide +kernel)⟩
def mX5_digest : MeT := (RX5, cX5_digest, 5, (some .long), 6, 139, [], false)
theorem kX5_digest : YKv yX5_digest mX5_digest 0 := ⟨⟨⟨gd_mem (tb_2 79 (by decide +kernel)) (by decide +kernel), gd_mem (tb_1 1 (by decide +kernel)) (by decide +kernel), ⟨by decide +kernel, by decide +kernel, by decide +kernel⟩, by decide +kernel, rfl, rfl⟩, gd_mem (tb_2 77 (by decide +kernel)) (by decide +kernel)⟩, gd_mem (tb_2 78 (by decide +kernel)) (by decide +kernel)⟩
def mX5_digitAt : MeT := (RX5, cX5_digitAt, 2, (some .int), 7, 111, [], false)
theorem kX5_digitAt : YKv yX5_digitAt mX5_digitAt 1 := ⟨⟨⟨gd_mem (tb_4 109 (by decide +kernel)) (by decide +kernel), gd_mem (tb_1 1 (by decide +kernel)) (by decide +kernel), ⟨by decide +kernel, by decide +kernel, by decide +kernel⟩, by decide +kernel, rfl, rfl⟩, gd_mem (tb_4 107 (by decide +kernel)) (by decide +kernel)⟩, gd_mem (tb_4 108 (by decide +kernel)) (by decide +kernel)⟩
def mX5_digitOf : MeT := (RX5, cX5_digitOf, 3, (some .int), 0, 0, [], false)
theorem kX5_digitOf : YKs yX5_digitOf mX5_digitOf 2 := ⟨⟨gd_mem (tb_2 33 (by decide +kernel)) (by decide +kernel), gd_mem (tb_1 1 (by decide +kernel)) (by decide +kernel), ⟨by decide +kernel, by decide +kernel, by decide +kernel⟩, by decide +kernel, rfl, rfl⟩, gd_mem (tb_2 32 (by decide +kernel)) (by decide +kernel)⟩
def mX5_doPart : MeT := (RX5, cX5_doPart, 2, (some .int), 4, 87, [], false)
theorem kX5_doPart : YKv yX5_doPart mX5_doPart 0 := ⟨⟨⟨gd_mem (tb_3 192 (by decide +kernel)) (by decide +kernel), gd_mem (tb_1 1 (by decide +kernel)) (by decide +kernel), ⟨by decide +kernel, by decide +kernel, by decide +kernel⟩, by decide +kernel, rfl, rfl⟩, gd_mem (tb_3 191 (by decide +kernel)) (by decide +kernel)⟩, gd_mem (tb_0 26 (by decide +kernel)) (by decide +kernel)⟩
def mX5_doParts : MeT := (RX5, cX5_doParts, 5, (some .int), 5, 108, [], false)
theorem kX5_doParts : YKv yX5_doParts mX5_doParts 0 := ⟨⟨⟨gd_mem (tb_3 188 (by decide +kernel)) (by decide +kernel), gd_mem (tb_1 1 (by decide +kernel)) (by decide +kernel), ⟨by decide +kernel, by decide +kernel, by decide +kernel⟩, by decide +kernel, rfl, rfl⟩, gd_mem (tb_3 187 (by decide +kernel)) (by decide +kernel)⟩, gd_mem (tb_0 25 (by decide +kernel)) (by decide +kernel)⟩
def mX5_doRaise : MeT := (RX5, cX5_doRaise, 2, (some .int), 3, 63, [], false)
theorem kX5_doRaise : YKv yX5_doRaise mX5_doRaise 1 := ⟨⟨⟨gd_mem (tb_3 200 (by decide +kernel)) (by decide +kernel), gd_mem (tb_1 1 (by decide +kernel)) (by decide +kernel), ⟨by decide +kernel, by decide +kernel, by decide +kernel⟩, by decide +kernel, rfl, rfl⟩, gd_mem (tb_3 199 (by decide +kernel)) (by decide +kernel)⟩, gd_mem (tb_0 28 (by decide +kernel)) (by decide +kernel)⟩
def mX5_doSend : MeT := (RX5, cX5_doSend, 2, (some .int), 3, 66, [], false)
theorem kX5_doSend : YKv yX5_doSend mX5_doSend 1 := ⟨⟨⟨gd_mem (tb_3 204 (by decide +kernel)) (by decide +kernel), gd_mem (tb_1 1 (by decide +kernel)) (by decide +kernel), ⟨by decide +kernel, by decide +kernel, by decide +kernel⟩, by decide +kernel, rfl, rfl⟩, gd_mem (tb_3 203 (by decide +kernel)) (by decide +kernel)⟩, gd_mem (tb_0 29 (by decide +kernel)) (by decide +kernel)⟩
def mX5_doTurn : MeT := (RX5, cX5_doTurn, 2, (some .int), 1, 21, [], false)
theorem kX5_doTurn : YKv yX5_doTurn mX5_doTurn 1 := ⟨⟨⟨gd_mem (tb_3 208 (by decide +kernel)) (by decide +kernel), gd_mem (tb_1 1 (by decide +kernel)) (by decide +kernel), ⟨by decide +kernel, by decide +kernel, by decide +kernel⟩, by decide +kernel, rfl, rfl⟩, gd_mem (tb_3 207 (by decide +kernel)) (by decide +kernel)⟩, gd_mem (tb_0 30 (by decide +kernel)) (by decide +kernel)⟩
def mX5_dropOldest : MeT := (RX5, cX5_dropOldest, 3, none, 0, 0, [], false)
theorem kX5_dropOldest : YKv yX5_dropOldest mX5_dropOldest 0 := ⟨⟨⟨gd_mem (tb_3 53 (by decide +kernel)) (by decide +kernel), gd_mem (tb_1 1 (by decide +kernel)) (by decide +kernel), ⟨by decide +kernel, by decide +kernel, by decide +kernel⟩, by decide +kernel, rfl, rfl⟩, gd_mem (tb_3 52 (by decide +kernel)) (by decide +kernel)⟩, gd_mem (tb_0 23 (by decide +kernel)) (by decide +kernel)⟩
def mX5_errors : MeT := (RX5, cX5_errors, 1, (some .int), 4, 93, [], false)
theorem kX5_errors : YKv yX5_errors mX5_errors 0 := ⟨⟨⟨gd_mem (tb_2 52 (by decide +kernel)) (by decide +kernel), gd_mem (tb_1 1 (by decide +kernel)) (by decide +kernel), ⟨by decide +kernel, by decide +kernel, by decide +kernel⟩, by decide +kernel, rfl, rfl⟩, gd_mem (tb_2 50 (by decide +kernel)) (by decide +kernel)⟩, gd_mem (tb_2 51 (by decide +kernel)) (by decide +kernel)⟩
def mX5_firstError : MeT := (RX5, cX5_firstError, 1, (some .int), 4, 86, [], false)
theorem kX5_firstError : YKv yX5_firstError mX5_firstError 0 := ⟨⟨⟨gd_mem (tb_1 172 (by decide +kernel)) (by decide +kernel), gd_mem (tb_1 1 (by decide +kernel)) (by decide +kernel), ⟨by decide +kernel, by decide +kernel, by decide +kernel⟩, by decide +kernel, rfl, rfl⟩, gd_mem (tb_1 170 (by decide +kernel)) (by decide +kernel)⟩, gd_mem (tb_1 171 (by decide +kernel)) (by decide +kernel)⟩
def mX5_fullMark : MeT := (RX5, cX5_fullMark, 4, (some .int), 2, 40, [], false)
theorem kX5_fullMark : YKs yX5_fullMark mX5_fullMark 1 := ⟨⟨gd_mem (tb_2 72 (by decide +kernel)) (by decide +kernel), gd_mem (tb_1 1 (by decide +kernel)) (by decide +kernel), ⟨by decide +kernel, by decide +kernel, by decide +kernel⟩, by decide +kernel, rfl, rfl⟩, gd_mem (tb_2 71 (by decide +kernel)) (by decide +kernel)⟩
def mX5_fullSet : MeT := (RX5, cX5_fullSet, 2, (some .int), 7, 110, [], false)
theorem kX5_fullSet : YKv yX5_fullSet mX5_fullSet 1 := ⟨⟨⟨gd_mem (tb_4 41 (by decide +kernel)) (by decide +kernel), gd_mem (tb_1 1 (by decide +kernel)) (by decide +kernel), ⟨by decide +kernel, by decide +kernel, by decide +kernel⟩, by decide +kernel, rfl, rfl⟩, gd_mem (tb_4 39 (by decide +kernel)) (by decide +kernel)⟩, gd_mem (tb_4 40 (by decide +kernel)) (by decide +kernel)⟩
def mX5_giveIfFits : MeT := (RX5, cX5_giveIfFits, 2, (some .int), 1, 22, [], false)
theorem kX5_giveIfFits : YKv yX5_giveIfFits mX5_giveIfFits 1 := ⟨⟨⟨gd_mem (tb_3 196 (by decide +kernel)) (by decide +kernel), gd_mem (tb_1 1 (by decide +kernel)) (by decide +kernel), ⟨by decide +kernel, by decide +kernel, by decide +kernel⟩, by decide +kernel, rfl, rfl⟩, gd_mem (tb_3 195 (by decide +kernel)) (by decide +kernel)⟩, gd_mem (tb_0 27 (by decide +kernel)) (by decide +kernel)⟩
def mX5_greedyMark : MeT := (RX5, cX5_greedyMark, 4, (some .int), 1, 20, [], false)
theorem kX5_greedyMark : YKs yX5_greedyMark mX5_greedyMark 1 := ⟨⟨gd_mem (tb_2 63 (by decide +kernel)) (by decide +kernel), gd_mem (tb_1 1 (by decide +kernel)) (by decide +kernel), ⟨by decide +kernel, by decide +kernel, by decide +kernel⟩, by decide +kernel, rfl, rfl⟩, gd_mem (tb_2 62 (by decide +kernel)) (by decide +kernel)⟩
def mX5_hasStep : MeT := (RX5, cX5_hasStep, 2, (some .boolean), 0, 0, [], false)
theorem kX5_hasStep : YKs yX5_hasStep mX5_hasStep 2 := ⟨⟨gd_mem (tb_2 43 (by decide +kernel)) (by decide +kernel), gd_mem (tb_1 1 (by decide +kernel)) (by decide +kernel), ⟨by decide +kernel, by decide +kernel, by decide +kernel⟩, by decide +kernel, rfl, rfl⟩, gd_mem (tb_2 42 (by decide +kernel)) (by decide +kernel)⟩
def mX5_hasStopped : MeT := (RX5, cX5_hasStopped, 1, (some .boolean), 0, 0, [], false)
theorem kX5_hasStopped : YKv yX5_hasStopped mX5_hasStopped 0 := ⟨⟨⟨gd_mem (tb_1 222 (by decide +kernel)) (by decide +kernel), gd_mem (tb_1 1 (by decide +kernel)) (by decide +kernel), ⟨by decide +kernel, by decide +kernel, by decide +kernel⟩, by decide +kernel, rfl, rfl⟩, gd_mem (tb_1 220 (by decide +kernel)) (by decide +kernel)⟩, gd_mem (tb_1 221 (by decide +kernel)) (by decide +kernel)⟩
def mX5_init : MeT := (RX5, cX5_init, 2, none, 2, 40, [], true)
theorem kX5_init : YKi yX5_init mX5_init 0 := ⟨⟨gd_mem (tb_1 19 (by decide +kernel)) (by decide +kernel), gd_mem (tb_1 1 (by decide +kernel)) (by decide +kernel), ⟨by decide +kernel, by decide +kernel, by decide +kernel⟩, by decide +kernel, rfl, rfl⟩, gd_mem (tb_1 18 (by decide +kernel)) (by decide +kernel)⟩
def mX5_keep : MeT := (RX5, cX5_keep, 1, (some .int), 3, 65, [], false)
theorem kX5_keep : YKv yX5_keep mX5_keep 0 := ⟨⟨⟨gd_mem (tb_1 226 (by decide +kernel)) (by decide +kernel), gd_mem (tb_1 1 (by decide +kernel)) (by decide +kernel), ⟨by decide +kernel, by decide +kernel, by decide +kernel⟩, by decide +kernel, rfl, rfl⟩, gd_mem (tb_1 224 (by decide +kernel)) (by decide +kernel)⟩, gd_mem (tb_1 225 (by decide +kernel)) (by decide +kernel)⟩
def mX5_lengthOfCode : MeT := (RX5, cX5_lengthOfCode, 3, (some .int), 1, 21, [], false)
theorem kX5_lengthOfCode : YKs yX5_lengthOfCode mX5_lengthOfCode 1 := ⟨⟨gd_mem (tb_3 129 (by decide +kernel)) (by decide +kernel), gd_mem (tb_1 1 (by decide +kernel)) (by decide +kernel), ⟨by decide +kernel, by decide +kernel, by decide +kernel⟩, by decide +kernel, rfl, rfl⟩, gd_mem (tb_3 128 (by decide +kernel)) (by decide +kernel)⟩
def mX5_looseDigits : MeT := (RX5, cX5_looseDigits, 1, (some .int), 4, 93, [], false)
theorem kX5_looseDigits : YKv yX5_looseDigits mX5_looseDigits 0 := ⟨⟨⟨gd_mem (tb_2 56 (by decide +kernel)) (by decide +kernel), gd_mem (tb_1 1 (by decide +kernel)) (by decide +kernel), ⟨by decide +kernel, by decide +kernel, by decide +kernel⟩, by decide +kernel, rfl, rfl⟩, gd_mem (tb_2 54 (by decide +kernel)) (by decide +kernel)⟩, gd_mem (tb_2 55 (by decide +kernel)) (by decide +kernel)⟩
def mX5_mix : MeT := (RX5, cX5_mix, 4, (some .long), 0, 0, [], false)
theorem kX5_mix : YKs yX5_mix mX5_mix 2 := ⟨⟨gd_mem (tb_2 84 (by decide +kernel)) (by decide +kernel), gd_mem (tb_1 1 (by decide +kernel)) (by decide +kernel), ⟨by decide +kernel, by decide +kernel, by decide +kernel⟩, by decide +kernel, rfl, rfl⟩, gd_mem (tb_2 83 (by decide +kernel)) (by decide +kernel)⟩
def mX5_mixNumber : MeT := (RX5, cX5_mixNumber, 10, (some .long), 4, 89, [], false)
theorem kX5_mixNumber : YKv yX5_mixNumber mX5_mixNumber 2 := ⟨⟨⟨gd_mem (tb_2 91 (by decide +kernel)) (by decide +kernel), gd_mem (tb_1 1 (by decide +kernel)) (by decide +kernel), ⟨by decide +kernel, by decide +kernel, by decide +kernel⟩, by decide +kernel, rfl, rfl⟩, gd_mem (tb_2 90 (by decide +kernel)) (by decide +kernel)⟩, gd_mem (tb_0 9 (by decide +kernel)) (by decide +kernel)⟩
def mX5_mixStop : MeT := (RX5, cX5_mixStop, 5, (some .long), 1, 23, [], false)
theorem kX5_mixStop : YKv yX5_mixStop mX5_mixStop 1 := ⟨⟨⟨gd_mem (tb_2 175 (by decide +kernel)) (by decide +kernel), gd_mem (tb_1 1 (by decide +kernel)) (by decide +kernel), ⟨by decide +kernel, by decide +kernel, by decide +kernel⟩, by decide +kernel, rfl, rfl⟩, gd_mem (tb_2 174 (by decide +kernel)) (by decide +kernel)⟩, gd_mem (tb_0 19 (by decide +kernel)) (by decide +kernel)⟩
def mX5_mixStream : MeT := (RX5, cX5_mixStream, 6, (some .long), 5, 114, [], false)
theorem kX5_mixStream : YKv yX5_mixStream mX5_mixStream 1 := ⟨⟨⟨gd_mem (tb_2 162 (by decide +kernel)) (by decide +kernel), gd_mem (tb_1 1 (by decide +kernel)) (by decide +kernel), ⟨by decide +kernel, by decide +kernel, by decide +kernel⟩, by decide +kernel, rfl, rfl⟩, gd_mem (tb_2 161 (by decide +kernel)) (by decide +kernel)⟩, gd_mem (tb_0 17 (by decide +kernel)) (by decide +kernel)⟩
def mX5_mixText : MeT := (RX5, cX5_mixText, 6, (some .long), 1, 23, [], false)
theorem kX5_mixText : YKv yX5_mixText mX5_mixText 1 := ⟨⟨⟨gd_mem (tb_2 186 (by decide +kernel)) (by decide +kernel), gd_mem (tb_1 1 (by decide +kernel)) (by decide +kernel), ⟨by decide +kernel, by decide +kernel, by decide +kernel⟩, by decide +kernel, rfl, rfl⟩, gd_mem (tb_2 185 (by decide +kernel)) (by decide +kernel)⟩, gd_mem (tb_0 20 (by decide +kernel)) (by decide +kernel)⟩
def mX5_numberOf : MeT := (RX5, cX5_numberOf, 2, (some .int), 7, 110, [], false)
theorem kX5_numberOf : YKv yX5_numberOf mX5_numberOf 1 := ⟨⟨⟨gd_mem (tb_4 81 (by decide +kernel)) (by decide +kernel), gd_mem (tb_1 1 (by decide +kernel)) (by decide +kernel), ⟨by decide +kernel, by decide +kernel, by decide +kernel⟩, by decide +kernel, rfl, rfl⟩, gd_mem (tb_4 79 (by decide +kernel)) (by decide +kernel)⟩, gd_mem (tb_4 80 (by decide +kernel)) (by decide +kernel)⟩
def mX5_pay : MeT := (RX5, cX5_pay, 6, (some .int), 7, 110, [], false)
theorem kX5_pay : YKv yX5_pay mX5_pay 3 := ⟨⟨⟨gd_mem (tb_3 108 (by decide +kernel)) (by decide +kernel), gd_mem (tb_1 1 (by decide +kernel)) (by decide +kernel), ⟨by decide +kernel, by decide +kernel, by decide +kernel⟩, by decide +kernel, rfl, rfl⟩, gd_mem (tb_3 106 (by decide +kernel)) (by decide +kernel)⟩, gd_mem (tb_3 107 (by decide +kernel)) (by decide +kernel)⟩
def mX5_raise : MeT := (RX5, cX5_raise, 3, (some .int), 7, 110, [], false)
theorem kX5_raise : YKv yX5_raise mX5_raise 1 := ⟨⟨⟨gd_mem (tb_3 93 (by decide +kernel)) (by decide +kernel), gd_mem (tb_1 1 (by decide +kernel)) (by decide +kernel), ⟨by decide +kernel, by decide +kernel, by decide +kernel⟩, by decide +kernel, rfl, rfl⟩, gd_mem (tb_3 91 (by decide +kernel)) (by decide +kernel)⟩, gd_mem (tb_3 92 (by decide +kernel)) (by decide +kernel)⟩
def mX5_raisedWorth : MeT := (RX5, cX5_raisedWorth, 1, (some .int), 2, 43, [], false)
theorem kX5_raisedWorth : YKs yX5_raisedWorth mX5_raisedWorth 1 := ⟨⟨gd_mem (tb_3 100 (by decide +kernel)) (by decide +kernel), gd_mem (tb_1 1 (by decide +kernel)) (by decide +kernel), ⟨by decide +kernel, by decide +kernel, by decide +kernel⟩, by decide +kernel, rfl, rfl⟩, gd_mem (tb_3 99 (by decide +kernel)) (by decide +kernel)⟩
def mX5_readAt : MeT := (RX5, cX5_readAt, 2, (some .int), 6, 93, [], false)
theorem kX5_readAt : YKv yX5_readAt mX5_readAt 1 := ⟨⟨⟨gd_mem (tb_4 116 (by decide +kernel)) (by decide +kernel), gd_mem (tb_1 1 (by decide +kernel)) (by decide +kernel), ⟨by decide +kernel, by decide +kernel, by decide +kernel⟩, by decide +kernel, rfl, rfl⟩, gd_mem (tb_4 114 (by decide +kernel)) (by decide +kernel)⟩, gd_mem (tb_4 115 (by decide +kernel)) (by decide +kernel)⟩
def mX5_readIfTurned : MeT := (RX5, cX5_readIfTurned, 2, (some .int), 7, 114, [], false)
theorem kX5_readIfTurned : YKv yX5_readIfTurned mX5_readIfTurned 1 := ⟨⟨⟨gd_mem (tb_4 124 (by decide +kernel)) (by decide +kernel), gd_mem (tb_1 1 (by decide +kernel)) (by decide +kernel), ⟨by decide +kernel, by decide +kernel, by decide +kernel⟩, by decide +kernel, rfl, rfl⟩, gd_mem (tb_4 122 (by decide +kernel)) (by decide +kernel)⟩, gd_mem (tb_4 123 (by decide +kernel)) (by decide +kernel)⟩
def mX5_readNumbers : MeT := (RX5, cX5_readNumbers, 1, (some .int), 4, 93, [], false)
theorem kX5_readNumbers : YKv yX5_readNumbers mX5_readNumbers 0 := ⟨⟨⟨gd_mem (tb_2 26 (by decide +kernel)) (by decide +kernel), gd_mem (tb_1 1 (by decide +kernel)) (by decide +kernel), ⟨by decide +kernel, by decide +kernel, by decide +kernel⟩, by decide +kernel, rfl, rfl⟩, gd_mem (tb_2 24 (by decide +kernel)) (by decide +kernel)⟩, gd_mem (tb_2 25 (by decide +kernel)) (by decide +kernel)⟩
def mX5_restore : MeT := (RX5, cX5_restore, 1, (some .int), 6, 90, [], false)
theorem kX5_restore : YKv yX5_restore mX5_restore 0 := ⟨⟨⟨gd_mem (tb_4 2 (by decide +kernel)) (by decide +kernel), gd_mem (tb_1 1 (by decide +kernel)) (by decide +kernel), ⟨by decide +kernel, by decide +kernel, by decide +kernel⟩, by decide +kernel, rfl, rfl⟩, gd_mem (tb_4 0 (by decide +kernel)) (by decide +kernel)⟩, gd_mem (tb_4 1 (by decide +kernel)) (by decide +kernel)⟩
def mX5_richest : MeT := (RX5, cX5_richest, 3, (some .int), 1, 21, [], false)
theorem kX5_richest : YKv yX5_richest mX5_richest 0 := ⟨⟨⟨gd_mem (tb_2 17 (by decide +kernel)) (by decide +kernel), gd_mem (tb_1 1 (by decide +kernel)) (by decide +kernel), ⟨by decide +kernel, by decide +kernel, by decide +kernel⟩, by decide +kernel, rfl, rfl⟩, gd_mem (tb_2 15 (by decide +kernel)) (by decide +kernel)⟩, gd_mem (tb_2 16 (by decide +kernel)) (by decide +kernel)⟩
def mX5_saveNow : MeT := (RX5, cX5_saveNow, 1, none, 3, 65, [], false)
theorem kX5_saveNow : YKv yX5_saveNow mX5_saveNow 0 := ⟨⟨⟨gd_mem (tb_3 49 (by decide +kernel)) (by decide +kernel), gd_mem (tb_1 1 (by decide +kernel)) (by decide +kernel), ⟨by decide +kernel, by decide +kernel, by decide +kernel⟩, by decide +kernel, rfl, rfl⟩, gd_mem (tb_3 48 (by decide +kernel)) (by decide +kernel)⟩, gd_mem (tb_0 22 (by decide +kernel)) (by decide +kernel)⟩
def mX5_savedStates : MeT := (RX5, cX5_savedStates, 1, (some .int), 0, 0, [], false)
theorem kX5_savedStates : YKv yX5_savedStates mX5_savedStates 0 := ⟨⟨⟨gd_mem (tb_2 9 (by decide +kernel)) (by decide +kernel), gd_mem (tb_1 1 (by decide +kernel)) (by decide +kernel), ⟨by decide +kernel, by decide +kernel, by decide +kernel⟩, by decide +kernel, rfl, rfl⟩, gd_mem (tb_2 7 (by decide +kernel)) (by decide +kernel)⟩, gd_mem (tb_2 8 (by decide +kernel)) (by decide +kernel)⟩
def mX5_say : MeT := (RX5, cX5_say, 2, (some .int), 7, 110, [], false)
theorem kX5_say : YKv yX5_say mX5_say 1 := ⟨⟨⟨gd_mem (tb_4 27 (by decide +kernel)) (by decide +kernel), gd_mem (tb_1 1 (by decide +kernel)) (by decide +kernel), ⟨by decide +kernel, by decide +kernel, by decide +kernel⟩, by decide +kernel, rfl, rfl⟩, gd_mem (tb_4 25 (by decide +kernel)) (by decide +kernel)⟩, gd_mem (tb_4 26 (by decide +kernel)) (by decide +kernel)⟩
def mX5_sayByCounting : MeT := (RX5, cX5_sayByCounting, 2, (some .int), 7, 110, [], false)
theorem kX5_sayByCounting : YKv yX5_sayByCounting mX5_sayByCounting 1 := ⟨⟨⟨gd_mem (tb_4 34 (by decide +kernel)) (by decide +kernel), gd_mem (tb_1 1 (by decide +kernel)) (by decide +kernel), ⟨by decide +kernel, by decide +kernel, by decide +kernel⟩, by decide +kernel, rfl, rfl⟩, gd_mem (tb_4 32 (by decide +kernel)) (by decide +kernel)⟩, gd_mem (tb_4 33 (by decide +kernel)) (by decide +kernel)⟩
def mX5_scanText : MeT := (RX5, cX5_scanText, 2, (some .int), 3, 65, [], false)
theorem kX5_scanText : YKv yX5_scanText mX5_scanText 0 := ⟨⟨⟨gd_mem (tb_1 176 (by decide +kernel)) (by decide +kernel), gd_mem (tb_1 1 (by decide +kernel)) (by decide +kernel), ⟨by decide +kernel, by decide +kernel, by decide +kernel⟩, by decide +kernel, rfl, rfl⟩, gd_mem (tb_1 175 (by decide +kernel)) (by decide +kernel)⟩, gd_mem (tb_0 0 (by decide +kernel)) (by decide +kernel)⟩
def mX5_send : MeT := (RX5, cX5_send, 2, (some .int), 7, 110, [], false)
theorem kX5_send : YKv yX5_send mX5_send 1 := ⟨⟨⟨gd_mem (tb_3 121 (by decide +kernel)) (by decide +kernel), gd_mem (tb_1 1 (by decide +kernel)) (by decide +kernel), ⟨by decide +kernel, by decide +kernel, by decide +kernel⟩, by decide +kernel, rfl, rfl⟩, gd_mem (tb_3 119 (by decide +kernel)) (by decide +kernel)⟩, gd_mem (tb_3 120 (by decide +kernel)) (by decide +kernel)⟩
def mX5_set : MeT := (RX5, cX5_set, 4, (some .int), 7, 110, [], false)
theorem kX5_set : YKv yX5_set mX5_set 2 := ⟨⟨⟨gd_mem (tb_2 195 (by decide +kernel)) (by decide +kernel), gd_mem (tb_1 1 (by decide +kernel)) (by decide +kernel), ⟨by decide +kernel, by decide +kernel, by decide +kernel⟩, by decide +kernel, rfl, rfl⟩, gd_mem (tb_2 193 (by decide +kernel)) (by decide +kernel)⟩, gd_mem (tb_2 194 (by decide +kernel)) (by decide +kernel)⟩
def mX5_sparseShare : MeT := (RX5, cX5_sparseShare, 4, (some .double), 3, 63, [], false)
theorem kX5_sparseShare : YKv yX5_sparseShare mX5_sparseShare 0 := ⟨⟨⟨gd_mem (tb_2 60 (by decide +kernel)) (by decide +kernel), gd_mem (tb_1 1 (by decide +kernel)) (by decide +kernel), ⟨by decide +kernel, by decide +kernel, by decide +kernel⟩, by decide +kernel, rfl, rfl⟩, gd_mem (tb_2 58 (by decide +kernel)) (by decide +kernel)⟩, gd_mem (tb_2 59 (by decide +kernel)) (by decide +kernel)⟩
def mX5_spokenAt : MeT := (RX5, cX5_spokenAt, 5, (some .int), 7, 110, [], false)
theorem kX5_spokenAt : YKv yX5_spokenAt mX5_spokenAt 3 := ⟨⟨⟨gd_mem (tb_4 73 (by decide +kernel)) (by decide +kernel), gd_mem (tb_1 1 (by decide +kernel)) (by decide +kernel), ⟨by decide +kernel, by decide +kernel, by decide +kernel⟩, by decide +kernel, rfl, rfl⟩, gd_mem (tb_4 71 (by decide +kernel)) (by decide +kernel)⟩, gd_mem (tb_4 72 (by decide +kernel)) (by decide +kernel)⟩
def mX5_spokenLength : MeT := (RX5, cX5_spokenLength, 3, (some .int), 7, 110, [], false)
theorem kX5_spokenLength : YKv yX5_spokenLength mX5_spokenLength 2 := ⟨⟨⟨gd_mem (tb_4 62 (by decide +kernel)) (by decide +kernel), gd_mem (tb_1 1 (by decide +kernel)) (by decide +kernel), ⟨by decide +kernel, by decide +kernel, by decide +kernel⟩, by decide +kernel, rfl, rfl⟩, gd_mem (tb_4 60 (by decide +kernel)) (by decide +kernel)⟩, gd_mem (tb_4 61 (by decide +kernel)) (by decide +kernel)⟩
def mX5_stepFromLowest : MeT := (RX5, cX5_stepFromLowest, 4, (some .int), 1, 21, [], false)
theorem kX5_stepFromLowest : YKs yX5_stepFromLowest mX5_stepFromLowest 2 := ⟨⟨gd_mem (tb_2 123 (by decide +kernel)) (by decide +kernel), gd_mem (tb_1 1 (by decide +kernel)) (by decide +kernel), ⟨by decide +kernel, by decide +kernel, by decide +kernel⟩, by decide +kernel, rfl, rfl⟩, gd_mem (tb_2 122 (by decide +kernel)) (by decide +kernel)⟩
def mX5_stepsOf : MeT := (RX5, cX5_stepsOf, 2, (some .int), 7, 110, [], false)
theorem kX5_stepsOf : YKv yX5_stepsOf mX5_stepsOf 1 := ⟨⟨⟨gd_mem (tb_4 88 (by decide +kernel)) (by decide +kernel), gd_mem (tb_1 1 (by decide +kernel)) (by decide +kernel), ⟨by decide +kernel, by decide +kernel, by decide +kernel⟩, by decide +kernel, rfl, rfl⟩, gd_mem (tb_4 86 (by decide +kernel)) (by decide +kernel)⟩, gd_mem (tb_4 87 (by decide +kernel)) (by decide +kernel)⟩
def mX5_stoppedPart : MeT := (RX5, cX5_stoppedPart, 1, (some .int), 7, 110, [], false)
theorem kX5_stoppedPart : YKv yX5_stoppedPart mX5_stoppedPart 0 := ⟨⟨⟨gd_mem (tb_3 215 (by decide +kernel)) (by decide +kernel), gd_mem (tb_1 1 (by decide +kernel)) (by decide +kernel), ⟨by decide +kernel, by decide +kernel, by decide +kernel⟩, by decide +kernel, rfl, rfl⟩, gd_mem (tb_3 213 (by decide +kernel)) (by decide +kernel)⟩, gd_mem (tb_3 214 (by decide +kernel)) (by decide +kernel)⟩
def mX5_streamLength : MeT := (RX5, cX5_streamLength, 1, (some .int), 0, 0, [], false)
theorem kX5_streamLength : YKv yX5_streamLength mX5_streamLength 0 := ⟨⟨⟨gd_mem (tb_2 22 (by decide +kernel)) (by decide +kernel), gd_mem (tb_1 1 (by decide +kernel)) (by decide +kernel), ⟨by decide +kernel, by decide +kernel, by decide +kernel⟩, by decide +kernel, rfl, rfl⟩, gd_mem (tb_2 20 (by decide +kernel)) (by decide +kernel)⟩, gd_mem (tb_2 21 (by decide +kernel)) (by decide +kernel)⟩
def mX5_sumByCarries : MeT := (RX5, cX5_sumByCarries, 3, (some .int), 7, 110, [], false)
theorem kX5_sumByCarries : YKv yX5_sumByCarries mX5_sumByCarries 2 := ⟨⟨⟨gd_mem (tb_4 95 (by decide +kernel)) (by decide +kernel), gd_mem (tb_1 1 (by decide +kernel)) (by decide +kernel), ⟨by decide +kernel, by decide +kernel, by decide +kernel⟩, by decide +kernel, rfl, rfl⟩, gd_mem (tb_4 93 (by decide +kernel)) (by decide +kernel)⟩, gd_mem (tb_4 94 (by decide +kernel)) (by decide +kernel)⟩
def mX5_takeAway : MeT := (RX5, cX5_takeAway, 4, (some .int), 7, 110, [], false)
theorem kX5_takeAway : YKv yX5_takeAway mX5_takeAway 2 := ⟨⟨⟨gd_mem (tb_3 85 (by decide +kernel)) (by decide +kernel), gd_mem (tb_1 1 (by decide +kernel)) (by decide +kernel), ⟨by decide +kernel, by decide +kernel, by decide +kernel⟩, by decide +kernel, rfl, rfl⟩, gd_mem (tb_3 83 (by decide +kernel)) (by decide +kernel)⟩, gd_mem (tb_3 84 (by decide +kernel)) (by decide +kernel)⟩
def mX5_total : MeT := (RX5, cX5_total, 1, (some .int), 2, 43, [], false)
theorem kX5_total : YKv yX5_total mX5_total 0 := ⟨⟨⟨gd_mem (tb_2 13 (by decide +kernel)) (by decide +kernel), gd_mem (tb_1 1 (by decide +kernel)) (by decide +kernel), ⟨by decide +kernel, by decide +kernel, by decide +kernel⟩, by decide +kernel, rfl, rfl⟩, gd_mem (tb_2 11 (by decide +kernel)) (by decide +kernel)⟩, gd_mem (tb_2 12 (by decide +kernel)) (by decide +kernel)⟩
def mX5_turn : MeT := (RX5, cX5_turn, 2, (some .int), 7, 111, [], false)
theorem kX5_turn : YKv yX5_turn mX5_turn 1 := ⟨⟨⟨gd_mem (tb_3 141 (by decide +kernel)) (by decide +kernel), gd_mem (tb_1 1 (by decide +kernel)) (by decide +kernel), ⟨by decide +kernel, by decide +kernel, by decide +kernel⟩, by decide +kernel, rfl, rfl⟩, gd_mem (tb_3 139 (by decide +kernel)) (by decide +kernel)⟩, gd_mem (tb_3 140 (by decide +kernel)) (by decide +kernel)⟩
def mX5_undo : MeT := (RX5, cX5_undo, 1, (some .int), 6, 90, [], false)
theorem kX5_undo : YKv yX5_undo mX5_undo 0 := ⟨⟨⟨gd_mem (tb_3 234 (by decide +kernel)) (by decide +kernel), gd_mem (tb_1 1 (by decide +kernel)) (by decide +kernel), ⟨by decide +kernel, by decide +kernel, by decide +kernel⟩, by decide +kernel, rfl, rfl⟩, gd_mem (tb_3 232 (by decide +kernel)) (by decide +kernel)⟩, gd_mem (tb_3 233 (by decide +kernel)) (by decide +kernel)⟩
def mX5_ways : MeT := (RX5, cX5_ways, 2, (some .int), 7, 110, [], false)
theorem kX5_ways : YKv yX5_ways mX5_ways 1 := ⟨⟨⟨gd_mem (tb_4 48 (by decide +kernel)) (by decide +kernel), gd_mem (tb_1 1 (by decide +kernel)) (by decide +kernel), ⟨by decide +kernel, by decide +kernel, by decide +kernel⟩, by decide +kernel, rfl, rfl⟩, gd_mem (tb_4 46 (by decide +kernel)) (by decide +kernel)⟩, gd_mem (tb_4 47 (by decide +kernel)) (by decide +kernel)⟩
def mX5_waysByGaps : MeT := (RX5, cX5_waysByGaps, 2, (some .int), 7, 110, [], false)
theorem kX5_waysByGaps : YKv yX5_waysByGaps mX5_waysByGaps 1 := ⟨⟨⟨gd_mem (tb_4 55 (by decide +kernel)) (by decide +kernel), gd_mem (tb_1 1 (by decide +kernel)) (by decide +kernel), ⟨by decide +kernel, by decide +kernel, by decide +kernel⟩, by decide +kernel, rfl, rfl⟩, gd_mem (tb_4 53 (by decide +kernel)) (by decide +kernel)⟩, gd_mem (tb_4 54 (by decide +kernel)) (by decide +kernel)⟩
def mX5_waysInTable : MeT := (RX5, cX5_waysInTable, 6, (some .int), 3, 64, [], false)
theorem kX5_waysInTable : YKv yX5_waysInTable mX5_waysInTable 1 := ⟨⟨⟨gd_mem (tb_2 95 (by decide +kernel)) (by decide +kernel), gd_mem (tb_1 1 (by decide +kernel)) (by decide +kernel), ⟨by decide +kernel, by decide +kernel, by decide +kernel⟩, by decide +kernel, rfl, rfl⟩, gd_mem (tb_2 94 (by decide +kernel)) (by decide +kernel)⟩, gd_mem (tb_0 10 (by decide +kernel)) (by decide +kernel)⟩
def mX5_waysOfMark : MeT := (RX5, cX5_waysOfMark, 7, (some .int), 1, 21, [], false)
theorem kX5_waysOfMark : YKs yX5_waysOfMark mX5_waysOfMark 1 := ⟨⟨gd_mem (tb_2 117 (by decide +kernel)) (by decide +kernel), gd_mem (tb_1 1 (by decide +kernel)) (by decide +kernel), ⟨by decide +kernel, by decide +kernel, by decide +kernel⟩, by decide +kernel, rfl, rfl⟩, gd_mem (tb_2 116 (by decide +kernel)) (by decide +kernel)⟩
def mX5_whyStopped : MeT := (RX5, cX5_whyStopped, 1, (some .int), 7, 110, [], false)
theorem kX5_whyStopped : YKv yX5_whyStopped mX5_whyStopped 0 := ⟨⟨⟨gd_mem (tb_3 227 (by decide +kernel)) (by decide +kernel), gd_mem (tb_1 1 (by decide +kernel)) (by decide +kernel), ⟨by decide +kernel, by decide +kernel, by decide +kernel⟩, by decide +kernel, rfl, rfl⟩, gd_mem (tb_3 225 (by decide +kernel)) (by decide +kernel)⟩, gd_mem (tb_3 226 (by decide +kernel)) (by decide +kernel)⟩
def mX5_wordAt : MeT := (RX5, cX5_wordAt, 4, (some .int), 2, 44, [], false)
theorem kX5_wordAt : YKs yX5_wordAt mX5_wordAt 3 := ⟨⟨gd_mem (tb_2 120 (by decide +kernel)) (by decide +kernel), gd_mem (tb_1 1 (by decide +kernel)) (by decide +kernel), ⟨by decide +kernel, by decide +kernel, by decide +kernel⟩, by decide +kernel, rfl, rfl⟩, gd_mem (tb_2 119 (by decide +kernel)) (by decide +kernel)⟩
def mX5_work : MeT := (RX5, cX5_work, 2, (some .int), 6, 132, [], false)
theorem kX5_work : YKv yX5_work mX5_work 0 := ⟨⟨⟨gd_mem (tb_3 179 (by decide +kernel)) (by decide +kernel), gd_mem (tb_1 1 (by decide +kernel)) (by decide +kernel), ⟨by decide +kernel, by decide +kernel, by decide +kernel⟩, by decide +kernel, rfl, rfl⟩, gd_mem (tb_3 177 (by decide +kernel)) (by decide +kernel)⟩, gd_mem (tb_3 178 (by decide +kernel)) (by decide +kernel)⟩
def mX5_worth : MeT := (RX5, cX5_worth, 1, (some .int), 0, 0, [], false)
theorem kX5_worth : YKs yX5_worth mX5_worth 1 := ⟨⟨gd_mem (tb_2 46 (by decide +kernel)) (by decide +kernel), gd_mem (tb_1 1 (by decide +kernel)) (by decide +kernel), ⟨by decide +kernel, by decide +kernel, by decide +kernel⟩, by decide +kernel, rfl, rfl⟩, gd_mem (tb_2 45 (by decide +kernel)) (by decide +kernel)⟩
def mX5_worthBelow : MeT := (RX5, cX5_worthBelow, 1, (some .int), 1, 20, [], false)
theorem kX5_worthBelow : YKs yX5_worthBelow mX5_worthBelow 1 := ⟨⟨gd_mem (tb_2 75 (by decide +kernel)) (by decide +kernel), gd_mem (tb_1 1 (by decide +kernel)) (by decide +kernel), ⟨by decide +kernel, by decide +kernel, by decide +kernel⟩, by decide +kernel, rfl, rfl⟩, gd_mem (tb_2 74 (by decide +kernel)) (by decide +kernel)⟩
def mX5_worthOf : MeT := (RX5, cX5_worthOf, 2, (some .int), 6, 90, [], false)
theorem kX5_worthOf : YKv yX5_worthOf mX5_worthOf 1 := ⟨⟨⟨gd_mem (tb_4 10 (by decide +kernel)) (by decide +kernel), gd_mem (tb_1 1 (by decide +kernel)) (by decide +kernel), ⟨by decide +kernel, by decide +kernel, by decide +kernel⟩, by decide +kernel, rfl, rfl⟩, gd_mem (tb_4 8 (by decide +kernel)) (by decide +kernel)⟩, gd_mem (tb_4 9 (by decide +kernel)) (by decide +kernel)⟩
def mX5_worthOfMark : MeT := (RX5, cX5_worthOfMark, 3, (some .int), 1, 21, [], false)
theorem kX5_worthOfMark : YKs yX5_worthOfMark mX5_worthOfMark 1 := ⟨⟨gd_mem (tb_2 40 (by decide +kernel)) (by decide +kernel), gd_mem (tb_1 1 (by decide +kernel)) (by decide +kernel), ⟨by decide +kernel, by decide +kernel, by decide +kernel⟩, by decide +kernel, rfl, rfl⟩, gd_mem (tb_2 39 (by decide +kernel)) (by decide +kernel)⟩
def mX5_worthOfSet : MeT := (RX5, cX5_worthOfSet, 2, (some .int), 6, 90, [], false)
theorem kX5_worthOfSet : YKv yX5_worthOfSet mX5_worthOfSet 1 := ⟨⟨⟨gd_mem (tb_4 18 (by decide +kernel)) (by decide +kernel), gd_mem (tb_1 1 (by decide +kernel)) (by decide +kernel), ⟨by decide +kernel, by decide +kernel, by decide +kernel⟩, by decide +kernel, rfl, rfl⟩, gd_mem (tb_4 16 (by decide +kernel)) (by decide +kernel)⟩, gd_mem (tb_4 17 (by decide +kernel)) (by decide +kernel)⟩
def mX6_add : MeT := (RX6, cX6_add, 4, (some .int), 2, 47, [], false)
theorem kX6_add : YKv yX6_add mX6_add 2 := ⟨⟨⟨gd_mem (tb_4 214 (by decide +kernel)) (by decide +kernel), gd_mem (tb_1 7 (by decide +kernel)) (by decide +kernel), ⟨by decide +kernel, by decide +kernel, by decide +kernel⟩, by decide +kernel, rfl, rfl⟩, gd_mem (tb_4 212 (by decide +kernel)) (by decide +kernel)⟩, gd_mem (tb_4 213 (by decide +kernel)) (by decide +kernel)⟩
def mX6_adds : MeT := (RX6, cX6_adds, 6, (some .int), 1, 21, [], false)
theorem kX6_adds : YKv yX6_adds mX6_adds 2 := ⟨⟨⟨gd_mem (tb_4 224 (by decide +kernel)) (by decide +kernel), gd_mem (tb_1 7 (by decide +kernel)) (by decide +kernel), ⟨by decide +kernel, by decide +kernel, by decide +kernel⟩, by decide +kernel, rfl, rfl⟩, gd_mem (tb_4 223 (by decide +kernel)) (by decide +kernel)⟩, gd_mem (tb_0 35 (by decide +kernel)) (by decide +kernel)⟩
def mX6_allSteps : MeT := (RX6, cX6_allSteps, 4, (some .int), 3, 69, [], false)
theorem kX6_allSteps : YKv yX6_allSteps mX6_allSteps 1 := ⟨⟨⟨gd_mem (tb_6 7 (by decide +kernel)) (by decide +kernel), gd_mem (tb_1 7 (by decide +kernel)) (by decide +kernel), ⟨by decide +kernel, by decide +kernel, by decide +kernel⟩, by decide +kernel, rfl, rfl⟩, gd_mem (tb_6 6 (by decide +kernel)) (by decide +kernel)⟩, gd_mem (tb_0 54 (by decide +kernel)) (by decide +kernel)⟩
def mX6_append : MeT := (RX6, cX6_append, 2, (some .int), 1, 23, [], false)
theorem kX6_append : YKv yX6_append mX6_append 1 := ⟨⟨⟨gd_mem (tb_5 53 (by decide +kernel)) (by decide +kernel), gd_mem (tb_1 7 (by decide +kernel)) (by decide +kernel), ⟨by decide +kernel, by decide +kernel, by decide +kernel⟩, by decide +kernel, rfl, rfl⟩, gd_mem (tb_5 51 (by decide +kernel)) (by decide +kernel)⟩, gd_mem (tb_5 52 (by decide +kernel)) (by decide +kernel)⟩
def mX6_bits : MeT := (RX6, cX6_bits, 9, (some .long), 0, 0, [], false)
theorem kX6_bits : YKs yX6_bits mX6_bits 2 := ⟨⟨gd_mem (tb_6 21 (by decide +kernel)) (by decide +kernel), gd_mem (tb_1 7 (by decide +kernel)) (by decide +kernel), ⟨by decide +kernel, by decide +kernel, by decide +kernel⟩, by decide +kernel, rfl, rfl⟩, gd_mem (tb_6 20 (by decide +kernel)) (by decide +kernel)⟩
def mX6_canRaise : MeT := (RX6, cX6_canRaise, 2, (some .boolean), 2, 47, [], false)
theorem kX6_canRaise : YKv yX6_canRaise mX6_canRaise 1 := ⟨⟨⟨gd_mem (tb_5 0 (by decide +kernel)) (by decide +kernel), gd_mem (tb_1 7 (by decide +kernel)) (by decide +kernel), ⟨by decide +kernel, by decide +kernel, by decide +kernel⟩, by decide +kernel, rfl, rfl⟩, gd_mem (tb_4 239 (by decide +kernel)) (by decide +kernel)⟩, gd_mem (tb_0 37 (by decide +kernel)) (by decide +kernel)⟩
def mX6_canSend : MeT := (RX6, cX6_canSend, 2, (some .boolean), 3, 68, [], false)
theorem kX6_canSend : YKv yX6_canSend mX6_canSend 1 := ⟨⟨⟨gd_mem (tb_5 20 (by decide +kernel)) (by decide +kernel), gd_mem (tb_1 7 (by decide +kernel)) (by decide +kernel), ⟨by decide +kernel, by decide +kernel, by decide +kernel⟩, by decide +kernel, rfl, rfl⟩, gd_mem (tb_5 19 (by decide +kernel)) (by decide +kernel)⟩, gd_mem (tb_0 39 (by decide +kernel)) (by decide +kernel)⟩
def mX6_carries : MeT := (RX6, cX6_carries, 3, (some .int), 2, 47, [], false)
theorem kX6_carries : YKv yX6_carries mX6_carries 2 := ⟨⟨⟨gd_mem (tb_5 199 (by decide +kernel)) (by decide +kernel), gd_mem (tb_1 7 (by decide +kernel)) (by decide +kernel), ⟨by decide +kernel, by decide +kernel, by decide +kernel⟩, by decide +kernel, rfl, rfl⟩, gd_mem (tb_5 197 (by decide +kernel)) (by decide +kernel)⟩, gd_mem (tb_5 198 (by decide +kernel)) (by decide +kernel)⟩
def mX6_carry : MeT := (RX6, cX6_carry, 2, (some .boolean), 0, 0, [], false)
theorem kX6_carry : YKv yX6_carry mX6_carry 1 := ⟨⟨⟨gd_mem (tb_4 228 (by decide +kernel)) (by decide +kernel), gd_mem (tb_1 7 (by decide +kernel)) (by decide +kernel), ⟨by decide +kernel, by decide +kernel, by decide +kernel⟩, by decide +kernel, rfl, rfl⟩, gd_mem (tb_4 227 (by decide +kernel)) (by decide +kernel)⟩, gd_mem (tb_0 36 (by decide +kernel)) (by decide +kernel)⟩
def mX6_clearBuffer : MeT := (RX6, cX6_clearBuffer, 2, (some .int), 0, 0, [], false)
theorem kX6_clearBuffer : YKv yX6_clearBuffer mX6_clearBuffer 0 := ⟨⟨⟨gd_mem (tb_5 57 (by decide +kernel)) (by decide +kernel), gd_mem (tb_1 7 (by decide +kernel)) (by decide +kernel), ⟨by decide +kernel, by decide +kernel, by decide +kernel⟩, by decide +kernel, rfl, rfl⟩, gd_mem (tb_5 55 (by decide +kernel)) (by decide +kernel)⟩, gd_mem (tb_5 56 (by decide +kernel)) (by decide +kernel)⟩
def mX6_codeLength : MeT := (RX6, cX6_codeLength, 2, (some .int), 3, 68, [], false)
theorem kX6_codeLength : YKv yX6_codeLength mX6_codeLength 1 := ⟨⟨⟨gd_mem (tb_5 239 (by decide +kernel)) (by decide +kernel), gd_mem (tb_1 7 (by decide +kernel)) (by decide +kernel), ⟨by decide +kernel, by decide +kernel, by decide +kernel⟩, by decide +kernel, rfl, rfl⟩, gd_mem (tb_5 237 (by decide +kernel)) (by decide +kernel)⟩, gd_mem (tb_5 238 (by decide +kernel)) (by decide +kernel)⟩
def mX6_codeOf : MeT := (RX6, cX6_codeOf, 2, (some .int), 2, 47, [], false)
theorem kX6_codeOf : YKs yX6_codeOf mX6_codeOf 1 := ⟨⟨gd_mem (tb_5 23 (by decide +kernel)) (by decide +kernel), gd_mem (tb_1 7 (by decide +kernel)) (by decide +kernel), ⟨by decide +kernel, by decide +kernel, by decide +kernel⟩, by decide +kernel, rfl, rfl⟩, gd_mem (tb_5 22 (by decide +kernel)) (by decide +kernel)⟩
def mX6_copies : MeT := (RX6, cX6_copies, 4, none, 0, 0, [], false)
theorem kX6_copies : YKv yX6_copies mX6_copies 2 := ⟨⟨⟨gd_mem (tb_4 210 (by decide +kernel)) (by decide +kernel), gd_mem (tb_1 7 (by decide +kernel)) (by decide +kernel), ⟨by decide +kernel, by decide +kernel, by decide +kernel⟩, by decide +kernel, rfl, rfl⟩, gd_mem (tb_4 209 (by decide +kernel)) (by decide +kernel)⟩, gd_mem (tb_0 34 (by decide +kernel)) (by decide +kernel)⟩
def mX6_countWays : MeT := (RX6, cX6_countWays, 7, (some .int), 2, 47, [], false)
theorem kX6_countWays : YKs yX6_countWays mX6_countWays 1 := ⟨⟨gd_mem (tb_5 156 (by decide +kernel)) (by decide +kernel), gd_mem (tb_1 7 (by decide +kernel)) (by decide +kernel), ⟨by decide +kernel, by decide +kernel, by decide +kernel⟩, by decide +kernel, rfl, rfl⟩, gd_mem (tb_5 155 (by decide +kernel)) (by decide +kernel)⟩
def mX6_cut : MeT := (RX6, cX6_cut, 4, (some .int), 2, 44, [], false)
theorem kX6_cut : YKv yX6_cut mX6_cut 1 := ⟨⟨⟨gd_mem (tb_5 49 (by decide +kernel)) (by decide +kernel), gd_mem (tb_1 7 (by decide +kernel)) (by decide +kernel), ⟨by decide +kernel, by decide +kernel, by decide +kernel⟩, by decide +kernel, rfl, rfl⟩, gd_mem (tb_5 47 (by decide +kernel)) (by decide +kernel)⟩, gd_mem (tb_5 48 (by decide +kernel)) (by decide +kernel)⟩
def mX6_digest : MeT := (RX6, cX6_digest, 5, (some .long), 4, 101, [], false)
theorem kX6_digest : YKv yX6_digest mX6_digest 0 := ⟨⟨⟨gd_mem (tb_6 11 (by decide +kernel)) (by decide +kernel), gd_mem (tb_1 7 (by decide +kernel)) (by decide +kernel), ⟨by decide +kernel, by decide +kernel, by decide +kernel⟩, by decide +kernel, rfl, rfl⟩, gd_mem (tb_6 9 (by decide +kernel)) (by decide +kernel)⟩, gd_mem (tb_6 10 (by decide +kernel)) (by decide +kernel)⟩
def mX6_digitAt : MeT := (RX6, cX6_digitAt, 2, (some .int), 2, 43, [], false)
theorem kX6_digitAt : YKv yX6_digitAt mX6_digitAt 1 := ⟨⟨⟨gd_mem (tb_5 207 (by decide +kernel)) (by decide +kernel), gd_mem (tb_1 7 (by decide +kernel)) (by decide +kernel), ⟨by decide +kernel, by decide +kernel, by decide +kernel⟩, by decide +kernel, rfl, rfl⟩, gd_mem (tb_5 205 (by decide +kernel)) (by decide +kernel)⟩, gd_mem (tb_5 206 (by decide +kernel)) (by decide +kernel)⟩
def mX6_does : MeT := (RX6, cX6_does, 2, none, 4, 92, [], false)
theorem kX6_does : YKv yX6_does mX6_does 1 := ⟨⟨⟨gd_mem (tb_5 93 (by decide +kernel)) (by decide +kernel), gd_mem (tb_1 7 (by decide +kernel)) (by decide +kernel), ⟨by decide +kernel, by decide +kernel, by decide +kernel⟩, by decide +kernel, rfl, rfl⟩, gd_mem (tb_5 92 (by decide +kernel)) (by decide +kernel)⟩, gd_mem (tb_0 49 (by decide +kernel)) (by decide +kernel)⟩
def mX6_errors : MeT := (RX6, cX6_errors, 1, (some .int), 3, 72, [], false)
theorem kX6_errors : YKv yX6_errors mX6_errors 0 := ⟨⟨⟨gd_mem (tb_5 223 (by decide +kernel)) (by decide +kernel), gd_mem (tb_1 7 (by decide +kernel)) (by decide +kernel), ⟨by decide +kernel, by decide +kernel, by decide +kernel⟩, by decide +kernel, rfl, rfl⟩, gd_mem (tb_5 221 (by decide +kernel)) (by decide +kernel)⟩, gd_mem (tb_5 222 (by decide +kernel)) (by decide +kernel)⟩
def mX6_firstError : MeT := (RX6, cX6_firstError, 1, (some .int), 5, 112, [], false)
theorem kX6_firstError : YKv yX6_firstError mX6_firstError 0 := ⟨⟨⟨gd_mem (tb_5 61 (by decide +kernel)) (by decide +kernel), gd_mem (tb_1 7 (by decide +kernel)) (by decide +kernel), ⟨by decide +kernel, by decide +kernel, by decide +kernel⟩, by decide +kernel, rfl, rfl⟩, gd_mem (tb_5 59 (by decide +kernel)) (by decide +kernel)⟩, gd_mem (tb_5 60 (by decide +kernel)) (by decide +kernel)⟩
def mX6_full : MeT := (RX6, cX6_full, 4, (some .int), 2, 46, [], false)
theorem kX6_full : YKs yX6_full mX6_full 1 := ⟨⟨gd_mem (tb_5 149 (by decide +kernel)) (by decide +kernel), gd_mem (tb_1 7 (by decide +kernel)) (by decide +kernel), ⟨by decide +kernel, by decide +kernel, by decide +kernel⟩, by decide +kernel, rfl, rfl⟩, gd_mem (tb_5 148 (by decide +kernel)) (by decide +kernel)⟩
def mX6_fullSet : MeT := (RX6, cX6_fullSet, 2, (some .int), 3, 69, [], false)
theorem kX6_fullSet : YKv yX6_fullSet mX6_fullSet 1 := ⟨⟨⟨gd_mem (tb_5 146 (by decide +kernel)) (by decide +kernel), gd_mem (tb_1 7 (by decide +kernel)) (by decide +kernel), ⟨by decide +kernel, by decide +kernel, by decide +kernel⟩, by decide +kernel, rfl, rfl⟩, gd_mem (tb_5 144 (by decide +kernel)) (by decide +kernel)⟩, gd_mem (tb_5 145 (by decide +kernel)) (by decide +kernel)⟩
def mX6_goes : MeT := (RX6, cX6_goes, 4, (some .boolean), 0, 0, [], false)
theorem kX6_goes : YKv yX6_goes mX6_goes 3 := ⟨⟨⟨gd_mem (tb_4 202 (by decide +kernel)) (by decide +kernel), gd_mem (tb_1 7 (by decide +kernel)) (by decide +kernel), ⟨by decide +kernel, by decide +kernel, by decide +kernel⟩, by decide +kernel, rfl, rfl⟩, gd_mem (tb_4 201 (by decide +kernel)) (by decide +kernel)⟩, gd_mem (tb_0 32 (by decide +kernel)) (by decide +kernel)⟩
def mX6_hasStopped : MeT := (RX6, cX6_hasStopped, 1, (some .boolean), 0, 0, [], false)
theorem kX6_hasStopped : YKv yX6_hasStopped mX6_hasStopped 0 := ⟨⟨⟨gd_mem (tb_5 97 (by decide +kernel)) (by decide +kernel), gd_mem (tb_1 7 (by decide +kernel)) (by decide +kernel), ⟨by decide +kernel, by decide +kernel, by decide +kernel⟩, by decide +kernel, rfl, rfl⟩, gd_mem (tb_5 95 (by decide +kernel)) (by decide +kernel)⟩, gd_mem (tb_5 96 (by decide +kernel)) (by decide +kernel)⟩
def mX6_hashOfStalls : MeT := (RX6, cX6_hashOfStalls, 9, (some .long), 3, 73, [], false)
theorem kX6_hashOfStalls : YKv yX6_hashOfStalls mX6_hashOfStalls 1 := ⟨⟨⟨gd_mem (tb_6 17 (by decide +kernel)) (by decide +kernel), gd_mem (tb_1 7 (by decide +kernel)) (by decide +kernel), ⟨by decide +kernel, by decide +kernel, by decide +kernel⟩, by decide +kernel, rfl, rfl⟩, gd_mem (tb_6 16 (by decide +kernel)) (by decide +kernel)⟩, gd_mem (tb_0 55 (by decide +kernel)) (by decide +kernel)⟩
def mX6_in : MeT := (RX6, cX6_in, 3, (some .boolean), 0, 0, [], false)
theorem kX6_in : YKs yX6_in mX6_in 3 := ⟨⟨gd_mem (tb_4 195 (by decide +kernel)) (by decide +kernel), gd_mem (tb_1 7 (by decide +kernel)) (by decide +kernel), ⟨by decide +kernel, by decide +kernel, by decide +kernel⟩, by decide +kernel, rfl, rfl⟩, gd_mem (tb_4 194 (by decide +kernel)) (by decide +kernel)⟩
def mX6_init : MeT := (RX6, cX6_init, 1, none, 1, 20, [], true)
theorem kX6_init : YKi yX6_init mX6_init 0 := ⟨⟨gd_mem (tb_4 137 (by decide +kernel)) (by decide +kernel), gd_mem (tb_1 7 (by decide +kernel)) (by decide +kernel), ⟨by decide +kernel, by decide +kernel, by decide +kernel⟩, by decide +kernel, rfl, rfl⟩, gd_mem (tb_4 136 (by decide +kernel)) (by decide +kernel)⟩
def mX6_isAt : MeT := (RX6, cX6_isAt, 3, (some .boolean), 1, 22, [], false)
theorem kX6_isAt : YKv yX6_isAt mX6_isAt 2 := ⟨⟨⟨gd_mem (tb_5 77 (by decide +kernel)) (by decide +kernel), gd_mem (tb_1 7 (by decide +kernel)) (by decide +kernel), ⟨by decide +kernel, by decide +kernel, by decide +kernel⟩, by decide +kernel, rfl, rfl⟩, gd_mem (tb_5 76 (by decide +kernel)) (by decide +kernel)⟩, gd_mem (tb_0 46 (by decide +kernel)) (by decide +kernel)⟩
def mX6_isDigit : MeT := (RX6, cX6_isDigit, 2, (some .boolean), 1, 22, [], false)
theorem kX6_isDigit : YKv yX6_isDigit mX6_isDigit 1 := ⟨⟨⟨gd_mem (tb_5 41 (by decide +kernel)) (by decide +kernel), gd_mem (tb_1 7 (by decide +kernel)) (by decide +kernel), ⟨by decide +kernel, by decide +kernel, by decide +kernel⟩, by decide +kernel, rfl, rfl⟩, gd_mem (tb_5 40 (by decide +kernel)) (by decide +kernel)⟩, gd_mem (tb_0 41 (by decide +kernel)) (by decide +kernel)⟩
def mX6_isNumber : MeT := (RX6, cX6_isNumber, 1, (some .boolean), 1, 22, [], false)
theorem kX6_isNumber : YKs yX6_isNumber mX6_isNumber 1 := ⟨⟨gd_mem (tb_4 198 (by decide +kernel)) (by decide +kernel), gd_mem (tb_1 7 (by decide +kernel)) (by decide +kernel), ⟨by decide +kernel, by decide +kernel, by decide +kernel⟩, by decide +kernel, rfl, rfl⟩, gd_mem (tb_4 197 (by decide +kernel)) (by decide +kernel)⟩
def mX6_isStall : MeT := (RX6, cX6_isStall, 1, (some .boolean), 1, 22, [], false)
theorem kX6_isStall : YKs yX6_isStall mX6_isStall 1 := ⟨⟨gd_mem (tb_4 192 (by decide +kernel)) (by decide +kernel), gd_mem (tb_1 7 (by decide +kernel)) (by decide +kernel), ⟨by decide +kernel, by decide +kernel, by decide +kernel⟩, by decide +kernel, rfl, rfl⟩, gd_mem (tb_4 191 (by decide +kernel)) (by decide +kernel)⟩
def mX6_isWhole : MeT := (RX6, cX6_isWhole, 3, (some .boolean), 4, 90, [], false)
theorem kX6_isWhole : YKv yX6_isWhole mX6_isWhole 0 := ⟨⟨⟨gd_mem (tb_5 65 (by decide +kernel)) (by decide +kernel), gd_mem (tb_1 7 (by decide +kernel)) (by decide +kernel), ⟨by decide +kernel, by decide +kernel, by decide +kernel⟩, by decide +kernel, rfl, rfl⟩, gd_mem (tb_5 64 (by decide +kernel)) (by decide +kernel)⟩, gd_mem (tb_0 43 (by decide +kernel)) (by decide +kernel)⟩
def mX6_keep : MeT := (RX6, cX6_keep, 1, (some .int), 1, 23, [], false)
theorem kX6_keep : YKv yX6_keep mX6_keep 0 := ⟨⟨⟨gd_mem (tb_5 113 (by decide +kernel)) (by decide +kernel), gd_mem (tb_1 7 (by decide +kernel)) (by decide +kernel), ⟨by decide +kernel, by decide +kernel, by decide +kernel⟩, by decide +kernel, rfl, rfl⟩, gd_mem (tb_5 111 (by decide +kernel)) (by decide +kernel)⟩, gd_mem (tb_5 112 (by decide +kernel)) (by decide +kernel)⟩
def mX6_looseDigits : MeT := (RX6, cX6_looseDigits, 1, (some .int), 3, 72, [], false)
theorem kX6_looseDigits : YKv yX6_looseDigits mX6_looseDigits 0 := ⟨⟨⟨gd_mem (tb_5 227 (by decide +kernel)) (by decide +kernel), gd_mem (tb_1 7 (by decide +kernel)) (by decide +kernel), ⟨by decide +kernel, by decide +kernel, by decide +kernel⟩, by decide +kernel, rfl, rfl⟩, gd_mem (tb_5 225 (by decide +kernel)) (by decide +kernel)⟩, gd_mem (tb_5 226 (by decide +kernel)) (by decide +kernel)⟩
def mX6_many : MeT := (RX6, cX6_many, 3, (some .int), 0, 0, [], false)
theorem kX6_many : YKs yX6_many mX6_many 1 := ⟨⟨gd_mem (tb_5 26 (by decide +kernel)) (by decide +kernel), gd_mem (tb_1 7 (by decide +kernel)) (by decide +kernel), ⟨by decide +kernel, by decide +kernel, by decide +kernel⟩, by decide +kernel, rfl, rfl⟩, gd_mem (tb_5 25 (by decide +kernel)) (by decide +kernel)⟩
def mX6_number : MeT := (RX6, cX6_number, 5, (some .int), 2, 44, [], false)
theorem kX6_number : YKv yX6_number mX6_number 2 := ⟨⟨⟨gd_mem (tb_5 81 (by decide +kernel)) (by decide +kernel), gd_mem (tb_1 7 (by decide +kernel)) (by decide +kernel), ⟨by decide +kernel, by decide +kernel, by decide +kernel⟩, by decide +kernel, rfl, rfl⟩, gd_mem (tb_5 80 (by decide +kernel)) (by decide +kernel)⟩, gd_mem (tb_0 47 (by decide +kernel)) (by decide +kernel)⟩
def mX6_numberOf : MeT := (RX6, cX6_numberOf, 2, (some .int), 2, 42, [], false)
theorem kX6_numberOf : YKv yX6_numberOf mX6_numberOf 1 := ⟨⟨⟨gd_mem (tb_5 175 (by decide +kernel)) (by decide +kernel), gd_mem (tb_1 7 (by decide +kernel)) (by decide +kernel), ⟨by decide +kernel, by decide +kernel, by decide +kernel⟩, by decide +kernel, rfl, rfl⟩, gd_mem (tb_5 173 (by decide +kernel)) (by decide +kernel)⟩, gd_mem (tb_5 174 (by decide +kernel)) (by decide +kernel)⟩
def mX6_part : MeT := (RX6, cX6_part, 3, (some .int), 3, 68, [], false)
theorem kX6_part : YKv yX6_part mX6_part 0 := ⟨⟨⟨gd_mem (tb_5 69 (by decide +kernel)) (by decide +kernel), gd_mem (tb_1 7 (by decide +kernel)) (by decide +kernel), ⟨by decide +kernel, by decide +kernel, by decide +kernel⟩, by decide +kernel, rfl, rfl⟩, gd_mem (tb_5 68 (by decide +kernel)) (by decide +kernel)⟩, gd_mem (tb_0 44 (by decide +kernel)) (by decide +kernel)⟩
def mX6_pay : MeT := (RX6, cX6_pay, 6, (some .int), 2, 44, [], false)
theorem kX6_pay : YKv yX6_pay mX6_pay 3 := ⟨⟨⟨gd_mem (tb_5 12 (by decide +kernel)) (by decide +kernel), gd_mem (tb_1 7 (by decide +kernel)) (by decide +kernel), ⟨by decide +kernel, by decide +kernel, by decide +kernel⟩, by decide +kernel, rfl, rfl⟩, gd_mem (tb_5 10 (by decide +kernel)) (by decide +kernel)⟩, gd_mem (tb_5 11 (by decide +kernel)) (by decide +kernel)⟩
def mX6_raise : MeT := (RX6, cX6_raise, 3, (some .int), 3, 68, [], false)
theorem kX6_raise : YKv yX6_raise mX6_raise 1 := ⟨⟨⟨gd_mem (tb_4 236 (by decide +kernel)) (by decide +kernel), gd_mem (tb_1 7 (by decide +kernel)) (by decide +kernel), ⟨by decide +kernel, by decide +kernel, by decide +kernel⟩, by decide +kernel, rfl, rfl⟩, gd_mem (tb_4 234 (by decide +kernel)) (by decide +kernel)⟩, gd_mem (tb_4 235 (by decide +kernel)) (by decide +kernel)⟩
def mX6_raised : MeT := (RX6, cX6_raised, 2, (some .int), 2, 47, [], false)
theorem kX6_raised : YKv yX6_raised mX6_raised 1 := ⟨⟨⟨gd_mem (tb_5 5 (by decide +kernel)) (by decide +kernel), gd_mem (tb_1 7 (by decide +kernel)) (by decide +kernel), ⟨by decide +kernel, by decide +kernel, by decide +kernel⟩, by decide +kernel, rfl, rfl⟩, gd_mem (tb_5 4 (by decide +kernel)) (by decide +kernel)⟩, gd_mem (tb_0 38 (by decide +kernel)) (by decide +kernel)⟩
def mX6_readAt : MeT := (RX6, cX6_readAt, 2, (some .int), 3, 72, [], false)
theorem kX6_readAt : YKv yX6_readAt mX6_readAt 1 := ⟨⟨⟨gd_mem (tb_5 219 (by decide +kernel)) (by decide +kernel), gd_mem (tb_1 7 (by decide +kernel)) (by decide +kernel), ⟨by decide +kernel, by decide +kernel, by decide +kernel⟩, by decide +kernel, rfl, rfl⟩, gd_mem (tb_5 217 (by decide +kernel)) (by decide +kernel)⟩, gd_mem (tb_5 218 (by decide +kernel)) (by decide +kernel)⟩
def mX6_readIfTurned : MeT := (RX6, cX6_readIfTurned, 2, (some .int), 4, 94, [], false)
theorem kX6_readIfTurned : YKv yX6_readIfTurned mX6_readIfTurned 1 := ⟨⟨⟨gd_mem (tb_5 231 (by decide +kernel)) (by decide +kernel), gd_mem (tb_1 7 (by decide +kernel)) (by decide +kernel), ⟨by decide +kernel, by decide +kernel, by decide +kernel⟩, by decide +kernel, rfl, rfl⟩, gd_mem (tb_5 229 (by decide +kernel)) (by decide +kernel)⟩, gd_mem (tb_5 230 (by decide +kernel)) (by decide +kernel)⟩
def mX6_readNumbers : MeT := (RX6, cX6_readNumbers, 1, (some .int), 3, 72, [], false)
theorem kX6_readNumbers : YKv yX6_readNumbers mX6_readNumbers 0 := ⟨⟨⟨gd_mem (tb_5 211 (by decide +kernel)) (by decide +kernel), gd_mem (tb_1 7 (by decide +kernel)) (by decide +kernel), ⟨by decide +kernel, by decide +kernel, by decide +kernel⟩, by decide +kernel, rfl, rfl⟩, gd_mem (tb_5 209 (by decide +kernel)) (by decide +kernel)⟩, gd_mem (tb_5 210 (by decide +kernel)) (by decide +kernel)⟩
def mX6_readTurned : MeT := (RX6, cX6_readTurned, 3, (some .int), 3, 72, [], false)
theorem kX6_readTurned : YKv yX6_readTurned mX6_readTurned 1 := ⟨⟨⟨gd_mem (tb_5 235 (by decide +kernel)) (by decide +kernel), gd_mem (tb_1 7 (by decide +kernel)) (by decide +kernel), ⟨by decide +kernel, by decide +kernel, by decide +kernel⟩, by decide +kernel, rfl, rfl⟩, gd_mem (tb_5 234 (by decide +kernel)) (by decide +kernel)⟩, gd_mem (tb_0 53 (by decide +kernel)) (by decide +kernel)⟩
def mX6_reads : MeT := (RX6, cX6_reads, 7, (some .int), 2, 46, [], false)
theorem kX6_reads : YKv yX6_reads mX6_reads 0 := ⟨⟨⟨gd_mem (tb_5 215 (by decide +kernel)) (by decide +kernel), gd_mem (tb_1 7 (by decide +kernel)) (by decide +kernel), ⟨by decide +kernel, by decide +kernel, by decide +kernel⟩, by decide +kernel, rfl, rfl⟩, gd_mem (tb_5 214 (by decide +kernel)) (by decide +kernel)⟩, gd_mem (tb_0 52 (by decide +kernel)) (by decide +kernel)⟩
def mX6_reason : MeT := (RX6, cX6_reason, 2, (some .int), 4, 89, [], false)
theorem kX6_reason : YKv yX6_reason mX6_reason 1 := ⟨⟨⟨gd_mem (tb_5 89 (by decide +kernel)) (by decide +kernel), gd_mem (tb_1 7 (by decide +kernel)) (by decide +kernel), ⟨by decide +kernel, by decide +kernel, by decide +kernel⟩, by decide +kernel, rfl, rfl⟩, gd_mem (tb_5 88 (by decide +kernel)) (by decide +kernel)⟩, gd_mem (tb_0 48 (by decide +kernel)) (by decide +kernel)⟩
def mX6_restore : MeT := (RX6, cX6_restore, 1, (some .int), 2, 44, [], false)
theorem kX6_restore : YKv yX6_restore mX6_restore 0 := ⟨⟨⟨gd_mem (tb_5 121 (by decide +kernel)) (by decide +kernel), gd_mem (tb_1 7 (by decide +kernel)) (by decide +kernel), ⟨by decide +kernel, by decide +kernel, by decide +kernel⟩, by decide +kernel, rfl, rfl⟩, gd_mem (tb_5 119 (by decide +kernel)) (by decide +kernel)⟩, gd_mem (tb_5 120 (by decide +kernel)) (by decide +kernel)⟩
def mX6_rich : MeT := (RX6, cX6_rich, 3, (some .int), 0, 0, [], false)
theorem kX6_rich : YKv yX6_rich mX6_rich 0 := ⟨⟨⟨gd_mem (tb_5 191 (by decide +kernel)) (by decide +kernel), gd_mem (tb_1 7 (by decide +kernel)) (by decide +kernel), ⟨by decide +kernel, by decide +kernel, by decide +kernel⟩, by decide +kernel, rfl, rfl⟩, gd_mem (tb_5 190 (by decide +kernel)) (by decide +kernel)⟩, gd_mem (tb_0 51 (by decide +kernel)) (by decide +kernel)⟩
def mX6_richest : MeT := (RX6, cX6_richest, 1, (some .int), 1, 22, [], false)
theorem kX6_richest : YKv yX6_richest mX6_richest 0 := ⟨⟨⟨gd_mem (tb_5 187 (by decide +kernel)) (by decide +kernel), gd_mem (tb_1 7 (by decide +kernel)) (by decide +kernel), ⟨by decide +kernel, by decide +kernel, by decide +kernel⟩, by decide +kernel, rfl, rfl⟩, gd_mem (tb_5 185 (by decide +kernel)) (by decide +kernel)⟩, gd_mem (tb_5 186 (by decide +kernel)) (by decide +kernel)⟩
def mX6_said : MeT := (RX6, cX6_said, 4, (some .int), 1, 24, [], false)
theorem kX6_said : YKs yX6_said mX6_said 1 := ⟨⟨gd_mem (tb_4 217 (by decide +kernel)) (by decide +kernel), gd_mem (tb_1 7 (by decide +kernel)) (by decide +kernel), ⟨by decide +kernel, by decide +kernel, by decide +kernel⟩, by decide +kernel, rfl, rfl⟩, gd_mem (tb_4 216 (by decide +kernel)) (by decide +kernel)⟩
def mX6_savedStates : MeT := (RX6, cX6_savedStates, 1, (some .int), 0, 0, [], false)
theorem kX6_savedStates : YKv yX6_savedStates mX6_savedStates 0 := ⟨⟨⟨gd_mem (tb_5 125 (by decide +kernel)) (by decide +kernel), gd_mem (tb_1 7 (by decide +kernel)) (by decide +kernel), ⟨by decide +kernel, by decide +kernel, by decide +kernel⟩, by decide +kernel, rfl, rfl⟩, gd_mem (tb_5 123 (by decide +kernel)) (by decide +kernel)⟩, gd_mem (tb_5 124 (by decide +kernel)) (by decide +kernel)⟩
def mX6_saves : MeT := (RX6, cX6_saves, 2, none, 1, 23, [], false)
theorem kX6_saves : YKv yX6_saves mX6_saves 0 := ⟨⟨⟨gd_mem (tb_4 206 (by decide +kernel)) (by decide +kernel), gd_mem (tb_1 7 (by decide +kernel)) (by decide +kernel), ⟨by decide +kernel, by decide +kernel, by decide +kernel⟩, by decide +kernel, rfl, rfl⟩, gd_mem (tb_4 205 (by decide +kernel)) (by decide +kernel)⟩, gd_mem (tb_0 33 (by decide +kernel)) (by decide +kernel)⟩
def mX6_say : MeT := (RX6, cX6_say, 2, (some .int), 2, 47, [], false)
theorem kX6_say : YKv yX6_say mX6_say 1 := ⟨⟨⟨gd_mem (tb_5 138 (by decide +kernel)) (by decide +kernel), gd_mem (tb_1 7 (by decide +kernel)) (by decide +kernel), ⟨by decide +kernel, by decide +kernel, by decide +kernel⟩, by decide +kernel, rfl, rfl⟩, gd_mem (tb_5 136 (by decide +kernel)) (by decide +kernel)⟩, gd_mem (tb_5 137 (by decide +kernel)) (by decide +kernel)⟩
def mX6_sayByCounting : MeT := (RX6, cX6_sayByCounting, 2, (some .int), 2, 47, [], false)
theorem kX6_sayByCounting : YKv yX6_sayByCounting mX6_sayByCounting 1 := ⟨⟨⟨gd_mem (tb_5 142 (by decide +kernel)) (by decide +kernel), gd_mem (tb_1 7 (by decide +kernel)) (by decide +kernel), ⟨by decide +kernel, by decide +kernel, by decide +kernel⟩, by decide +kernel, rfl, rfl⟩, gd_mem (tb_5 140 (by decide +kernel)) (by decide +kernel)⟩, gd_mem (tb_5 141 (by decide +kernel)) (by decide +kernel)⟩
def mX6_send : MeT := (RX6, cX6_send, 3, (some .int), 4, 92, [], false)
theorem kX6_send : YKv yX6_send mX6_send 1 := ⟨⟨⟨gd_mem (tb_5 16 (by decide +kernel)) (by decide +kernel), gd_mem (tb_1 7 (by decide +kernel)) (by decide +kernel), ⟨by decide +kernel, by decide +kernel, by decide +kernel⟩, by decide +kernel, rfl, rfl⟩, gd_mem (tb_5 14 (by decide +kernel)) (by decide +kernel)⟩, gd_mem (tb_5 15 (by decide +kernel)) (by decide +kernel)⟩
def mX6_sends : MeT := (RX6, cX6_sends, 5, (some .int), 3, 68, [], false)
theorem kX6_sends : YKv yX6_sends mX6_sends 1 := ⟨⟨⟨gd_mem (tb_5 33 (by decide +kernel)) (by decide +kernel), gd_mem (tb_1 7 (by decide +kernel)) (by decide +kernel), ⟨by decide +kernel, by decide +kernel, by decide +kernel⟩, by decide +kernel, rfl, rfl⟩, gd_mem (tb_5 32 (by decide +kernel)) (by decide +kernel)⟩, gd_mem (tb_0 40 (by decide +kernel)) (by decide +kernel)⟩
def mX6_set : MeT := (RX6, cX6_set, 4, (some .int), 2, 44, [], false)
theorem kX6_set : YKv yX6_set mX6_set 2 := ⟨⟨⟨gd_mem (tb_4 189 (by decide +kernel)) (by decide +kernel), gd_mem (tb_1 7 (by decide +kernel)) (by decide +kernel), ⟨by decide +kernel, by decide +kernel, by decide +kernel⟩, by decide +kernel, rfl, rfl⟩, gd_mem (tb_4 187 (by decide +kernel)) (by decide +kernel)⟩, gd_mem (tb_4 188 (by decide +kernel)) (by decide +kernel)⟩
def mX6_sign : MeT := (RX6, cX6_sign, 3, (some .boolean), 2, 44, [], false)
theorem kX6_sign : YKv yX6_sign mX6_sign 1 := ⟨⟨⟨gd_mem (tb_5 73 (by decide +kernel)) (by decide +kernel), gd_mem (tb_1 7 (by decide +kernel)) (by decide +kernel), ⟨by decide +kernel, by decide +kernel, by decide +kernel⟩, by decide +kernel, rfl, rfl⟩, gd_mem (tb_5 72 (by decide +kernel)) (by decide +kernel)⟩, gd_mem (tb_0 45 (by decide +kernel)) (by decide +kernel)⟩
def mX6_sparseShare : MeT := (RX6, cX6_sparseShare, 1, (some .double), 4, 92, [], false)
theorem kX6_sparseShare : YKv yX6_sparseShare mX6_sparseShare 0 := ⟨⟨⟨gd_mem (tb_6 3 (by decide +kernel)) (by decide +kernel), gd_mem (tb_1 7 (by decide +kernel)) (by decide +kernel), ⟨by decide +kernel, by decide +kernel, by decide +kernel⟩, by decide +kernel, rfl, rfl⟩, gd_mem (tb_6 1 (by decide +kernel)) (by decide +kernel)⟩, gd_mem (tb_6 2 (by decide +kernel)) (by decide +kernel)⟩
def mX6_spokenAt : MeT := (RX6, cX6_spokenAt, 5, (some .int), 2, 48, [], false)
theorem kX6_spokenAt : YKv yX6_spokenAt mX6_spokenAt 3 := ⟨⟨⟨gd_mem (tb_5 168 (by decide +kernel)) (by decide +kernel), gd_mem (tb_1 7 (by decide +kernel)) (by decide +kernel), ⟨by decide +kernel, by decide +kernel, by decide +kernel⟩, by decide +kernel, rfl, rfl⟩, gd_mem (tb_5 166 (by decide +kernel)) (by decide +kernel)⟩, gd_mem (tb_5 167 (by decide +kernel)) (by decide +kernel)⟩
def mX6_spokenLength : MeT := (RX6, cX6_spokenLength, 3, (some .int), 2, 47, [], false)
theorem kX6_spokenLength : YKv yX6_spokenLength mX6_spokenLength 2 := ⟨⟨⟨gd_mem (tb_5 164 (by decide +kernel)) (by decide +kernel), gd_mem (tb_1 7 (by decide +kernel)) (by decide +kernel), ⟨by decide +kernel, by decide +kernel, by decide +kernel⟩, by decide +kernel, rfl, rfl⟩, gd_mem (tb_5 162 (by decide +kernel)) (by decide +kernel)⟩, gd_mem (tb_5 163 (by decide +kernel)) (by decide +kernel)⟩
def mX6_step : MeT := (RX6, cX6_step, 6, (some .int), 0, 0, [], false)
theorem kX6_step : YKs yX6_step mX6_step 2 := ⟨⟨gd_mem (tb_5 29 (by decide +kernel)) (by decide +kernel), gd_mem (tb_1 7 (by decide +kernel)) (by decide +kernel), ⟨by decide +kernel, by decide +kernel, by decide +kernel⟩, by decide +kernel, rfl, rfl⟩, gd_mem (tb_5 28 (by decide +kernel)) (by decide +kernel)⟩
def mX6_stepsOf : MeT := (RX6, cX6_stepsOf, 2, (some .int), 2, 47, [], false)
theorem kX6_stepsOf : YKv yX6_stepsOf mX6_stepsOf 1 := ⟨⟨⟨gd_mem (tb_5 179 (by decide +kernel)) (by decide +kernel), gd_mem (tb_1 7 (by decide +kernel)) (by decide +kernel), ⟨by decide +kernel, by decide +kernel, by decide +kernel⟩, by decide +kernel, rfl, rfl⟩, gd_mem (tb_5 177 (by decide +kernel)) (by decide +kernel)⟩, gd_mem (tb_5 178 (by decide +kernel)) (by decide +kernel)⟩
def mX6_stoppedPart : MeT := (RX6, cX6_stoppedPart, 1, (some .int), 1, 23, [], false)
theorem kX6_stoppedPart : YKv yX6_stoppedPart mX6_stoppedPart 0 := ⟨⟨⟨gd_mem (tb_5 101 (by decide +kernel)) (by decide +kernel), gd_mem (tb_1 7 (by decide +kernel)) (by decide +kernel), ⟨by decide +kernel, by decide +kernel, by decide +kernel⟩, by decide +kernel, rfl, rfl⟩, gd_mem (tb_5 99 (by decide +kernel)) (by decide +kernel)⟩, gd_mem (tb_5 100 (by decide +kernel)) (by decide +kernel)⟩
def mX6_streamLength : MeT := (RX6, cX6_streamLength, 1, (some .int), 0, 0, [], false)
theorem kX6_streamLength : YKv yX6_streamLength mX6_streamLength 0 := ⟨⟨⟨gd_mem (tb_5 203 (by decide +kernel)) (by decide +kernel), gd_mem (tb_1 7 (by decide +kernel)) (by decide +kernel), ⟨by decide +kernel, by decide +kernel, by decide +kernel⟩, by decide +kernel, rfl, rfl⟩, gd_mem (tb_5 201 (by decide +kernel)) (by decide +kernel)⟩, gd_mem (tb_5 202 (by decide +kernel)) (by decide +kernel)⟩
def mX6_sum : MeT := (RX6, cX6_sum, 3, (some .int), 0, 0, [], false)
theorem kX6_sum : YKv yX6_sum mX6_sum 0 := ⟨⟨⟨gd_mem (tb_5 117 (by decide +kernel)) (by decide +kernel), gd_mem (tb_1 7 (by decide +kernel)) (by decide +kernel), ⟨by decide +kernel, by decide +kernel, by decide +kernel⟩, by decide +kernel, rfl, rfl⟩, gd_mem (tb_5 116 (by decide +kernel)) (by decide +kernel)⟩, gd_mem (tb_0 50 (by decide +kernel)) (by decide +kernel)⟩
def mX6_sumByCarries : MeT := (RX6, cX6_sumByCarries, 3, (some .int), 2, 47, [], false)
theorem kX6_sumByCarries : YKv yX6_sumByCarries mX6_sumByCarries 2 := ⟨⟨⟨gd_mem (tb_5 195 (by decide +kernel)) (by decide +kernel), gd_mem (tb_1 7 (by decide +kernel)) (by decide +kernel), ⟨by decide +kernel, by decide +kernel, by decide +kernel⟩, by decide +kernel, rfl, rfl⟩, gd_mem (tb_5 193 (by decide +kernel)) (by decide +kernel)⟩, gd_mem (tb_5 194 (by decide +kernel)) (by decide +kernel)⟩
def mX6_takeAway : MeT := (RX6, cX6_takeAway, 4, (some .int), 2, 44, [], false)
theorem kX6_takeAway : YKv yX6_takeAway mX6_takeAway 2 := ⟨⟨⟨gd_mem (tb_4 232 (by decide +kernel)) (by decide +kernel), gd_mem (tb_1 7 (by decide +kernel)) (by decide +kernel), ⟨by decide +kernel, by decide +kernel, by decide +kernel⟩, by decide +kernel, rfl, rfl⟩, gd_mem (tb_4 230 (by decide +kernel)) (by decide +kernel)⟩, gd_mem (tb_4 231 (by decide +kernel)) (by decide +kernel)⟩
def mX6_thrown : MeT := (RX6, cX6_thrown, 1, (some .int), 0, 0, [], false)
theorem kX6_thrown : YKv yX6_thrown mX6_thrown 0 := ⟨⟨⟨gd_mem (tb_4 185 (by decide +kernel)) (by decide +kernel), gd_mem (tb_1 7 (by decide +kernel)) (by decide +kernel), ⟨by decide +kernel, by decide +kernel, by decide +kernel⟩, by decide +kernel, rfl, rfl⟩, gd_mem (tb_4 183 (by decide +kernel)) (by decide +kernel)⟩, gd_mem (tb_4 184 (by decide +kernel)) (by decide +kernel)⟩
def mX6_total : MeT := (RX6, cX6_total, 1, (some .int), 1, 22, [], false)
theorem kX6_total : YKv yX6_total mX6_total 0 := ⟨⟨⟨gd_mem (tb_5 183 (by decide +kernel)) (by decide +kernel), gd_mem (tb_1 7 (by decide +kernel)) (by decide +kernel), ⟨by decide +kernel, by decide +kernel, by decide +kernel⟩, by decide +kernel, rfl, rfl⟩, gd_mem (tb_5 181 (by decide +kernel)) (by decide +kernel)⟩, gd_mem (tb_5 182 (by decide +kernel)) (by decide +kernel)⟩
def mX6_turn : MeT := (RX6, cX6_turn, 2, (some .int), 2, 44, [], false)
theorem kX6_turn : YKv yX6_turn mX6_turn 1 := ⟨⟨⟨gd_mem (tb_5 37 (by decide +kernel)) (by decide +kernel), gd_mem (tb_1 7 (by decide +kernel)) (by decide +kernel), ⟨by decide +kernel, by decide +kernel, by decide +kernel⟩, by decide +kernel, rfl, rfl⟩, gd_mem (tb_5 35 (by decide +kernel)) (by decide +kernel)⟩, gd_mem (tb_5 36 (by decide +kernel)) (by decide +kernel)⟩
def mX6_turns : MeT := (RX6, cX6_turns, 2, (some .int), 0, 0, [], false)
theorem kX6_turns : YKv yX6_turns mX6_turns 1 := ⟨⟨⟨gd_mem (tb_5 45 (by decide +kernel)) (by decide +kernel), gd_mem (tb_1 7 (by decide +kernel)) (by decide +kernel), ⟨by decide +kernel, by decide +kernel, by decide +kernel⟩, by decide +kernel, rfl, rfl⟩, gd_mem (tb_5 44 (by decide +kernel)) (by decide +kernel)⟩, gd_mem (tb_0 42 (by decide +kernel)) (by decide +kernel)⟩
def mX6_undo : MeT := (RX6, cX6_undo, 1, (some .int), 1, 23, [], false)
theorem kX6_undo : YKv yX6_undo mX6_undo 0 := ⟨⟨⟨gd_mem (tb_5 109 (by decide +kernel)) (by decide +kernel), gd_mem (tb_1 7 (by decide +kernel)) (by decide +kernel), ⟨by decide +kernel, by decide +kernel, by decide +kernel⟩, by decide +kernel, rfl, rfl⟩, gd_mem (tb_5 107 (by decide +kernel)) (by decide +kernel)⟩, gd_mem (tb_5 108 (by decide +kernel)) (by decide +kernel)⟩
def mX6_ways : MeT := (RX6, cX6_ways, 2, (some .int), 3, 73, [], false)
theorem kX6_ways : YKv yX6_ways mX6_ways 1 := ⟨⟨⟨gd_mem (tb_5 153 (by decide +kernel)) (by decide +kernel), gd_mem (tb_1 7 (by decide +kernel)) (by decide +kernel), ⟨by decide +kernel, by decide +kernel, by decide +kernel⟩, by decide +kernel, rfl, rfl⟩, gd_mem (tb_5 151 (by decide +kernel)) (by decide +kernel)⟩, gd_mem (tb_5 152 (by decide +kernel)) (by decide +kernel)⟩
def mX6_waysByGaps : MeT := (RX6, cX6_waysByGaps, 2, (some .int), 3, 73, [], false)
theorem kX6_waysByGaps : YKv yX6_waysByGaps mX6_waysByGaps 1 := ⟨⟨⟨gd_mem (tb_5 160 (by decide +kernel)) (by decide +kernel), gd_mem (tb_1 7 (by decide +kernel)) (by decide +kernel), ⟨by decide +kernel, by decide +kernel, by decide +kernel⟩, by decide +kernel, rfl, rfl⟩, gd_mem (tb_5 158 (by decide +kernel)) (by decide +kernel)⟩, gd_mem (tb_5 159 (by decide +kernel)) (by decide +kernel)⟩
def mX6_whyStopped : MeT := (RX6, cX6_whyStopped, 1, (some .int), 1, 23, [], false)
theorem kX6_whyStopped : YKv yX6_whyStopped mX6_whyStopped 0 := ⟨⟨⟨gd_mem (tb_5 105 (by decide +kernel)) (by decide +kernel), gd_mem (tb_1 7 (by decide +kernel)) (by decide +kernel), ⟨by decide +kernel, by decide +kernel, by decide +kernel⟩, by decide +kernel, rfl, rfl⟩, gd_mem (tb_5 103 (by decide +kernel)) (by decide +kernel)⟩, gd_mem (tb_5 104 (by decide +kernel)) (by decide +kernel)⟩
def mX6_word : MeT := (RX6, cX6_word, 4, (some .int), 1, 25, [], false)
theorem kX6_word : YKs yX6_word mX6_word 3 := ⟨⟨gd_mem (tb_5 171 (by decide +kernel)) (by decide +kernel), gd_mem (tb_1 7 (by decide +kernel)) (by decide +kernel), ⟨by decide +kernel, by decide +kernel, by decide +kernel⟩, by decide +kernel, rfl, rfl⟩, gd_mem (tb_5 170 (by decide +kernel)) (by decide +kernel)⟩
def mX6_work : MeT := (RX6, cX6_work, 4, (some .int), 5, 113, [], false)
theorem kX6_work : YKv yX6_work mX6_work 0 := ⟨⟨⟨gd_mem (tb_5 85 (by decide +kernel)) (by decide +kernel), gd_mem (tb_1 7 (by decide +kernel)) (by decide +kernel), ⟨by decide +kernel, by decide +kernel, by decide +kernel⟩, by decide +kernel, rfl, rfl⟩, gd_mem (tb_5 83 (by decide +kernel)) (by decide +kernel)⟩, gd_mem (tb_5 84 (by decide +kernel)) (by decide +kernel)⟩
def mX6_worth : MeT := (RX6, cX6_worth, 5, (some .int), 0, 0, [], false)
theorem kX6_worth : YKs yX6_worth mX6_worth 1 := ⟨⟨gd_mem (tb_4 220 (by decide +kernel)) (by decide +kernel), gd_mem (tb_1 7 (by decide +kernel)) (by decide +kernel), ⟨by decide +kernel, by decide +kernel, by decide +kernel⟩, by decide +kernel, rfl, rfl⟩, gd_mem (tb_4 219 (by decide +kernel)) (by decide +kernel)⟩
def mX6_worthOf : MeT := (RX6, cX6_worthOf, 2, (some .int), 1, 24, [], false)
theorem kX6_worthOf : YKv yX6_worthOf mX6_worthOf 1 := ⟨⟨⟨gd_mem (tb_5 129 (by decide +kernel)) (by decide +kernel), gd_mem (tb_1 7 (by decide +kernel)) (by decide +kernel), ⟨by decide +kernel, by decide +kernel, by decide +kernel⟩, by decide +kernel, rfl, rfl⟩, gd_mem (tb_5 127 (by decide +kernel)) (by decide +kernel)⟩, gd_mem (tb_5 128 (by decide +kernel)) (by decide +kernel)⟩
def mX6_worthOfSet : MeT := (RX6, cX6_worthOfSet, 2, (some .int), 2, 46, [], false)
theorem kX6_worthOfSet : YKv yX6_worthOfSet mX6_worthOfSet 1 := ⟨⟨⟨gd_mem (tb_5 133 (by decide +kernel)) (by decide +kernel), gd_mem (tb_1 7 (by decide +kernel)) (by decide +kernel), ⟨by decide +kernel, by decide +kernel, by decide +kernel⟩, by decide +kernel, rfl, rfl⟩, gd_mem (tb_5 131 (by decide +kernel)) (by decide +kernel)⟩, gd_mem (tb_5 132 (by decide +kernel)) (by decide +kernel)⟩
def mX6_worths : MeT := (RX6, cX6_worths, 3, (some .int), 1, 24, [], false)
theorem kX6_worths : YKs yX6_worths mX6_worths 1 := ⟨⟨gd_mem (tb_5 8 (by decide +kernel)) (by decide +kernel), gd_mem (tb_1 7 (by decide +kernel)) (by decide +kernel), ⟨by decide +kernel, by decide +kernel, by decide +kernel⟩, by decide +kernel, rfl, rfl⟩, gd_mem (tb_5 7 (by decide +kernel)) (by decide +kernel)⟩
theorem fX5_10 : FL RX5 10 5 0 := ⟨RX5, TX5, 12, rfl, by decide, gd_mem (tb_1 128 (by decide +kernel)) (by decide +kernel)⟩
theorem fX5_16 : FL RX5 16 5 1 := ⟨RX5, TX5, 12, rfl, by decide, gd_mem (tb_1 129 (by decide +kernel)) (by decide +kernel)⟩
theorem fX5_19 : FL RX5 19 5 3 := ⟨RX5, TX5, 12, rfl, by decide, gd_mem (tb_1 131 (by decide +kernel)) (by decide +kernel)⟩
theorem fX5_23 : FL RX5 23 5 5 := ⟨RX5, TX5, 12, rfl, by decide, gd_mem (tb_1 133 (by decide +kernel)) (by decide +kernel)⟩
theorem fX5_30 : FL RX5 30 5 7 := ⟨RX5, TX5, 12, rfl, by decide, gd_mem (tb_1 135 (by decide +kernel)) (by decide +kernel)⟩
theorem fX5_37 : FL RX5 37 5 8 := ⟨RX5, TX5, 12, rfl, by decide, gd_mem (tb_1 136 (by decide +kernel)) (by decide +kernel)⟩
theorem fX5_44 : FL RX5 44 5 9 := ⟨RX5, TX5, 12, rfl, by decide, gd_mem (tb_1 137 (by decide +kernel)) (by decide +kernel)⟩
theorem fX5_51 : FL RX5 51 5 10 := ⟨RX5, TX5, 12, rfl, by decide, gd_mem (tb_1 138 (by decide +kernel)) (by decide +kernel)⟩
theorem fX5_55 : FL RX5 55 5 11 := ⟨RX5, TX5, 12, rfl, by decide, gd_mem (tb_1 139 (by decide +kernel)) (by decide +kernel)⟩
theorem fX5_119 : FL RX5 119 2 2 := ⟨RX2, TX2, 5, rfl, by decide, gd_mem (tb_1 33 (by decide +kernel)) (by decide +kernel)⟩
theorem fX5_129 : FL RX5 129 2 1 := ⟨RX2, TX2, 5, rfl, by decide, gd_mem (tb_1 31 (by decide +kernel)) (by decide +kernel)⟩
theorem fX5_146 : FL RX5 146 5 6 := ⟨RX5, TX5, 12, rfl, by decide, gd_mem (tb_1 134 (by decide +kernel)) (by decide +kernel)⟩
theorem fX5_164 : FL RX5 164 2 3 := ⟨RX2, TX2, 5, rfl, by decide, gd_mem (tb_1 35 (by decide +kernel)) (by decide +kernel)⟩
theorem fX5_170 : FL RX5 170 2 4 := ⟨RX2, TX2, 5, rfl, by decide, gd_mem (tb_1 37 (by decide +kernel)) (by decide +kernel)⟩
theorem fX5_173 : FL RX5 173 5 4 := ⟨RX5, TX5, 12, rfl, by decide, gd_mem (tb_1 132 (by decide +kernel)) (by decide +kernel)⟩
theorem fX5_182 : FL RX5 182 5 2 := ⟨RX5, TX5, 12, rfl, by decide, gd_mem (tb_1 130 (by decide +kernel)) (by decide +kernel)⟩
theorem fX5_238 : FL RX5 238 1 1 := ⟨RX1, TX1, 4, rfl, by decide, gd_mem (tb_1 88 (by decide +kernel)) (by decide +kernel)⟩
theorem fX5_246 : FL RX5 246 1 2 := ⟨RX1, TX1, 4, rfl, by decide, gd_mem (tb_1 90 (by decide +kernel)) (by decide +kernel)⟩
theorem fX5_249 : FL RX5 249 1 3 := ⟨RX1, TX1, 4, rfl, by decide, gd_mem (tb_1 92 (by decide +kernel)) (by decide +kernel)⟩
theorem gX5_314 : Cond.fieldLink RX5 314 "ApartSteps" "WORTHS" "[I" ∈ lw_gd := gd_mem (tb_2 47 (by decide +kernel)) (by decide +kernel)
theorem fX5_354 : FL RX5 354 3 2 := ⟨RX3, TX3, 6, rfl, by decide, gd_mem (tb_1 61 (by decide +kernel)) (by decide +kernel)⟩
theorem fX5_357 : FL RX5 357 3 1 := ⟨RX3, TX3, 6, rfl, by decide, gd_mem (tb_1 59 (by decide +kernel)) (by decide +kernel)⟩
theorem fX5_361 : FL RX5 361 3 3 := ⟨RX3, TX3, 6, rfl, by decide, gd_mem (tb_1 63 (by decide +kernel)) (by decide +kernel)⟩
theorem fX0_9 : FL RX0 9 0 0 := ⟨RX0, TX0, 1, rfl, by decide, gd_mem (tb_1 108 (by decide +kernel)) (by decide +kernel)⟩
theorem fX1_9 : FL RX1 9 1 0 := ⟨RX1, TX1, 4, rfl, by decide, gd_mem (tb_1 86 (by decide +kernel)) (by decide +kernel)⟩
theorem fX1_15 : FL RX1 15 1 1 := ⟨RX1, TX1, 4, rfl, by decide, gd_mem (tb_1 87 (by decide +kernel)) (by decide +kernel)⟩
theorem fX1_19 : FL RX1 19 1 2 := ⟨RX1, TX1, 4, rfl, by decide, gd_mem (tb_1 89 (by decide +kernel)) (by decide +kernel)⟩
theorem fX1_30 : FL RX1 30 1 3 := ⟨RX1, TX1, 4, rfl, by decide, gd_mem (tb_1 91 (by decide +kernel)) (by decide +kernel)⟩
theorem fX2_9 : FL RX2 9 2 0 := ⟨RX2, TX2, 5, rfl, by decide, gd_mem (tb_1 29 (by decide +kernel)) (by decide +kernel)⟩
theorem fX2_15 : FL RX2 15 2 3 := ⟨RX2, TX2, 5, rfl, by decide, gd_mem (tb_1 34 (by decide +kernel)) (by decide +kernel)⟩
theorem fX2_19 : FL RX2 19 2 4 := ⟨RX2, TX2, 5, rfl, by decide, gd_mem (tb_1 36 (by decide +kernel)) (by decide +kernel)⟩
theorem fX2_30 : FL RX2 30 2 1 := ⟨RX2, TX2, 5, rfl, by decide, gd_mem (tb_1 30 (by decide +kernel)) (by decide +kernel)⟩
theorem fX2_34 : FL RX2 34 2 2 := ⟨RX2, TX2, 5, rfl, by decide, gd_mem (tb_1 32 (by decide +kernel)) (by decide +kernel)⟩
theorem fX3_11 : FL RX3 11 3 0 := ⟨RX3, TX3, 6, rfl, by decide, gd_mem (tb_1 57 (by decide +kernel)) (by decide +kernel)⟩
theorem fX3_41 : FL RX3 41 3 2 := ⟨RX3, TX3, 6, rfl, by decide, gd_mem (tb_1 60 (by decide +kernel)) (by decide +kernel)⟩
theorem fX3_44 : FL RX3 44 3 1 := ⟨RX3, TX3, 6, rfl, by decide, gd_mem (tb_1 58 (by decide +kernel)) (by decide +kernel)⟩
theorem fX3_48 : FL RX3 48 3 4 := ⟨RX3, TX3, 6, rfl, by decide, gd_mem (tb_1 64 (by decide +kernel)) (by decide +kernel)⟩
theorem fX3_51 : FL RX3 51 3 5 := ⟨RX3, TX3, 6, rfl, by decide, gd_mem (tb_1 65 (by decide +kernel)) (by decide +kernel)⟩
theorem fX3_54 : FL RX3 54 3 3 := ⟨RX3, TX3, 6, rfl, by decide, gd_mem (tb_1 62 (by decide +kernel)) (by decide +kernel)⟩
theorem fX4_7 : FL RX4 7 4 0 := ⟨RX4, TX4, 3, rfl, by decide, gd_mem (tb_1 118 (by decide +kernel)) (by decide +kernel)⟩
theorem fX4_13 : FL RX4 13 4 1 := ⟨RX4, TX4, 3, rfl, by decide, gd_mem (tb_1 119 (by decide +kernel)) (by decide +kernel)⟩
theorem fX4_16 : FL RX4 16 4 2 := ⟨RX4, TX4, 3, rfl, by decide, gd_mem (tb_1 120 (by decide +kernel)) (by decide +kernel)⟩
theorem fX6_7 : FL RX6 7 6 0 := ⟨RX6, TX6, 14, rfl, by decide, gd_mem (tb_4 139 (by decide +kernel)) (by decide +kernel)⟩
theorem fX6_13 : FL RX6 13 6 4 := ⟨RX6, TX6, 14, rfl, by decide, gd_mem (tb_4 143 (by decide +kernel)) (by decide +kernel)⟩
theorem fX6_16 : FL RX6 16 6 9 := ⟨RX6, TX6, 14, rfl, by decide, gd_mem (tb_4 148 (by decide +kernel)) (by decide +kernel)⟩
theorem fX6_19 : FL RX6 19 6 11 := ⟨RX6, TX6, 14, rfl, by decide, gd_mem (tb_4 150 (by decide +kernel)) (by decide +kernel)⟩
theorem fX6_22 : FL RX6 22 6 3 := ⟨RX6, TX6, 14, rfl, by decide, gd_mem (tb_4 142 (by decide +kernel)) (by decide +kernel)⟩
theorem fX6_26 : FL RX6 26 6 1 := ⟨RX6, TX6, 14, rfl, by decide, gd_mem (tb_4 140 (by decide +kernel)) (by decide +kernel)⟩
theorem fX6_50 : FL RX6 50 6 10 := ⟨RX6, TX6, 14, rfl, by decide, gd_mem (tb_4 149 (by decide +kernel)) (by decide +kernel)⟩
theorem fX6_99 : FL RX6 99 6 12 := ⟨RX6, TX6, 14, rfl, by decide, gd_mem (tb_4 151 (by decide +kernel)) (by decide +kernel)⟩
theorem fX6_102 : FL RX6 102 6 13 := ⟨RX6, TX6, 14, rfl, by decide, gd_mem (tb_4 152 (by decide +kernel)) (by decide +kernel)⟩
theorem fX6_105 : FL RX6 105 6 5 := ⟨RX6, TX6, 14, rfl, by decide, gd_mem (tb_4 144 (by decide +kernel)) (by decide +kernel)⟩
theorem fX6_108 : FL RX6 108 6 6 := ⟨RX6, TX6, 14, rfl, by decide, gd_mem (tb_4 145 (by decide +kernel)) (by decide +kernel)⟩
theorem fX6_121 : FL RX6 121 6 7 := ⟨RX6, TX6, 14, rfl, by decide, gd_mem (tb_4 146 (by decide +kernel)) (by decide +kernel)⟩
theorem fX6_124 : FL RX6 124 6 8 := ⟨RX6, TX6, 14, rfl, by decide, gd_mem (tb_4 147 (by decide +kernel)) (by decide +kernel)⟩
theorem fX6_142 : FL RX6 142 6 2 := ⟨RX6, TX6, 14, rfl, by decide, gd_mem (tb_4 141 (by decide +kernel)) (by decide +kernel)⟩
theorem lX5_1 : Cond.methodLink RX5 1 objectInit ∈ lw_gd := gd_mem (tb_1 20 (by decide +kernel)) (by decide +kernel)
theorem lX5_58 : Cond.methodLink RX5 58 yX5_checkStall ∈ lw_gd := gd_mem (tb_2 196 (by decide +kernel)) (by decide +kernel)
theorem lX5_62 : Cond.methodLink RX5 62 yX5_checkNumber ∈ lw_gd := gd_mem (tb_3 27 (by decide +kernel)) (by decide +kernel)
theorem lX5_65 : Cond.methodLink RX5 65 yX2_numberIn ∈ lw_gd := gd_mem (tb_2 18 (by decide +kernel)) (by decide +kernel)
theorem lX5_69 : Cond.methodLink RX5 69 yX5_saveNow ∈ lw_gd := gd_mem (tb_3 46 (by decide +kernel)) (by decide +kernel)
theorem lX5_72 : Cond.methodLink RX5 72 yX2_give ∈ lw_gd := gd_mem (tb_3 54 (by decide +kernel)) (by decide +kernel)
theorem lX5_83 : Cond.methodLink RX5 83 yX5_carryStalls ∈ lw_gd := gd_mem (tb_2 124 (by decide +kernel)) (by decide +kernel)
theorem lX5_89 : Cond.methodLink RX5 89 yX5_greedyMark ∈ lw_gd := gd_mem (tb_2 61 (by decide +kernel)) (by decide +kernel)
theorem lX5_92 : Cond.methodLink RX5 92 yX5_canRaise ∈ lw_gd := gd_mem (tb_3 94 (by decide +kernel)) (by decide +kernel)
theorem lX5_98 : Cond.methodLink RX5 98 yX5_raisedWorth ∈ lw_gd := gd_mem (tb_3 98 (by decide +kernel)) (by decide +kernel)
theorem lX5_101 : Cond.methodLink RX5 101 yX5_checkNumberFromOne ∈ lw_gd := gd_mem (tb_3 109 (by decide +kernel)) (by decide +kernel)
theorem lX5_111 : Cond.methodLink RX5 111 yX2_hasRoomFor ∈ lw_gd := gd_mem (tb_3 122 (by decide +kernel)) (by decide +kernel)
theorem lX5_116 : Cond.methodLink RX5 116 yX2_putCode ∈ lw_gd := gd_mem (tb_3 131 (by decide +kernel)) (by decide +kernel)
theorem lX5_123 : Cond.methodLink RX5 123 yX5_checkDigit ∈ lw_gd := gd_mem (tb_3 142 (by decide +kernel)) (by decide +kernel)
theorem lX5_126 : Cond.methodLink RX5 126 yX2_turnDigit ∈ lw_gd := gd_mem (tb_3 147 (by decide +kernel)) (by decide +kernel)
theorem lX5_133 : Cond.methodLink RX5 133 yX5_digitOf ∈ lw_gd := gd_mem (tb_2 163 (by decide +kernel)) (by decide +kernel)
theorem lX5_141 : Cond.methodLink RX5 141 yX2_dropFirst ∈ lw_gd := gd_mem (tb_3 160 (by decide +kernel)) (by decide +kernel)
theorem lX5_151 : Cond.methodLink RX5 151 yX5_scanText ∈ lw_gd := gd_mem (tb_1 173 (by decide +kernel)) (by decide +kernel)
theorem lX5_155 : Cond.methodLink RX5 155 yX3_isComplete ∈ lw_gd := gd_mem (tb_3 180 (by decide +kernel)) (by decide +kernel)
theorem lX5_161 : Cond.methodLink RX5 161 yX5_doParts ∈ lw_gd := gd_mem (tb_3 185 (by decide +kernel)) (by decide +kernel)
theorem lX5_167 : Cond.methodLink RX5 167 yX5_checkStopped ∈ lw_gd := gd_mem (tb_3 216 (by decide +kernel)) (by decide +kernel)
theorem lX5_178 : Cond.methodLink RX5 178 yX5_copyState ∈ lw_gd := gd_mem (tb_1 227 (by decide +kernel)) (by decide +kernel)
theorem lX5_186 : Cond.methodLink RX5 186 yX2_sum ∈ lw_gd := gd_mem (tb_2 2 (by decide +kernel)) (by decide +kernel)
theorem lX5_196 : Cond.methodLink RX5 196 yX5_worth ∈ lw_gd := gd_mem (tb_2 44 (by decide +kernel)) (by decide +kernel)
theorem lX5_202 : Cond.methodLink RX5 202 yX5_worthOfMark ∈ lw_gd := gd_mem (tb_3 101 (by decide +kernel)) (by decide +kernel)
theorem lX5_205 : Cond.methodLink RX5 205 yX5_countedMark ∈ lw_gd := gd_mem (tb_2 156 (by decide +kernel)) (by decide +kernel)
theorem lX5_208 : Cond.methodLink RX5 208 yX5_fullMark ∈ lw_gd := gd_mem (tb_2 70 (by decide +kernel)) (by decide +kernel)
theorem lX5_211 : Cond.methodLink RX5 211 yX5_waysInTable ∈ lw_gd := gd_mem (tb_2 92 (by decide +kernel)) (by decide +kernel)
theorem lX5_214 : Cond.methodLink RX5 214 yX5_waysOfMark ∈ lw_gd := gd_mem (tb_2 115 (by decide +kernel)) (by decide +kernel)
theorem lX5_217 : Cond.methodLink RX5 217 yX5_checkTribe ∈ lw_gd := gd_mem (tb_4 63 (by decide +kernel)) (by decide +kernel)
theorem lX5_220 : Cond.methodLink RX5 220 yJ6_bitCount_0f7a4 ∈ lw_gd := gd_mem (tb_2 64 (by decide +kernel)) (by decide +kernel)
theorem lX5_227 : Cond.methodLink RX5 227 yX5_wordAt ∈ lw_gd := gd_mem (tb_2 118 (by decide +kernel)) (by decide +kernel)
theorem lX5_231 : Cond.methodLink RX5 231 yX0_toMark ∈ lw_gd := gd_mem (tb_2 152 (by decide +kernel)) (by decide +kernel)
theorem lX5_234 : Cond.methodLink RX5 234 yX1_readAll ∈ lw_gd := gd_mem (tb_2 27 (by decide +kernel)) (by decide +kernel)
theorem lX5_243 : Cond.methodLink RX5 243 yX1_numberAt ∈ lw_gd := gd_mem (tb_2 164 (by decide +kernel)) (by decide +kernel)
theorem lX5_252 : Cond.methodLink RX5 252 yX5_countIfTurned ∈ lw_gd := gd_mem (tb_2 168 (by decide +kernel)) (by decide +kernel)
theorem lX5_255 : Cond.methodLink RX5 255 yX5_lengthOfCode ∈ lw_gd := gd_mem (tb_4 132 (by decide +kernel)) (by decide +kernel)
theorem lX5_260 : Cond.methodLink RX5 260 yX5_total ∈ lw_gd := gd_mem (tb_2 81 (by decide +kernel)) (by decide +kernel)
theorem lX5_263 : Cond.methodLink RX5 263 yX5_mix ∈ lw_gd := gd_mem (tb_2 82 (by decide +kernel)) (by decide +kernel)
theorem lX5_267 : Cond.methodLink RX5 267 yX5_richest ∈ lw_gd := gd_mem (tb_2 86 (by decide +kernel)) (by decide +kernel)
theorem lX5_270 : Cond.methodLink RX5 270 yX5_savedStates ∈ lw_gd := gd_mem (tb_2 87 (by decide +kernel)) (by decide +kernel)
theorem lX5_273 : Cond.methodLink RX5 273 yX5_mixNumber ∈ lw_gd := gd_mem (tb_2 88 (by decide +kernel)) (by decide +kernel)
theorem lX5_277 : Cond.methodLink RX5 277 yX5_mixStream ∈ lw_gd := gd_mem (tb_2 159 (by decide +kernel)) (by decide +kernel)
theorem lX5_281 : Cond.methodLink RX5 281 yX5_mixStop ∈ lw_gd := gd_mem (tb_2 172 (by decide +kernel)) (by decide +kernel)
theorem lX5_284 : Cond.methodLink RX5 284 yX5_sparseShare ∈ lw_gd := gd_mem (tb_2 176 (by decide +kernel)) (by decide +kernel)
theorem lX5_288 : Cond.methodLink RX5 288 yX5_bitsOfShare ∈ lw_gd := gd_mem (tb_2 177 (by decide +kernel)) (by decide +kernel)
theorem lX5_292 : Cond.methodLink RX5 292 yX5_mixText ∈ lw_gd := gd_mem (tb_2 183 (by decide +kernel)) (by decide +kernel)
theorem lX5_307 : Cond.methodLink RX5 307 yX5_dropOldest ∈ lw_gd := gd_mem (tb_3 50 (by decide +kernel)) (by decide +kernel)
theorem lX5_310 : Cond.methodLink RX5 310 yX2_copyOf ∈ lw_gd := gd_mem (tb_1 230 (by decide +kernel)) (by decide +kernel)
theorem lX5_318 : Cond.methodLink RX5 318 yX5_hasStep ∈ lw_gd := gd_mem (tb_2 41 (by decide +kernel)) (by decide +kernel)
theorem lX5_322 : Cond.methodLink RX5 322 yX5_worthBelow ∈ lw_gd := gd_mem (tb_2 73 (by decide +kernel)) (by decide +kernel)
theorem lX5_325 : Cond.methodLink RX5 325 yX4_clear ∈ lw_gd := gd_mem (tb_2 96 (by decide +kernel)) (by decide +kernel)
theorem lX5_328 : Cond.methodLink RX5 328 yX4_put ∈ lw_gd := gd_mem (tb_2 100 (by decide +kernel)) (by decide +kernel)
theorem lX5_331 : Cond.methodLink RX5 331 yX4_goOn ∈ lw_gd := gd_mem (tb_2 104 (by decide +kernel)) (by decide +kernel)
theorem lX5_335 : Cond.methodLink RX5 335 yX4_countOf ∈ lw_gd := gd_mem (tb_2 111 (by decide +kernel)) (by decide +kernel)
theorem lX5_338 : Cond.methodLink RX5 338 yX5_stepFromLowest ∈ lw_gd := gd_mem (tb_2 121 (by decide +kernel)) (by decide +kernel)
theorem lX5_341 : Cond.methodLink RX5 341 yX0_carryAll ∈ lw_gd := gd_mem (tb_2 128 (by decide +kernel)) (by decide +kernel)
theorem lX5_344 : Cond.methodLink RX5 344 yX3_start ∈ lw_gd := gd_mem (tb_1 177 (by decide +kernel)) (by decide +kernel)
theorem lX5_347 : Cond.methodLink RX5 347 yX3_take ∈ lw_gd := gd_mem (tb_1 181 (by decide +kernel)) (by decide +kernel)
theorem lX5_351 : Cond.methodLink RX5 351 yX5_doPart ∈ lw_gd := gd_mem (tb_3 189 (by decide +kernel)) (by decide +kernel)
theorem lX5_364 : Cond.methodLink RX5 364 yX5_giveIfFits ∈ lw_gd := gd_mem (tb_3 193 (by decide +kernel)) (by decide +kernel)
theorem lX5_367 : Cond.methodLink RX5 367 yX5_doRaise ∈ lw_gd := gd_mem (tb_3 197 (by decide +kernel)) (by decide +kernel)
theorem lX5_370 : Cond.methodLink RX5 370 yX5_doSend ∈ lw_gd := gd_mem (tb_3 201 (by decide +kernel)) (by decide +kernel)
theorem lX5_373 : Cond.methodLink RX5 373 yX5_doTurn ∈ lw_gd := gd_mem (tb_3 205 (by decide +kernel)) (by decide +kernel)
theorem lX0_1 : Cond.methodLink RX0 1 objectInit ∈ lw_gd := gd_mem (tb_1 107 (by decide +kernel)) (by decide +kernel)
theorem lX0_13 : Cond.methodLink RX0 13 yX0_firstToCarry ∈ lw_gd := gd_mem (tb_2 132 (by decide +kernel)) (by decide +kernel)
theorem lX0_17 : Cond.methodLink RX0 17 yX0_carryAt ∈ lw_gd := gd_mem (tb_2 144 (by decide +kernel)) (by decide +kernel)
theorem lX0_21 : Cond.methodLink RX0 21 yX0_countOf ∈ lw_gd := gd_mem (tb_2 140 (by decide +kernel)) (by decide +kernel)
theorem lX0_25 : Cond.methodLink RX0 25 yX0_countsWithNext ∈ lw_gd := gd_mem (tb_2 136 (by decide +kernel)) (by decide +kernel)
theorem lX0_29 : Cond.methodLink RX0 29 yX0_change ∈ lw_gd := gd_mem (tb_2 148 (by decide +kernel)) (by decide +kernel)
theorem lX1_3 : Cond.methodLink RX1 3 objectInit ∈ lw_gd := gd_mem (tb_1 85 (by decide +kernel)) (by decide +kernel)
theorem lX1_26 : Cond.methodLink RX1 26 yX1_endNumber ∈ lw_gd := gd_mem (tb_2 34 (by decide +kernel)) (by decide +kernel)
theorem lX2_3 : Cond.methodLink RX2 3 objectInit ∈ lw_gd := gd_mem (tb_1 28 (by decide +kernel)) (by decide +kernel)
theorem lX2_22 : Cond.methodLink RX2 22 yX2_numberIn ∈ lw_gd := gd_mem (tb_1 234 (by decide +kernel)) (by decide +kernel)
theorem lX2_26 : Cond.methodLink RX2 26 yX2_give ∈ lw_gd := gd_mem (tb_1 238 (by decide +kernel)) (by decide +kernel)
theorem lX3_3 : Cond.methodLink RX3 3 objectInit ∈ lw_gd := gd_mem (tb_1 56 (by decide +kernel)) (by decide +kernel)
theorem lX3_15 : Cond.methodLink RX3 15 yX3_takeBegin ∈ lw_gd := gd_mem (tb_1 185 (by decide +kernel)) (by decide +kernel)
theorem lX3_19 : Cond.methodLink RX3 19 yX3_takeOperation ∈ lw_gd := gd_mem (tb_1 196 (by decide +kernel)) (by decide +kernel)
theorem lX3_22 : Cond.methodLink RX3 22 yX3_takeOtherStall ∈ lw_gd := gd_mem (tb_1 200 (by decide +kernel)) (by decide +kernel)
theorem lX3_25 : Cond.methodLink RX3 25 yX3_takeFirstDigit ∈ lw_gd := gd_mem (tb_1 204 (by decide +kernel)) (by decide +kernel)
theorem lX3_28 : Cond.methodLink RX3 28 yX3_takeDigit ∈ lw_gd := gd_mem (tb_1 211 (by decide +kernel)) (by decide +kernel)
theorem lX3_31 : Cond.methodLink RX3 31 yX3_takeSeparator ∈ lw_gd := gd_mem (tb_1 215 (by decide +kernel)) (by decide +kernel)
theorem lX3_34 : Cond.methodLink RX3 34 yX3_expectNumber ∈ lw_gd := gd_mem (tb_1 189 (by decide +kernel)) (by decide +kernel)
theorem lX3_38 : Cond.methodLink RX3 38 yX3_isStall ∈ lw_gd := gd_mem (tb_1 193 (by decide +kernel)) (by decide +kernel)
theorem lX3_57 : Cond.methodLink RX3 57 yX3_isDigit ∈ lw_gd := gd_mem (tb_1 208 (by decide +kernel)) (by decide +kernel)
theorem lX4_1 : Cond.methodLink RX4 1 objectInit ∈ lw_gd := gd_mem (tb_1 117 (by decide +kernel)) (by decide +kernel)
theorem lX4_26 : Cond.methodLink RX4 26 yX4_put ∈ lw_gd := gd_mem (tb_2 109 (by decide +kernel)) (by decide +kernel)
theorem lL_7 : Cond.methodLink RL 7 yX5_set ∈ lw_gd := gd_mem (tb_2 192 (by decide +kernel)) (by decide +kernel)
theorem lL_17 : Cond.methodLink RL 17 yX5_add ∈ lw_gd := gd_mem (tb_3 59 (by decide +kernel)) (by decide +kernel)
theorem lL_22 : Cond.methodLink RL 22 yX5_takeAway ∈ lw_gd := gd_mem (tb_3 82 (by decide +kernel)) (by decide +kernel)
theorem lL_25 : Cond.methodLink RL 25 yX5_raise ∈ lw_gd := gd_mem (tb_3 90 (by decide +kernel)) (by decide +kernel)
theorem lL_29 : Cond.methodLink RL 29 yX5_pay ∈ lw_gd := gd_mem (tb_3 105 (by decide +kernel)) (by decide +kernel)
theorem lL_33 : Cond.methodLink RL 33 yX5_send ∈ lw_gd := gd_mem (tb_3 118 (by decide +kernel)) (by decide +kernel)
theorem lL_36 : Cond.methodLink RL 36 yX5_turn ∈ lw_gd := gd_mem (tb_3 138 (by decide +kernel)) (by decide +kernel)
theorem lL_39 : Cond.methodLink RL 39 yX5_cut ∈ lw_gd := gd_mem (tb_3 154 (by decide +kernel)) (by decide +kernel)
theorem lL_42 : Cond.methodLink RL 42 yX5_append ∈ lw_gd := gd_mem (tb_3 167 (by decide +kernel)) (by decide +kernel)
theorem lL_45 : Cond.methodLink RL 45 yX5_work ∈ lw_gd := gd_mem (tb_3 176 (by decide +kernel)) (by decide +kernel)
theorem lL_49 : Cond.methodLink RL 49 yX5_stoppedPart ∈ lw_gd := gd_mem (tb_3 212 (by decide +kernel)) (by decide +kernel)
theorem lL_52 : Cond.methodLink RL 52 yX5_whyStopped ∈ lw_gd := gd_mem (tb_3 224 (by decide +kernel)) (by decide +kernel)
theorem lL_55 : Cond.methodLink RL 55 yX5_undo ∈ lw_gd := gd_mem (tb_3 231 (by decide +kernel)) (by decide +kernel)
theorem lL_58 : Cond.methodLink RL 58 yX5_restore ∈ lw_gd := gd_mem (tb_3 239 (by decide +kernel)) (by decide +kernel)
theorem lL_61 : Cond.methodLink RL 61 yX5_worthOf ∈ lw_gd := gd_mem (tb_4 7 (by decide +kernel)) (by decide +kernel)
theorem lL_64 : Cond.methodLink RL 64 yX5_worthOfSet ∈ lw_gd := gd_mem (tb_4 15 (by decide +kernel)) (by decide +kernel)
theorem lL_67 : Cond.methodLink RL 67 yX5_say ∈ lw_gd := gd_mem (tb_4 24 (by decide +kernel)) (by decide +kernel)
theorem lL_70 : Cond.methodLink RL 70 yX5_sayByCounting ∈ lw_gd := gd_mem (tb_4 31 (by decide +kernel)) (by decide +kernel)
theorem lL_73 : Cond.methodLink RL 73 yX5_fullSet ∈ lw_gd := gd_mem (tb_4 38 (by decide +kernel)) (by decide +kernel)
theorem lL_76 : Cond.methodLink RL 76 yX5_ways ∈ lw_gd := gd_mem (tb_4 45 (by decide +kernel)) (by decide +kernel)
theorem lL_79 : Cond.methodLink RL 79 yX5_waysByGaps ∈ lw_gd := gd_mem (tb_4 52 (by decide +kernel)) (by decide +kernel)
theorem lL_82 : Cond.methodLink RL 82 yX5_spokenLength ∈ lw_gd := gd_mem (tb_4 59 (by decide +kernel)) (by decide +kernel)
theorem lL_85 : Cond.methodLink RL 85 yX5_spokenAt ∈ lw_gd := gd_mem (tb_4 70 (by decide +kernel)) (by decide +kernel)
theorem lL_88 : Cond.methodLink RL 88 yX5_numberOf ∈ lw_gd := gd_mem (tb_4 78 (by decide +kernel)) (by decide +kernel)
theorem lL_91 : Cond.methodLink RL 91 yX5_stepsOf ∈ lw_gd := gd_mem (tb_4 85 (by decide +kernel)) (by decide +kernel)
theorem lL_94 : Cond.methodLink RL 94 yX5_sumByCarries ∈ lw_gd := gd_mem (tb_4 92 (by decide +kernel)) (by decide +kernel)
theorem lL_97 : Cond.methodLink RL 97 yX5_carries ∈ lw_gd := gd_mem (tb_4 99 (by decide +kernel)) (by decide +kernel)
theorem lL_100 : Cond.methodLink RL 100 yX5_digitAt ∈ lw_gd := gd_mem (tb_4 106 (by decide +kernel)) (by decide +kernel)
theorem lL_103 : Cond.methodLink RL 103 yX5_readAt ∈ lw_gd := gd_mem (tb_4 113 (by decide +kernel)) (by decide +kernel)
theorem lL_106 : Cond.methodLink RL 106 yX5_readIfTurned ∈ lw_gd := gd_mem (tb_4 121 (by decide +kernel)) (by decide +kernel)
theorem lL_109 : Cond.methodLink RL 109 yX5_codeLength ∈ lw_gd := gd_mem (tb_4 128 (by decide +kernel)) (by decide +kernel)
theorem lL_112 : Cond.methodLink RL 112 yX5_init ∈ lw_gd := gd_mem (tb_1 17 (by decide +kernel)) (by decide +kernel)
theorem lL_115 : Cond.methodLink RL 115 yX6_init ∈ lw_gd := gd_mem (tb_4 135 (by decide +kernel)) (by decide +kernel)
theorem lL_116 : Cond.methodLink RL 116 yL_set ∈ lw_gd := gd_mem (tb_2 187 (by decide +kernel)) (by decide +kernel)
theorem lL_121 : Cond.methodLink RL 121 yX6_set ∈ lw_gd := gd_mem (tb_4 186 (by decide +kernel)) (by decide +kernel)
theorem lL_122 : Cond.methodLink RL 122 yX6_thrown ∈ lw_gd := gd_mem (tb_4 182 (by decide +kernel)) (by decide +kernel)
theorem lL_125 : Cond.methodLink RL 125 yL_add ∈ lw_gd := gd_mem (tb_3 55 (by decide +kernel)) (by decide +kernel)
theorem lL_127 : Cond.methodLink RL 127 yX6_add ∈ lw_gd := gd_mem (tb_4 211 (by decide +kernel)) (by decide +kernel)
theorem lL_128 : Cond.methodLink RL 128 yL_takeAway ∈ lw_gd := gd_mem (tb_3 79 (by decide +kernel)) (by decide +kernel)
theorem lL_130 : Cond.methodLink RL 130 yX6_takeAway ∈ lw_gd := gd_mem (tb_4 229 (by decide +kernel)) (by decide +kernel)
theorem lL_131 : Cond.methodLink RL 131 yL_raise ∈ lw_gd := gd_mem (tb_3 87 (by decide +kernel)) (by decide +kernel)
theorem lL_134 : Cond.methodLink RL 134 yX6_raise ∈ lw_gd := gd_mem (tb_4 233 (by decide +kernel)) (by decide +kernel)
theorem lL_135 : Cond.methodLink RL 135 yL_pay ∈ lw_gd := gd_mem (tb_3 102 (by decide +kernel)) (by decide +kernel)
theorem lL_138 : Cond.methodLink RL 138 yX6_pay ∈ lw_gd := gd_mem (tb_5 9 (by decide +kernel)) (by decide +kernel)
theorem lL_139 : Cond.methodLink RL 139 yL_send ∈ lw_gd := gd_mem (tb_3 115 (by decide +kernel)) (by decide +kernel)
theorem lL_141 : Cond.methodLink RL 141 yX6_send ∈ lw_gd := gd_mem (tb_5 13 (by decide +kernel)) (by decide +kernel)
theorem lL_142 : Cond.methodLink RL 142 yL_turn ∈ lw_gd := gd_mem (tb_3 135 (by decide +kernel)) (by decide +kernel)
theorem lL_144 : Cond.methodLink RL 144 yX6_turn ∈ lw_gd := gd_mem (tb_5 34 (by decide +kernel)) (by decide +kernel)
theorem lL_145 : Cond.methodLink RL 145 yL_cut ∈ lw_gd := gd_mem (tb_3 151 (by decide +kernel)) (by decide +kernel)
theorem lL_147 : Cond.methodLink RL 147 yX6_cut ∈ lw_gd := gd_mem (tb_5 46 (by decide +kernel)) (by decide +kernel)
theorem lL_148 : Cond.methodLink RL 148 yL_append ∈ lw_gd := gd_mem (tb_3 164 (by decide +kernel)) (by decide +kernel)
theorem lL_150 : Cond.methodLink RL 150 yX6_append ∈ lw_gd := gd_mem (tb_5 50 (by decide +kernel)) (by decide +kernel)
theorem lL_151 : Cond.methodLink RL 151 yX5_clearBuffer ∈ lw_gd := gd_mem (tb_1 165 (by decide +kernel)) (by decide +kernel)
theorem lL_154 : Cond.methodLink RL 154 yX6_clearBuffer ∈ lw_gd := gd_mem (tb_5 54 (by decide +kernel)) (by decide +kernel)
theorem lL_155 : Cond.methodLink RL 155 yX5_firstError ∈ lw_gd := gd_mem (tb_1 169 (by decide +kernel)) (by decide +kernel)
theorem lL_158 : Cond.methodLink RL 158 yX6_firstError ∈ lw_gd := gd_mem (tb_5 58 (by decide +kernel)) (by decide +kernel)
theorem lL_159 : Cond.methodLink RL 159 yL_work ∈ lw_gd := gd_mem (tb_3 173 (by decide +kernel)) (by decide +kernel)
theorem lL_162 : Cond.methodLink RL 162 yX6_work ∈ lw_gd := gd_mem (tb_5 82 (by decide +kernel)) (by decide +kernel)
theorem lL_163 : Cond.methodLink RL 163 yX5_hasStopped ∈ lw_gd := gd_mem (tb_1 219 (by decide +kernel)) (by decide +kernel)
theorem lL_167 : Cond.methodLink RL 167 yX6_hasStopped ∈ lw_gd := gd_mem (tb_5 94 (by decide +kernel)) (by decide +kernel)
theorem lL_168 : Cond.methodLink RL 168 yL_stoppedPart ∈ lw_gd := gd_mem (tb_3 209 (by decide +kernel)) (by decide +kernel)
theorem lL_170 : Cond.methodLink RL 170 yX6_stoppedPart ∈ lw_gd := gd_mem (tb_5 98 (by decide +kernel)) (by decide +kernel)
theorem lL_171 : Cond.methodLink RL 171 yL_whyStopped ∈ lw_gd := gd_mem (tb_3 221 (by decide +kernel)) (by decide +kernel)
theorem lL_173 : Cond.methodLink RL 173 yX6_whyStopped ∈ lw_gd := gd_mem (tb_5 102 (by decide +kernel)) (by decide +kernel)
theorem lL_174 : Cond.methodLink RL 174 yL_undo ∈ lw_gd := gd_mem (tb_3 228 (by decide +kernel)) (by decide +kernel)
theorem lL_176 : Cond.methodLink RL 176 yX6_undo ∈ lw_gd := gd_mem (tb_5 106 (by decide +kernel)) (by decide +kernel)
theorem lL_177 : Cond.methodLink RL 177 yX5_keep ∈ lw_gd := gd_mem (tb_1 223 (by decide +kernel)) (by decide +kernel)
theorem lL_180 : Cond.methodLink RL 180 yX6_keep ∈ lw_gd := gd_mem (tb_5 110 (by decide +kernel)) (by decide +kernel)
theorem lL_181 : Cond.methodLink RL 181 yL_restore ∈ lw_gd := gd_mem (tb_3 236 (by decide +kernel)) (by decide +kernel)
theorem lL_183 : Cond.methodLink RL 183 yX6_restore ∈ lw_gd := gd_mem (tb_5 118 (by decide +kernel)) (by decide +kernel)
theorem lL_184 : Cond.methodLink RL 184 yX5_savedStates ∈ lw_gd := gd_mem (tb_2 6 (by decide +kernel)) (by decide +kernel)
theorem lL_187 : Cond.methodLink RL 187 yX6_savedStates ∈ lw_gd := gd_mem (tb_5 122 (by decide +kernel)) (by decide +kernel)
theorem lL_188 : Cond.methodLink RL 188 yL_worthOf ∈ lw_gd := gd_mem (tb_4 4 (by decide +kernel)) (by decide +kernel)
theorem lL_190 : Cond.methodLink RL 190 yX6_worthOf ∈ lw_gd := gd_mem (tb_5 126 (by decide +kernel)) (by decide +kernel)
theorem lL_191 : Cond.methodLink RL 191 yL_worthOfSet ∈ lw_gd := gd_mem (tb_4 12 (by decide +kernel)) (by decide +kernel)
theorem lL_193 : Cond.methodLink RL 193 yX6_worthOfSet ∈ lw_gd := gd_mem (tb_5 130 (by decide +kernel)) (by decide +kernel)
theorem lL_194 : Cond.methodLink RL 194 yL_say ∈ lw_gd := gd_mem (tb_4 21 (by decide +kernel)) (by decide +kernel)
theorem lL_196 : Cond.methodLink RL 196 yX6_say ∈ lw_gd := gd_mem (tb_5 135 (by decide +kernel)) (by decide +kernel)
theorem lL_197 : Cond.methodLink RL 197 yL_sayByCounting ∈ lw_gd := gd_mem (tb_4 28 (by decide +kernel)) (by decide +kernel)
theorem lL_199 : Cond.methodLink RL 199 yX6_sayByCounting ∈ lw_gd := gd_mem (tb_5 139 (by decide +kernel)) (by decide +kernel)
theorem lL_200 : Cond.methodLink RL 200 yL_fullSet ∈ lw_gd := gd_mem (tb_4 35 (by decide +kernel)) (by decide +kernel)
theorem lL_202 : Cond.methodLink RL 202 yX6_fullSet ∈ lw_gd := gd_mem (tb_5 143 (by decide +kernel)) (by decide +kernel)
theorem lL_203 : Cond.methodLink RL 203 yL_ways ∈ lw_gd := gd_mem (tb_4 42 (by decide +kernel)) (by decide +kernel)
theorem lL_205 : Cond.methodLink RL 205 yX6_ways ∈ lw_gd := gd_mem (tb_5 150 (by decide +kernel)) (by decide +kernel)
theorem lL_206 : Cond.methodLink RL 206 yL_waysByGaps ∈ lw_gd := gd_mem (tb_4 49 (by decide +kernel)) (by decide +kernel)
theorem lL_208 : Cond.methodLink RL 208 yX6_waysByGaps ∈ lw_gd := gd_mem (tb_5 157 (by decide +kernel)) (by decide +kernel)
theorem lL_209 : Cond.methodLink RL 209 yL_spokenLength ∈ lw_gd := gd_mem (tb_4 56 (by decide +kernel)) (by decide +kernel)
theorem lL_211 : Cond.methodLink RL 211 yX6_spokenLength ∈ lw_gd := gd_mem (tb_5 161 (by decide +kernel)) (by decide +kernel)
theorem lL_212 : Cond.methodLink RL 212 yL_spokenAt ∈ lw_gd := gd_mem (tb_4 67 (by decide +kernel)) (by decide +kernel)
theorem lL_214 : Cond.methodLink RL 214 yX6_spokenAt ∈ lw_gd := gd_mem (tb_5 165 (by decide +kernel)) (by decide +kernel)
theorem lL_215 : Cond.methodLink RL 215 yL_numberOf ∈ lw_gd := gd_mem (tb_4 75 (by decide +kernel)) (by decide +kernel)
theorem lL_217 : Cond.methodLink RL 217 yX6_numberOf ∈ lw_gd := gd_mem (tb_5 172 (by decide +kernel)) (by decide +kernel)
theorem lL_218 : Cond.methodLink RL 218 yL_stepsOf ∈ lw_gd := gd_mem (tb_4 82 (by decide +kernel)) (by decide +kernel)
theorem lL_220 : Cond.methodLink RL 220 yX6_stepsOf ∈ lw_gd := gd_mem (tb_5 176 (by decide +kernel)) (by decide +kernel)
theorem lL_221 : Cond.methodLink RL 221 yX5_total ∈ lw_gd := gd_mem (tb_2 10 (by decide +kernel)) (by decide +kernel)
theorem lL_224 : Cond.methodLink RL 224 yX6_total ∈ lw_gd := gd_mem (tb_5 180 (by decide +kernel)) (by decide +kernel)
theorem lL_225 : Cond.methodLink RL 225 yX5_richest ∈ lw_gd := gd_mem (tb_2 14 (by decide +kernel)) (by decide +kernel)
theorem lL_228 : Cond.methodLink RL 228 yX6_richest ∈ lw_gd := gd_mem (tb_5 184 (by decide +kernel)) (by decide +kernel)
theorem lL_229 : Cond.methodLink RL 229 yL_sumByCarries ∈ lw_gd := gd_mem (tb_4 89 (by decide +kernel)) (by decide +kernel)
theorem lL_231 : Cond.methodLink RL 231 yX6_sumByCarries ∈ lw_gd := gd_mem (tb_5 192 (by decide +kernel)) (by decide +kernel)
theorem lL_232 : Cond.methodLink RL 232 yL_carries ∈ lw_gd := gd_mem (tb_4 96 (by decide +kernel)) (by decide +kernel)
theorem lL_234 : Cond.methodLink RL 234 yX6_carries ∈ lw_gd := gd_mem (tb_5 196 (by decide +kernel)) (by decide +kernel)
theorem lL_235 : Cond.methodLink RL 235 yX5_streamLength ∈ lw_gd := gd_mem (tb_2 19 (by decide +kernel)) (by decide +kernel)
theorem lL_238 : Cond.methodLink RL 238 yX6_streamLength ∈ lw_gd := gd_mem (tb_5 200 (by decide +kernel)) (by decide +kernel)
theorem lL_239 : Cond.methodLink RL 239 yL_digitAt ∈ lw_gd := gd_mem (tb_4 103 (by decide +kernel)) (by decide +kernel)
theorem lL_241 : Cond.methodLink RL 241 yX6_digitAt ∈ lw_gd := gd_mem (tb_5 204 (by decide +kernel)) (by decide +kernel)
theorem lL_242 : Cond.methodLink RL 242 yX5_readNumbers ∈ lw_gd := gd_mem (tb_2 23 (by decide +kernel)) (by decide +kernel)
theorem lL_245 : Cond.methodLink RL 245 yX6_readNumbers ∈ lw_gd := gd_mem (tb_5 208 (by decide +kernel)) (by decide +kernel)
theorem lL_246 : Cond.methodLink RL 246 yL_readAt ∈ lw_gd := gd_mem (tb_4 110 (by decide +kernel)) (by decide +kernel)
theorem lL_248 : Cond.methodLink RL 248 yX6_readAt ∈ lw_gd := gd_mem (tb_5 216 (by decide +kernel)) (by decide +kernel)
theorem lL_249 : Cond.methodLink RL 249 yX5_errors ∈ lw_gd := gd_mem (tb_2 49 (by decide +kernel)) (by decide +kernel)
theorem lL_252 : Cond.methodLink RL 252 yX6_errors ∈ lw_gd := gd_mem (tb_5 220 (by decide +kernel)) (by decide +kernel)
theorem lL_253 : Cond.methodLink RL 253 yX5_looseDigits ∈ lw_gd := gd_mem (tb_2 53 (by decide +kernel)) (by decide +kernel)
theorem lL_256 : Cond.methodLink RL 256 yX6_looseDigits ∈ lw_gd := gd_mem (tb_5 224 (by decide +kernel)) (by decide +kernel)
theorem lL_257 : Cond.methodLink RL 257 yL_readIfTurned ∈ lw_gd := gd_mem (tb_4 118 (by decide +kernel)) (by decide +kernel)
theorem lL_259 : Cond.methodLink RL 259 yX6_readIfTurned ∈ lw_gd := gd_mem (tb_5 228 (by decide +kernel)) (by decide +kernel)
theorem lL_260 : Cond.methodLink RL 260 yL_codeLength ∈ lw_gd := gd_mem (tb_4 125 (by decide +kernel)) (by decide +kernel)
theorem lL_262 : Cond.methodLink RL 262 yX6_codeLength ∈ lw_gd := gd_mem (tb_5 236 (by decide +kernel)) (by decide +kernel)
theorem lL_263 : Cond.methodLink RL 263 yX5_sparseShare ∈ lw_gd := gd_mem (tb_2 57 (by decide +kernel)) (by decide +kernel)
theorem lL_267 : Cond.methodLink RL 267 yX6_sparseShare ∈ lw_gd := gd_mem (tb_6 0 (by decide +kernel)) (by decide +kernel)
theorem lL_268 : Cond.methodLink RL 268 yX5_digest ∈ lw_gd := gd_mem (tb_2 76 (by decide +kernel)) (by decide +kernel)
theorem lL_272 : Cond.methodLink RL 272 yX6_digest ∈ lw_gd := gd_mem (tb_6 8 (by decide +kernel)) (by decide +kernel)
theorem lX6_1 : Cond.methodLink RX6 1 objectInit ∈ lw_gd := gd_mem (tb_4 138 (by decide +kernel)) (by decide +kernel)
theorem lX6_29 : Cond.methodLink RX6 29 yX6_copies ∈ lw_gd := gd_mem (tb_4 207 (by decide +kernel)) (by decide +kernel)
theorem lX6_33 : Cond.methodLink RX6 33 yX6_worth ∈ lw_gd := gd_mem (tb_4 218 (by decide +kernel)) (by decide +kernel)
theorem lX6_37 : Cond.methodLink RX6 37 yX6_worths ∈ lw_gd := gd_mem (tb_5 6 (by decide +kernel)) (by decide +kernel)
theorem lX6_40 : Cond.methodLink RX6 40 yX6_said ∈ lw_gd := gd_mem (tb_4 215 (by decide +kernel)) (by decide +kernel)
theorem lX6_43 : Cond.methodLink RX6 43 yX6_step ∈ lw_gd := gd_mem (tb_5 27 (by decide +kernel)) (by decide +kernel)
theorem lX6_47 : Cond.methodLink RX6 47 yX6_many ∈ lw_gd := gd_mem (tb_5 24 (by decide +kernel)) (by decide +kernel)
theorem lX6_53 : Cond.methodLink RX6 53 yX6_carry ∈ lw_gd := gd_mem (tb_4 225 (by decide +kernel)) (by decide +kernel)
theorem lX6_57 : Cond.methodLink RX6 57 yX6_in ∈ lw_gd := gd_mem (tb_4 193 (by decide +kernel)) (by decide +kernel)
theorem lX6_62 : Cond.methodLink RX6 62 yX6_isStall ∈ lw_gd := gd_mem (tb_4 190 (by decide +kernel)) (by decide +kernel)
theorem lX6_65 : Cond.methodLink RX6 65 yX6_isNumber ∈ lw_gd := gd_mem (tb_4 196 (by decide +kernel)) (by decide +kernel)
theorem lX6_68 : Cond.methodLink RX6 68 yX6_goes ∈ lw_gd := gd_mem (tb_4 199 (by decide +kernel)) (by decide +kernel)
theorem lX6_72 : Cond.methodLink RX6 72 yX6_saves ∈ lw_gd := gd_mem (tb_4 203 (by decide +kernel)) (by decide +kernel)
theorem lX6_75 : Cond.methodLink RX6 75 yX6_adds ∈ lw_gd := gd_mem (tb_4 221 (by decide +kernel)) (by decide +kernel)
theorem lX6_78 : Cond.methodLink RX6 78 yX6_canRaise ∈ lw_gd := gd_mem (tb_4 237 (by decide +kernel)) (by decide +kernel)
theorem lX6_81 : Cond.methodLink RX6 81 yX6_raised ∈ lw_gd := gd_mem (tb_5 2 (by decide +kernel)) (by decide +kernel)
theorem lX6_84 : Cond.methodLink RX6 84 yX6_codeOf ∈ lw_gd := gd_mem (tb_5 21 (by decide +kernel)) (by decide +kernel)
theorem lX6_87 : Cond.methodLink RX6 87 yX6_canSend ∈ lw_gd := gd_mem (tb_5 17 (by decide +kernel)) (by decide +kernel)
theorem lX6_90 : Cond.methodLink RX6 90 yX6_sends ∈ lw_gd := gd_mem (tb_5 30 (by decide +kernel)) (by decide +kernel)
theorem lX6_93 : Cond.methodLink RX6 93 yX6_isDigit ∈ lw_gd := gd_mem (tb_5 38 (by decide +kernel)) (by decide +kernel)
theorem lX6_96 : Cond.methodLink RX6 96 yX6_turns ∈ lw_gd := gd_mem (tb_5 42 (by decide +kernel)) (by decide +kernel)
theorem lX6_111 : Cond.methodLink RX6 111 yX6_isAt ∈ lw_gd := gd_mem (tb_5 74 (by decide +kernel)) (by decide +kernel)
theorem lX6_115 : Cond.methodLink RX6 115 yX6_sign ∈ lw_gd := gd_mem (tb_5 70 (by decide +kernel)) (by decide +kernel)
theorem lX6_118 : Cond.methodLink RX6 118 yX6_number ∈ lw_gd := gd_mem (tb_5 78 (by decide +kernel)) (by decide +kernel)
theorem lX6_127 : Cond.methodLink RX6 127 yX6_part ∈ lw_gd := gd_mem (tb_5 66 (by decide +kernel)) (by decide +kernel)
theorem lX6_131 : Cond.methodLink RX6 131 yX6_isWhole ∈ lw_gd := gd_mem (tb_5 62 (by decide +kernel)) (by decide +kernel)
theorem lX6_135 : Cond.methodLink RX6 135 yX6_reason ∈ lw_gd := gd_mem (tb_5 86 (by decide +kernel)) (by decide +kernel)
theorem lX6_138 : Cond.methodLink RX6 138 yX6_does ∈ lw_gd := gd_mem (tb_5 90 (by decide +kernel)) (by decide +kernel)
theorem lX6_146 : Cond.methodLink RX6 146 yX6_sum ∈ lw_gd := gd_mem (tb_5 114 (by decide +kernel)) (by decide +kernel)
theorem lX6_150 : Cond.methodLink RX6 150 yX6_full ∈ lw_gd := gd_mem (tb_5 147 (by decide +kernel)) (by decide +kernel)
theorem lX6_153 : Cond.methodLink RX6 153 yX6_countWays ∈ lw_gd := gd_mem (tb_5 154 (by decide +kernel)) (by decide +kernel)
theorem lX6_156 : Cond.methodLink RX6 156 yX6_word ∈ lw_gd := gd_mem (tb_5 169 (by decide +kernel)) (by decide +kernel)
theorem lX6_160 : Cond.methodLink RX6 160 yX6_rich ∈ lw_gd := gd_mem (tb_5 188 (by decide +kernel)) (by decide +kernel)
theorem lX6_163 : Cond.methodLink RX6 163 yX6_reads ∈ lw_gd := gd_mem (tb_5 212 (by decide +kernel)) (by decide +kernel)
theorem lX6_166 : Cond.methodLink RX6 166 yX6_readTurned ∈ lw_gd := gd_mem (tb_5 232 (by decide +kernel)) (by decide +kernel)
theorem lX6_169 : Cond.methodLink RX6 169 yX6_allSteps ∈ lw_gd := gd_mem (tb_6 4 (by decide +kernel)) (by decide +kernel)
theorem lX6_183 : Cond.methodLink RX6 183 yX6_hashOfStalls ∈ lw_gd := gd_mem (tb_6 14 (by decide +kernel)) (by decide +kernel)
theorem lX6_189 : Cond.methodLink RX6 189 yX6_bits ∈ lw_gd := gd_mem (tb_6 19 (by decide +kernel)) (by decide +kernel)
theorem k_objI : Cond.instanceMethod objectInit ∈ lw_gd := gd_mem (tb_1 21 (by decide +kernel)) (by decide +kernel)
theorem k_objC : Cond.code objectInit ⟨#[0xb1]⟩ 1 none ∈ lw_gd := gd_mem (tb_1 22 (by decide +kernel)) (by decide +kernel)
def lw_nest : List (String × Nat × MethodName × String) := [(RX5, 9, yX2_init, "ApartSteps"), (RX5, 29, yX3_init, "ApartSteps"), (RX5, 36, yX1_init, "ApartSteps"), (RX5, 43, yX0_init, "ApartSteps"), (RX5, 50, yX4_init, "ApartSteps"), (RX1, 22, yX5_digitOf, "ApartSteps"), (RX1, 33, yX5_worthOfMark, "ApartSteps"), (RX2, 37, yX5_greedyMark, "ApartSteps"), (RX2, 40, yX5_lengthOfCode, "ApartSteps"), (RX4, 20, yX5_worthBelow, "ApartSteps"), (RX4, 30, yX5_worth, "ApartSteps")]
theorem lX5_9 : (RX5, 9, yX2_init, "ApartSteps") ∈ lw_nest := List.mem_of_getElem? (i := 0) rfl
theorem lX5_29 : (RX5, 29, yX3_init, "ApartSteps") ∈ lw_nest := List.mem_of_getElem? (i := 1) rfl
theorem lX5_36 : (RX5, 36, yX1_init, "ApartSteps") ∈ lw_nest := List.mem_of_getElem? (i := 2) rfl
theorem lX5_43 : (RX5, 43, yX0_init, "ApartSteps") ∈ lw_nest := List.mem_of_getElem? (i := 3) rfl
theorem lX5_50 : (RX5, 50, yX4_init, "ApartSteps") ∈ lw_nest := List.mem_of_getElem? (i := 4) rfl
theorem lX1_22 : (RX1, 22, yX5_digitOf, "ApartSteps") ∈ lw_nest := List.mem_of_getElem? (i := 5) rfl
theorem lX1_33 : (RX1, 33, yX5_worthOfMark, "ApartSteps") ∈ lw_nest := List.mem_of_getElem? (i := 6) rfl
theorem lX2_37 : (RX2, 37, yX5_greedyMark, "ApartSteps") ∈ lw_nest := List.mem_of_getElem? (i := 7) rfl
theorem lX2_40 : (RX2, 40, yX5_lengthOfCode, "ApartSteps") ∈ lw_nest := List.mem_of_getElem? (i := 8) rfl
theorem lX4_20 : (RX4, 20, yX5_worthBelow, "ApartSteps") ∈ lw_nest := List.mem_of_getElem? (i := 9) rfl
theorem lX4_30 : (RX4, 30, yX5_worth, "ApartSteps") ∈ lw_nest := List.mem_of_getElem? (i := 10) rfl
theorem lw_nest_tb : ∀ q ∈ lw_nest, Cond.methodLinkNest q.1 q.2.1 q.2.2.1 q.2.2.2 ∈ lw_tbl := List.forall_mem_cons.mpr ⟨tb_1 25 (by decide +kernel), List.forall_mem_cons.mpr ⟨tb_1 53 (by decide +kernel), List.forall_mem_cons.mpr ⟨tb_1 82 (by decide +kernel), List.forall_mem_cons.mpr ⟨tb_1 104 (by decide +kernel), List.forall_mem_cons.mpr ⟨tb_1 114 (by decide +kernel), List.forall_mem_cons.mpr ⟨tb_2 31 (by decide +kernel), List.forall_mem_cons.mpr ⟨tb_2 38 (by decide +kernel), List.forall_mem_cons.mpr ⟨tb_3 126 (by decide +kernel), List.forall_mem_cons.mpr ⟨tb_3 127 (by decide +kernel), List.forall_mem_cons.mpr ⟨tb_2 108 (by decide +kernel), List.forall_mem_cons.mpr ⟨tb_2 110 (by decide +kernel), fun _ h => absurd h List.not_mem_nil⟩⟩⟩⟩⟩⟩⟩⟩⟩⟩⟩
theorem nX5_7 : Cond.classLink RX5 7 "ApartSteps$State" ∈ lw_gd := gd_mem (tb_1 23 (by decide +kernel)) (by decide +kernel)
theorem niX2 : Cond.instantiable RX2 5 ∈ lw_gd ∧ Cond.initialized RX2 ∈ lw_gd := ⟨gd_mem (tb_1 24 (by decide +kernel)) (by decide +kernel), gd_mem (tb_1 2 (by decide +kernel)) (by decide +kernel)⟩
theorem nX5_27 : Cond.classLink RX5 27 "ApartSteps$TextScan" ∈ lw_gd := gd_mem (tb_1 51 (by decide +kernel)) (by decide +kernel)
theorem niX3 : Cond.instantiable RX3 6 ∈ lw_gd ∧ Cond.initialized RX3 ∈ lw_gd := ⟨gd_mem (tb_1 52 (by decide +kernel)) (by decide +kernel), gd_mem (tb_1 3 (by decide +kernel)) (by decide +kernel)⟩
theorem nX5_34 : Cond.classLink RX5 34 "ApartSteps$Reading" ∈ lw_gd := gd_mem (tb_1 80 (by decide +kernel)) (by decide +kernel)
theorem niX1 : Cond.instantiable RX1 4 ∈ lw_gd ∧ Cond.initialized RX1 ∈ lw_gd := ⟨gd_mem (tb_1 81 (by decide +kernel)) (by decide +kernel), gd_mem (tb_1 4 (by decide +kernel)) (by decide +kernel)⟩
theorem nX5_41 : Cond.classLink RX5 41 "ApartSteps$Carrying" ∈ lw_gd := gd_mem (tb_1 102 (by decide +kernel)) (by decide +kernel)
theorem niX0 : Cond.instantiable RX0 1 ∈ lw_gd ∧ Cond.initialized RX0 ∈ lw_gd := ⟨gd_mem (tb_1 103 (by decide +kernel)) (by decide +kernel), gd_mem (tb_1 5 (by decide +kernel)) (by decide +kernel)⟩
theorem nX5_48 : Cond.classLink RX5 48 "ApartSteps$WaysRow" ∈ lw_gd := gd_mem (tb_1 112 (by decide +kernel)) (by decide +kernel)
theorem niX4 : Cond.instantiable RX4 3 ∈ lw_gd ∧ Cond.initialized RX4 ∈ lw_gd := ⟨gd_mem (tb_1 113 (by decide +kernel)) (by decide +kernel), gd_mem (tb_1 6 (by decide +kernel)) (by decide +kernel)⟩
theorem nX5_76 : Cond.classLink RX5 76 "java/lang/IllegalStateException" ∈ lw_gd := gd_mem (tb_3 63 (by decide +kernel)) (by decide +kernel)
theorem nX5_104 : Cond.classLink RX5 104 "java/lang/IllegalArgumentException" ∈ lw_gd := gd_mem (tb_3 30 (by decide +kernel)) (by decide +kernel)
theorem nX5_191 : Cond.classLink RX5 191 "java/lang/IndexOutOfBoundsException" ∈ lw_gd := gd_mem (tb_2 199 (by decide +kernel)) (by decide +kernel)
theorem nL_8 : Cond.classLink RL 8 "ApartSteps" ∈ lw_gd := gd_mem (tb_1 15 (by decide +kernel)) (by decide +kernel)
theorem niX5 : Cond.instantiable RX5 12 ∈ lw_gd ∧ Cond.initialized RX5 ∈ lw_gd := ⟨gd_mem (tb_1 16 (by decide +kernel)) (by decide +kernel), gd_mem (tb_1 1 (by decide +kernel)) (by decide +kernel)⟩
theorem nL_13 : Cond.classLink RL 13 "java/lang/IndexOutOfBoundsException" ∈ lw_gd := gd_mem (tb_2 190 (by decide +kernel)) (by decide +kernel)
theorem nL_15 : Cond.classLink RL 15 "java/lang/IllegalArgumentException" ∈ lw_gd := gd_mem (tb_2 191 (by decide +kernel)) (by decide +kernel)
theorem nL_20 : Cond.classLink RL 20 "java/lang/IllegalStateException" ∈ lw_gd := gd_mem (tb_3 58 (by decide +kernel)) (by decide +kernel)
theorem nL_113 : Cond.classLink RL 113 "ApartStepsModel" ∈ lw_gd := gd_mem (tb_4 133 (by decide +kernel)) (by decide +kernel)
theorem niX6 : Cond.instantiable RX6 14 ∈ lw_gd ∧ Cond.initialized RX6 ∈ lw_gd := ⟨gd_mem (tb_4 134 (by decide +kernel)) (by decide +kernel), gd_mem (tb_1 7 (by decide +kernel)) (by decide +kernel)⟩
theorem qX5_199 : Cond.constant RX5 199 (262143) ∈ lw_gd := gd_mem (tb_4 19 (by decide +kernel)) (by decide +kernel)
theorem qX6_61 : Cond.constant RX6 61 (131072) ∈ lw_gd := gd_mem (tb_5 1 (by decide +kernel)) (by decide +kernel)
theorem qX6_149 : Cond.constant RX6 149 (262143) ∈ lw_gd := gd_mem (tb_5 134 (by decide +kernel)) (by decide +kernel)
theorem qJ6_265 : Cond.constant RJ6 265 (1431655765) ∈ lw_gd := gd_mem (tb_2 67 (by decide +kernel)) (by decide +kernel)
theorem qJ6_266 : Cond.constant RJ6 266 (858993459) ∈ lw_gd := gd_mem (tb_2 68 (by decide +kernel)) (by decide +kernel)
theorem qJ6_267 : Cond.constant RJ6 267 (252645135) ∈ lw_gd := gd_mem (tb_2 69 (by decide +kernel)) (by decide +kernel)
theorem qX5_258 : Cond.constantLong RX5 258 (4549) ∈ lw_gd := gd_mem (tb_2 80 (by decide +kernel)) (by decide +kernel)
theorem qX5_376 : Cond.constantLong RX5 376 (31) ∈ lw_gd := gd_mem (tb_2 85 (by decide +kernel)) (by decide +kernel)
theorem qX5_378 : Cond.constantLong RX5 378 (1023) ∈ lw_gd := gd_mem (tb_2 180 (by decide +kernel)) (by decide +kernel)
theorem qX6_173 : Cond.constantLong RX6 173 (4503599627370496) ∈ lw_gd := gd_mem (tb_6 22 (by decide +kernel)) (by decide +kernel)
theorem qX6_175 : Cond.constantLong RX6 175 (2) ∈ lw_gd := gd_mem (tb_6 23 (by decide +kernel)) (by decide +kernel)
theorem qX6_177 : Cond.constantLong RX6 177 (9007199254740992) ∈ lw_gd := gd_mem (tb_6 24 (by decide +kernel)) (by decide +kernel)
theorem qX6_179 : Cond.constantLong RX6 179 (31) ∈ lw_gd := gd_mem (tb_6 13 (by decide +kernel)) (by decide +kernel)
theorem qX6_181 : Cond.constantLong RX6 181 (4549) ∈ lw_gd := gd_mem (tb_6 12 (by decide +kernel)) (by decide +kernel)
theorem qX6_187 : Cond.constantLong RX6 187 (4607182418800017408) ∈ lw_gd := gd_mem (tb_6 18 (by decide +kernel)) (by decide +kernel)
theorem qX5_380 : Cond.constantDouble RX5 380 (4611686018427387904) ∈ lw_gd := gd_mem (tb_2 181 (by decide +kernel)) (by decide +kernel)
theorem qX5_382 : Cond.constantDouble RX5 382 (4841369599423283200) ∈ lw_gd := gd_mem (tb_2 182 (by decide +kernel)) (by decide +kernel)
theorem k_arr_int : Cond.arrayClass .int ∈ lw_gd := gd_mem (tb_1 49 (by decide +kernel)) (by decide +kernel)
theorem k_arr_char : Cond.arrayClass .char ∈ lw_gd := gd_mem (tb_1 79 (by decide +kernel)) (by decide +kernel)
theorem k_arr_long : Cond.arrayClass .long ∈ lw_gd := gd_mem (tb_6 25 (by decide +kernel)) (by decide +kernel)
def lw_strs : List (String × Nat × String) := [(RX5, 78, "the sum would be above 6764"), (RX5, 87, "the difference would be below 0"), (RX5, 96, "the number has the step 17"), (RX5, 106, "both stalls are the same"), (RX5, 109, "the number can't be paid"), (RX5, 114, "the stream would have more than 64 digits"), (RX5, 137, "digits are 1 to 64"), (RX5, 139, "the stream has fewer digits"), (RX5, 144, "a character code is 33 to 126"), (RX5, 149, "the buffer has 60 characters"), (RX5, 159, "the buffer is not complete works as a text"), (RX5, 176, "there is no saved state"), (RX5, 189, "there is no snapshot"), (RX5, 193, "there is no such step"), (RX5, 200, "a mark is 0 to 262143"), (RX5, 225, "the number has no such word"), (RX5, 241, "there are not so many numbers"), (RX5, 295, "there is no such stall"), (RX5, 297, "there is no such tribe"), (RX5, 299, "a number is 0 to 6764"), (RX5, 301, "the number has to be 1 to 6764"), (RX5, 303, "there is no such digit"), (RX5, 305, "the latest works did not stop")]
theorem uX0 : ∀ w ∈ u_ws RX0 TX0 1, w ∈ lw_gd := by
  show ∀ w ∈ (List.range 1).map (u_lay RX0 TX0), w ∈ lw_gd
  exact List.forall_mem_cons.mpr ⟨gd_mem (tb_1 109 (by decide +kernel)) (by decide +kernel), fun _ h => absurd h List.not_mem_nil⟩
theorem uX1 : ∀ w ∈ u_ws RX1 TX1 4, w ∈ lw_gd := by
  show ∀ w ∈ (List.range 4).map (u_lay RX1 TX1), w ∈ lw_gd
  exact List.forall_mem_cons.mpr ⟨gd_mem (tb_1 93 (by decide +kernel)) (by decide +kernel), List.forall_mem_cons.mpr ⟨gd_mem (tb_1 95 (by decide +kernel)) (by decide +kernel), List.forall_mem_cons.mpr ⟨gd_mem (tb_1 97 (by decide +kernel)) (by decide +kernel), List.forall_mem_cons.mpr ⟨gd_mem (tb_1 99 (by decide +kernel)) (by decide +kernel), fun _ h => absurd h List.not_mem_nil⟩⟩⟩⟩
theorem uX2 : ∀ w ∈ u_ws RX2 TX2 5, w ∈ lw_gd := by
  show ∀ w ∈ (List.range 5).map (u_lay RX2 TX2), w ∈ lw_gd
  exact List.forall_mem_cons.mpr ⟨gd_mem (tb_1 38 (by decide +kernel)) (by decide +kernel), List.forall_mem_cons.mpr ⟨gd_mem (tb_1 40 (by decide +kernel)) (by decide +kernel), List.forall_mem_cons.mpr ⟨gd_mem (tb_1 42 (by decide +kernel)) (by decide +kernel), List.forall_mem_cons.mpr ⟨gd_mem (tb_1 44 (by decide +kernel)) (by decide +kernel), List.forall_mem_cons.mpr ⟨gd_mem (tb_1 46 (by decide +kernel)) (by decide +kernel), fun _ h => absurd h List.not_mem_nil⟩⟩⟩⟩⟩
theorem uX3 : ∀ w ∈ u_ws RX3 TX3 6, w ∈ lw_gd := by
  show ∀ w ∈ (List.range 6).map (u_lay RX3 TX3), w ∈ lw_gd
  exact List.forall_mem_cons.mpr ⟨gd_mem (tb_1 66 (by decide +kernel)) (by decide +kernel), List.forall_mem_cons.mpr ⟨gd_mem (tb_1 68 (by decide +kernel)) (by decide +kernel), List.forall_mem_cons.mpr ⟨gd_mem (tb_1 70 (by decide +kernel)) (by decide +kernel), List.forall_mem_cons.mpr ⟨gd_mem (tb_1 72 (by decide +kernel)) (by decide +kernel), List.forall_mem_cons.mpr ⟨gd_mem (tb_1 74 (by decide +kernel)) (by decide +kernel), List.forall_mem_cons.mpr ⟨gd_mem (tb_1 76 (by decide +kernel)) (by decide +kernel), fun _ h => absurd h List.not_mem_nil⟩⟩⟩⟩⟩⟩
theorem uX4 : ∀ w ∈ u_ws RX4 TX4 3, w ∈ lw_gd := by
  show ∀ w ∈ (List.range 3).map (u_lay RX4 TX4), w ∈ lw_gd
  exact List.forall_mem_cons.mpr ⟨gd_mem (tb_1 121 (by decide +kernel)) (by decide +kernel), List.forall_mem_cons.mpr ⟨gd_mem (tb_1 123 (by decide +kernel)) (by decide +kernel), List.forall_mem_cons.mpr ⟨gd_mem (tb_1 125 (by decide +kernel)) (by decide +kernel), fun _ h => absurd h List.not_mem_nil⟩⟩⟩
theorem uX5 : ∀ w ∈ u_ws RX5 TX5 12, w ∈ lw_gd := by
  show ∀ w ∈ (List.range 12).map (u_lay RX5 TX5), w ∈ lw_gd
  exact List.forall_mem_cons.mpr ⟨gd_mem (tb_1 140 (by decide +kernel)) (by decide +kernel), List.forall_mem_cons.mpr ⟨gd_mem (tb_1 142 (by decide +kernel)) (by decide +kernel), List.forall_mem_cons.mpr ⟨gd_mem (tb_1 144 (by decide +kernel)) (by decide +kernel), List.forall_mem_cons.mpr ⟨gd_mem (tb_1 146 (by decide +kernel)) (by decide +kernel), List.forall_mem_cons.mpr ⟨gd_mem (tb_1 148 (by decide +kernel)) (by decide +kernel), List.forall_mem_cons.mpr ⟨gd_mem (tb_1 150 (by decide +kernel)) (by decide +kernel), List.forall_mem_cons.mpr ⟨gd_mem (tb_1 152 (by decide +kernel)) (by decide +kernel), List.forall_mem_cons.mpr ⟨gd_mem (tb_1 154 (by decide +kernel)) (by decide +kernel), List.forall_mem_cons.mpr ⟨gd_mem (tb_1 156 (by decide +kernel)) (by decide +kernel), List.forall_mem_cons.mpr ⟨gd_mem (tb_1 158 (by decide +kernel)) (by decide +kernel), List.forall_mem_cons.mpr ⟨gd_mem (tb_1 160 (by decide +kernel)) (by decide +kernel), List.forall_mem_cons.mpr ⟨gd_mem (tb_1 162 (by decide +kernel)) (by decide +kernel), fun _ h => absurd h List.not_mem_nil⟩⟩⟩⟩⟩⟩⟩⟩⟩⟩⟩⟩
theorem uX6 : ∀ w ∈ u_ws RX6 TX6 14, w ∈ lw_gd := by
  show ∀ w ∈ (List.range 14).map (u_lay RX6 TX6), w ∈ lw_gd
  exact List.forall_mem_cons.mpr ⟨gd_mem (tb_4 153 (by decide +kernel)) (by decide +kernel), List.forall_mem_cons.mpr ⟨gd_mem (tb_4 155 (by decide +kernel)) (by decide +kernel), List.forall_mem_cons.mpr ⟨gd_mem (tb_4 157 (by decide +kernel)) (by decide +kernel), List.forall_mem_cons.mpr ⟨gd_mem (tb_4 159 (by decide +kernel)) (by decide +kernel), List.forall_mem_cons.mpr ⟨gd_mem (tb_4 161 (by decide +kernel)) (by decide +kernel), List.forall_mem_cons.mpr ⟨gd_mem (tb_4 163 (by decide +kernel)) (by decide +kernel), List.forall_mem_cons.mpr ⟨gd_mem (tb_4 165 (by decide +kernel)) (by decide +kernel), List.forall_mem_cons.mpr ⟨gd_mem (tb_4 167 (by decide +kernel)) (by decide +kernel), List.forall_mem_cons.mpr ⟨gd_mem (tb_4 169 (by decide +kernel)) (by decide +kernel), List.forall_mem_cons.mpr ⟨gd_mem (tb_4 171 (by decide +kernel)) (by decide +kernel), List.forall_mem_cons.mpr ⟨gd_mem (tb_4 173 (by decide +kernel)) (by decide +kernel), List.forall_mem_cons.mpr ⟨gd_mem (tb_4 175 (by decide +kernel)) (by decide +kernel), List.forall_mem_cons.mpr ⟨gd_mem (tb_4 177 (by decide +kernel)) (by decide +kernel), List.forall_mem_cons.mpr ⟨gd_mem (tb_4 179 (by decide +kernel)) (by decide +kernel), fun _ h => absurd h List.not_mem_nil⟩⟩⟩⟩⟩⟩⟩⟩⟩⟩⟩⟩⟩⟩
end
section
/-! ===== the abstract walk: the world is a row of cells at base, base + 1, ..; a call takes and gives the whole world ===== -/
/-- launch, base, classes and slots, the array classes (0 int, 1 char, 2 long, 3 states), the static row, the strings -/
abbrev GT : Type := Launch × Nat × va_G × (Nat → ClassId) × Nat × (Nat → Nat)
abbrev Hp : Type := Nat → va_E
def gA (G : GT) : Nat → Prop := fun q => G.2.1 ≤ q
def rf (G : GT) (i : Nat) : Value := .ref (G.2.1 + i)
def tysO (G : GT) : List (ClassId × FieldType) := [(G.2.2.2.1 0, .int), (G.2.2.2.1 1, .char), (G.2.2.2.1 2, .long), (G.2.2.2.1 3, .object "ApartSteps$State")]
def wsO (G : GT) (N : Nat) (h : Hp) : va_W := (List.range N).map (fun i => (G.2.1 + i, h i))
def hs (h : Hp) (a : Nat) (c : va_E) : Hp := fun q => if q = a then c else h q
theorem hs_at (h : Hp) (a : Nat) (c : va_E) : hs h a c a = c := if_pos rfl
theorem hs_ne (h : Hp) {a b : Nat} (c : va_E) (n : b ≠ a) : hs h a c b = h b := if_neg n
def wN : Nat → Nat
  | 0 => 1
  | 1 => 2
  | n + 2 => wN n + wN (n + 1)
def lw_cast : List String := ["java/lang/IndexOutOfBoundsException", "java/lang/IllegalArgumentException", "java/lang/IllegalStateException"]
def lw_nc : List (String × String) := [("java/lang/IllegalArgumentException", "java/lang/IndexOutOfBoundsException"), ("java/lang/IllegalStateException", "java/lang/IndexOutOfBoundsException"), ("java/lang/IllegalStateException", "java/lang/IllegalArgumentException")]
def lw_decl : List MethodName := [⟨"java/lang/RuntimeException", "<init>", "()V"⟩, ⟨"java/lang/RuntimeException", "<init>", "(Ljava/lang/String;)V"⟩, ⟨"java/lang/Exception", "<init>", "()V"⟩, ⟨"java/lang/Exception", "<init>", "(Ljava/lang/String;)V"⟩, ⟨"java/lang/Throwable", "<init>", "()V"⟩, ⟨"java/lang/Throwable", "<init>", "(Ljava/lang/String;)V"⟩]
/-- what is known of the start of a method, at every level -/
def KK (G : GT) (s : State) : Prop :=
  G.1.stackTraces = false ∧ va_K G.2.2.1 vwCl (tysO G) s ∧ G.2.1 ≤ s.heap.size ∧
  va_Z "ApartSteps" "WORTHS" "[I" (.ref G.2.2.2.2.1) (gA G) s s.heap ∧ va_T .int G.2.2.2.2.1 19 (fun k => .int (iI (wN k : Nat))) (gA G) s s.heap ∧
  vx_Zq Bundle.tN "UNASSIGNED_STACK" Bundle.steD (gA G) s s.heap ∧ vx_Zq Bundle.tN "SUPPRESSED_SENTINEL" Bundle.listD (gA G) s s.heap ∧
  (∀ (j : Nat) (q : String × Nat × String), lw_strs[j]? = some q → vk_R q.1 q.2.1 q.2.2 (G.2.2.2.2.2 j) s) ∧
  (∀ q ∈ lw_nest, va_Nw (.methodLinkNest q.1 q.2.1 q.2.2.1 q.2.2.2) s) ∧ (∀ q ∈ lw_cast, va_Nw (.castable q q) s) ∧ (∀ y ∈ lw_decl, va_Nw (.declares y) s) ∧ (∀ q ∈ lw_nc, va_Nc q.1 q.2 s) ∧ va_AO "ApartSteps$State" s
theorem KK.moved {G : GT} {s U : State} (h : KK G s) (hW : s.WarmedH U.vm) (hz : s.heap.size ≤ U.heap.size) (hq : ∀ q : Nat, q < s.heap.size → ¬ gA G q → U.heap[q]? = s.heap[q]?) : KK G U := by
  obtain ⟨h0, h1, h2, h3, h4, h5, h6, h7, h8, h9, h10, h11, h12⟩ := h
  exact ⟨h0, va_K.moved hW.alike h1, Nat.le_trans h2 hz, (va_Z.moved hW.alike h3).kept hq, (va_T.moved hW.alike h4).kept hq, (vx_Zq.moved hW.alike h5).kept hq, (vx_Zq.moved hW.alike h6).kept hq,
    fun j q e => vk_R.warm hW (h7 j q e), fun q e => va_Nw.warmM hW (h8 q e), fun q e => va_Nw.warmC hW (h9 q e), fun y e => va_Nw.warmD hW (h10 y e), fun q e => va_Nc.moved hW.alike (h11 q e), va_AO.moved hW.alike h12⟩
theorem KK.calling {G : GT} {U : State} {g : JFrame} {mk : MethodId} {a : Array Value} (h : KK G U) : KK G (U.calling g mk a) :=
  h.moved (State.WarmedH.refl U) (Nat.le_refl _) (fun _ _ _ => rfl)
/-- the world: N cells at base and on; gf: nothing else has come since -/
def HW (G : GT) (N : Nat) (gf : Bool) (h : Hp) (H : Heap) : Prop := va_P G.2.2.1 vwCl (wsO G N h) H ∧ G.2.1 + N ≤ H.size ∧ (gf = true → H.size = G.2.1 + N)
theorem wsO_at {G : GT} {N i : Nat} {h : Hp} (hi : i < N) : (wsO G N h)[i]? = some (G.2.1 + i, h i) := by
  unfold wsO
  rw [List.getElem?_map, List.getElem?_range hi]
  rfl
theorem wsO_of {G : GT} {N k : Nat} {h : Hp} {q : Nat × va_E} (e : (wsO G N h)[k]? = some q) : k < N ∧ q = (G.2.1 + k, h k) := by
  have hl : k < (wsO G N h).length := (List.getElem?_eq_some_iff.mp e).1
  have hk : k < N := by unfold wsO at hl; simpa using hl
  rw [wsO_at hk] at e
  exact ⟨hk, (Option.some.inj e).symm⟩
theorem wsO_set {G : GT} {N i : Nat} {h : Hp} {c : va_E} (hi : i < N) : (wsO G N h).set i (G.2.1 + i, c) = wsO G N (hs h i c) := by
  apply List.ext_getElem?
  intro k
  by_cases hk : k < N
  · rw [wsO_at hk]
    by_cases e : k = i
    · subst e
      rw [List.getElem?_set_self (by unfold wsO; simpa using hk), hs_at]
    · rw [List.getElem?_set_ne (Ne.symm e), wsO_at hk, hs_ne h c e]
  · have l1 : ((wsO G N h).set i (G.2.1 + i, c)).length ≤ k := by unfold wsO; simp; omega
    have l2 : (wsO G N (hs h i c)).length ≤ k := by unfold wsO; simp; omega
    rw [List.getElem?_eq_none l1, List.getElem?_eq_none l2]
theorem wsO_push {G : GT} {N : Nat} {h : Hp} {c : va_E} : wsO G N h ++ [(G.2.1 + N, c)] = wsO G (N + 1) (hs h N c) := by
  have e : wsO G N h = wsO G N (hs h N c) := by
    unfold wsO
    apply List.map_congr_left
    intro i hi
    rw [hs_ne h c (Nat.ne_of_lt (List.mem_range.mp hi))]
  rw [e]
  unfold wsO
  rw [List.range_succ, List.map_append]
  simp [hs_at]
theorem wsO_D (G : GT) (N : Nat) (h : Hp) : va_D (gA G) (wsO G N h) := by
  refine ⟨fun i j p q hi hj e => ?_, fun k q hk => ?_⟩
  · obtain ⟨-, rfl⟩ := wsO_of hi
    obtain ⟨-, rfl⟩ := wsO_of hj
    have e2 : G.2.1 + i = G.2.1 + j := e
    omega
  · obtain ⟨-, rfl⟩ := wsO_of hk
    exact Nat.le_add_right _ _
/-- the locals, by their places -/
def LH (ls : Array Slot) (nL : Nat) (loc : List (Option Value)) : Prop := ls.size = nL ∧ lv_wf ls ∧ ∀ (i : Nat) (v : Value), loc[i]? = some (some v) → ls[i]? = some (.val v)
def lvl (loc : List (Option Value)) : List (Nat × Value) := loc.zipIdx.filterMap (fun q => q.1.map (fun v => (q.2, v)))
theorem lvl_mem {loc : List (Option Value)} {i : Nat} {v : Value} : (i, v) ∈ lvl loc ↔ loc[i]? = some (some v) := by
  unfold lvl
  rw [List.mem_filterMap]
  constructor
  · rintro ⟨⟨o, j⟩, h1, h2⟩
    have h3 := List.mem_zipIdx_iff_getElem?.mp h1
    cases o with
    | none => cases h2
    | some w =>
      have h4 : (j, w) = (i, v) := Option.some.inj h2
      cases h4
      exact h3
  · intro h
    exact ⟨(some v, i), List.mem_zipIdx_iff_getElem?.mpr h, rfl⟩
theorem LH.to {ls : Array Slot} {nL : Nat} {loc : List (Option Value)} (h : LH ls nL loc) : lv_has ls nL (lvl loc) := ⟨h.1, h.2.1, fun q hq => h.2.2 q.1 q.2 (lvl_mem.mp hq)⟩
theorem LH.of {ls : Array Slot} {nL : Nat} {lv : List (Nat × Value)} {loc : List (Option Value)} (h : lv_has ls nL lv) (hm : ∀ (i : Nat) (v : Value), loc[i]? = some (some v) → (i, v) ∈ lv) : LH ls nL loc := ⟨h.1, h.2.1, fun i v q => h.2.2 (i, v) (hm i v q)⟩
/-- no long or double ends at the place i -/
def nc2 (loc : List (Option Value)) (i : Nat) : Bool := match i with
  | 0 => true
  | j + 1 => match loc[j]? with
    | some (some w) => w.category == 1
    | _ => true
theorem nc2_ne {loc : List (Option Value)} {i j : Nat} {w : Value} (hz : nc2 loc i = true) (hj : loc[j]? = some (some w)) : ¬ (j + 1 = i ∧ w.category = 2) := by
  rintro ⟨rfl, h2⟩
  simp only [nc2, hj, beq_iff_eq] at hz
  omega
theorem set1_mem {loc : List (Option Value)} {i : Nat} {v : Value} (hz : nc2 loc i = true) (j : Nat) (w : Value) (hj : (loc.set i (some v))[j]? = some (some w)) : (j, w) ∈ (i, v) :: (lvl loc).filter (fun q => !(q.1 == i) && !(q.1 + 1 == i && q.2.category == 2)) := by
  by_cases e : j = i
  · subst e
    have hl : j < loc.length := by
      have := (List.getElem?_eq_some_iff.mp hj).1
      simpa using this
    rw [List.getElem?_set_self hl] at hj
    cases hj
    exact List.mem_cons_self
  · rw [List.getElem?_set_ne (Ne.symm e)] at hj
    refine List.mem_cons_of_mem _ (List.mem_filter.mpr ⟨lvl_mem.mpr hj, ?_⟩)
    have h2 := nc2_ne hz hj
    simp only [Bool.and_eq_true, Bool.not_eq_true', beq_eq_false_iff_ne, ne_eq]
    refine ⟨e, ?_⟩
    simp only [Bool.and_eq_false_iff, beq_eq_false_iff_ne, ne_eq]
    by_cases h3 : j + 1 = i
    · exact Or.inr (fun h4 => h2 ⟨h3, h4⟩)
    · exact Or.inl h3
theorem set2_mem {loc : List (Option Value)} {i : Nat} {v : Value} (hz : nc2 loc i = true) (j : Nat) (w : Value) (hj : ((loc.set i (some v)).set (i + 1) none)[j]? = some (some w)) : (j, w) ∈ (i, v) :: (lvl loc).filter (fun q => !(q.1 == i) && (!(q.1 == i + 1) && !(q.1 + 1 == i && q.2.category == 2))) := by
  have e1 : j ≠ i + 1 := by
    rintro rfl
    by_cases hl : i + 1 < (loc.set i (some v)).length
    · rw [List.getElem?_set_self hl] at hj
      cases hj
    · rw [List.getElem?_eq_none (by simp at hl ⊢; omega)] at hj
      cases hj
  rw [List.getElem?_set_ne (Ne.symm e1)] at hj
  by_cases e : j = i
  · subst e
    have hl : j < loc.length := by
      have := (List.getElem?_eq_some_iff.mp hj).1
      simpa using this
    rw [List.getElem?_set_self hl] at hj
    cases hj
    exact List.mem_cons_self
  · rw [List.getElem?_set_ne (Ne.symm e)] at hj
    refine List.mem_cons_of_mem _ (List.mem_filter.mpr ⟨lvl_mem.mpr hj, ?_⟩)
    have h2 := nc2_ne hz hj
    simp only [Bool.and_eq_true, Bool.not_eq_true', beq_eq_false_iff_ne, ne_eq]
    refine ⟨e, e1, ?_⟩
    simp only [Bool.and_eq_false_iff, beq_eq_false_iff_ne, ne_eq]
    by_cases h3 : j + 1 = i
    · exact Or.inr (fun h4 => h2 ⟨h3, h4⟩)
    · exact Or.inl h3
/-- where a walk stands: the program, the environment, the room, the start, the method, .., what is owed at the end -/
abbrev CxT : Type := Program × Env × Room × State × MethodId × Array Value × List Frame × Method × Code × (State → Prop)
def Cx (G : GT) (me : MeT) (x : CxT) : Prop := match x with
  | (p, _, R, s, m, args, _, meth, c, _) => p.tables.exec = Jvm.exec ∧ c.code = me.2.1 ∧ c.maxLocals = me.2.2.1 ∧ meth.sig.returnType = me.2.2.2.1 ∧ s.vm.findClass me.1 = some m.cls ∧ (∀ w ∈ lw_gd, w.before args s = true) ∧ KK G s ∧ meth.locks = false ∧ R.frames = me.2.2.2.2.1 ∧ R.locals = me.2.2.2.2.2.1 ∧ c.exceptionTable.toList = tableOf me.2.2.2.2.2.2.1 ∧ (me.2.2.2.2.2.2.2 = true → meth.name = "<init>")
def V (G : GT) (me : MeT) (x : CxT) (pc : Nat) (loc : List (Option Value)) (st : List Value) (N : Nat) (gf : Bool) (h : Hp) (kc ks : Nat) : Prop := match x with
  | (p, e, R, s, m, args, below, meth, c, Z) => ∀ (H : Heap) (locs : List Loc) (cells slots : Nat) (ls : Array Slot), HW G N gf h H → va_S (gA G) s.heap H locs → LH ls me.2.2.1 loc → cells + kc ≤ R.cells → slots + ks ≤ R.slots → W p G.1 e R s m args below meth c H locs cells slots Z (F0 m pc ls st)
/-- the method has thrown, or been thrown at: an exception of the class E stands over its frame -/
def VX (G : GT) (me : MeT) (x : CxT) (E : String) (pc : Nat) (loc : List (Option Value)) (rest : List Value) (N : Nat) (h : Hp) (kc ks : Nat) : Prop := match x with
  | (p, e, R, s, m, args, below, meth, c, Z) => ∀ (H : Heap) (locs : List Loc) (cells slots : Nat) (ls : Array Slot) (q : Addr) (ce : Cell), HW G N false h H → va_S (gA G) s.heap H locs → LH ls me.2.2.1 loc → cells + kc ≤ R.cells → slots + ks ≤ R.slots → H[q]? = some ce → ce.vm = .none → s.vm.findClass E = some ce.cls → vx_W p G.1 e R s m args below meth c H locs cells slots Z (F0 m pc ls rest) q
theorem V_lift {G : GT} {me : MeT} {x : CxT} {pc pc' : Nat} {loc : List (Option Value)} {st st' : List Value} {N : Nat} {gf : Bool} {h : Hp} {kc ks : Nat} (C : Cx G me x)
    (f : ∀ {p : Program} {e : Env} {R : Room} {s : State} {m : MethodId} {args : Array Value} {below : List Frame} {meth : Method} {c : Code} {Z : State → Prop} {H : Heap} {locs : List Loc} {cells slots : Nat} {ls : Array Slot}, p.tables.exec = Jvm.exec → c.code = me.2.1 → W p G.1 e R s m args below meth c H locs cells slots Z (F0 m pc' ls st') → W p G.1 e R s m args below meth c H locs cells slots Z (F0 m pc ls st))
    (k : V G me x pc' loc st' N gf h kc ks) : V G me x pc loc st N gf h kc ks := by
  obtain ⟨p, e, R, s, m, args, below, meth, c, Z⟩ := x
  obtain ⟨hx, hb, -⟩ := C
  exact fun H locs cells slots ls hW hS hl h1 h2 => f hx hb (k H locs cells slots ls hW hS hl h1 h2)
section VR
variable {G : GT} {me : MeT} {x : CxT} {pc : Nat} {loc : List (Option Value)} {st : List Value} {N : Nat} {gf : Bool} {h : Hp} {kc ks : Nat} {a b : Int}
theorem V_iconst {n : Int} (C : Cx G me x) (d : decode me.2.1 pc = .ok (.iconst n, 1)) (k : V G me x (pc + 1) loc (.int (iI n) :: st) N gf h kc ks) : V G me x pc loc st N gf h kc ks := V_lift C (fun hx hb k => lv_iconst hx hb d rfl k) k
theorem V_bipush {n : Int} (C : Cx G me x) (d : decode me.2.1 pc = .ok (.bipush n, 2)) (hn : (Int8.ofInt n).toInt32 = iI n) (k : V G me x (pc + 2) loc (.int (iI n) :: st) N gf h kc ks) : V G me x pc loc st N gf h kc ks := V_lift C (fun hx hb k => lv_bipush hx hb d hn k) k
theorem V_sipush {n : Int} (C : Cx G me x) (d : decode me.2.1 pc = .ok (.sipush n, 3)) (hn : (Int16.ofInt n).toInt32 = iI n) (k : V G me x (pc + 3) loc (.int (iI n) :: st) N gf h kc ks) : V G me x pc loc st N gf h kc ks := V_lift C (fun hx hb k => lv_sipush hx hb d hn k) k
theorem V_lconst {n : Fin 2} {z : Int} (C : Cx G me x) (d : decode me.2.1 pc = .ok (.lconst n, 1)) (hn : Int64.ofNat (n : Nat) = lL z) (k : V G me x (pc + 1) loc (.long (lL z) :: st) N gf h kc ks) : V G me x pc loc st N gf h kc ks := V_lift C (fun hx hb k => lv_lconst hx hb d hn k) k
theorem V_dconst1 (C : Cx G me x) (d : decode me.2.1 pc = .ok (.dconst 1, 1)) (k : V G me x (pc + 1) loc (.double 0x3ff0000000000000 :: st) N gf h kc ks) : V G me x pc loc st N gf h kc ks := V_lift C (fun hx hb k => lv_dconst1 hx hb d k) k
theorem V_ldc {idx : Nat} {n : Int} {v : Int32} (C : Cx G me x) (d : decode me.2.1 pc = .ok (.ldc idx, 2)) (hk : Cond.constant me.1 idx v ∈ lw_gd) (hn : v = iI n) (k : V G me x (pc + 2) loc (.int (iI n) :: st) N gf h kc ks) : V G me x pc loc st N gf h kc ks := by
  obtain ⟨p, e, R, s, m, args, below, meth, c, Z⟩ := x
  obtain ⟨hx, hb, -, -, ho, hts, -⟩ := C
  subst hn
  exact fun H locs cells slots ls hW hS hl h1 h2 => lv_ldc hx hb ho (hts _ hk) d (k H locs cells slots ls hW hS hl h1 h2)
theorem V_ldc2 {idx : Nat} {n : Int} {v : Int64} (C : Cx G me x) (d : decode me.2.1 pc = .ok (.ldc2_w idx, 3)) (hk : Cond.constantLong me.1 idx v ∈ lw_gd) (hn : v = lL n) (k : V G me x (pc + 3) loc (.long (lL n) :: st) N gf h kc ks) : V G me x pc loc st N gf h kc ks := by
  obtain ⟨p, e, R, s, m, args, below, meth, c, Z⟩ := x
  obtain ⟨hx, hb, -, -, ho, hts, -⟩ := C
  subst hn
  exact fun H locs cells slots ls hW hS hl h1 h2 => lv_ldc2 hx hb ho (hts _ hk) d (k H locs cells slots ls hW hS hl h1 h2)
theorem V_ldc2d {idx : Nat} {v : UInt64} (C : Cx G me x) (d : decode me.2.1 pc = .ok (.ldc2_w idx, 3)) (hk : Cond.constantDouble me.1 idx v ∈ lw_gd) (k : V G me x (pc + 3) loc (.double v :: st) N gf h kc ks) : V G me x pc loc st N gf h kc ks := by
  obtain ⟨p, e, R, s, m, args, below, meth, c, Z⟩ := x
  obtain ⟨hx, hb, -, -, ho, hts, -⟩ := C
  exact fun H locs cells slots ls hW hS hl h1 h2 => lv_ldc2d hx hb ho (hts _ hk) d (k H locs cells slots ls hW hS hl h1 h2)
theorem V_iadd (C : Cx G me x) (d : decode me.2.1 pc = .ok (.iadd, 1)) (k : V G me x (pc + 1) loc (.int (iI (a + b)) :: st) N gf h kc ks) : V G me x pc loc (.int (iI b) :: .int (iI a) :: st) N gf h kc ks := V_lift C (fun hx hb k => lv_iadd hx hb d (by rw [iI_add]; exact k)) k
theorem V_isub (C : Cx G me x) (d : decode me.2.1 pc = .ok (.isub, 1)) (k : V G me x (pc + 1) loc (.int (iI (a - b)) :: st) N gf h kc ks) : V G me x pc loc (.int (iI b) :: .int (iI a) :: st) N gf h kc ks := V_lift C (fun hx hb k => lv_isub hx hb d (by rw [iI_sub]; exact k)) k
theorem V_imul (C : Cx G me x) (d : decode me.2.1 pc = .ok (.imul, 1)) (k : V G me x (pc + 1) loc (.int (iI (a * b)) :: st) N gf h kc ks) : V G me x pc loc (.int (iI b) :: .int (iI a) :: st) N gf h kc ks := V_lift C (fun hx hb k => lv_imul hx hb d (by rw [iI_mul]; exact k)) k
theorem V_idiv (C : Cx G me x) (d : decode me.2.1 pc = .ok (.idiv, 1)) (ha : 0 ≤ a ∧ a < 2147483648) (hb0 : 0 < b ∧ b < 2147483648) (k : V G me x (pc + 1) loc (.int (iI (a / b)) :: st) N gf h kc ks) : V G me x pc loc (.int (iI b) :: .int (iI a) :: st) N gf h kc ks :=
  V_lift C (fun hx hb k => lv_idiv hx hb d (fun e => by have := congrArg Int32.toInt e; rw [iI_toInt (by omega) (by omega)] at this; have z : (0 : Int32).toInt = 0 := rfl; omega) (by rw [iI_div ha hb0]; exact k)) k
theorem V_irem (C : Cx G me x) (d : decode me.2.1 pc = .ok (.irem, 1)) (ha : 0 ≤ a ∧ a < 2147483648) (hb0 : 0 < b ∧ b < 2147483648) (k : V G me x (pc + 1) loc (.int (iI (a % b)) :: st) N gf h kc ks) : V G me x pc loc (.int (iI b) :: .int (iI a) :: st) N gf h kc ks :=
  V_lift C (fun hx hb k => lv_irem hx hb d (fun e => by have := congrArg Int32.toInt e; rw [iI_toInt (by omega) (by omega)] at this; have z : (0 : Int32).toInt = 0 := rfl; omega) (by rw [iI_rem ha hb0]; exact k)) k
theorem V_ishr (C : Cx G me x) (d : decode me.2.1 pc = .ok (.ishr, 1)) (m s : Nat) (ha : a = m) (hb0 : b = s) (hm : m < 2147483648) (hs : s < 32) (k : V G me x (pc + 1) loc (.int (iI ((m >>> s : Nat) : Int)) :: st) N gf h kc ks) : V G me x pc loc (.int (iI b) :: .int (iI a) :: st) N gf h kc ks := by
  subst ha; subst hb0
  exact V_lift C (fun hx hb k => lv_ishr hx hb d (by rw [iI_shr hm hs]; exact k)) k
theorem V_iushr (C : Cx G me x) (d : decode me.2.1 pc = .ok (.iushr, 1)) (m s : Nat) (ha : a = m) (hb0 : b = s) (hm : m < 2147483648) (hs : s < 32) (k : V G me x (pc + 1) loc (.int (iI ((m >>> s : Nat) : Int)) :: st) N gf h kc ks) : V G me x pc loc (.int (iI b) :: .int (iI a) :: st) N gf h kc ks := by
  subst ha; subst hb0
  exact V_lift C (fun hx hb k => lv_iushr hx hb d (iI_ushr hm hs) k) k
theorem V_ishl (C : Cx G me x) (d : decode me.2.1 pc = .ok (.ishl, 1)) (m s : Nat) (ha : a = m) (hb0 : b = s) (hm : m <<< s < 4294967296) (hs : s < 32) (k : V G me x (pc + 1) loc (.int (iI ((m <<< s : Nat) : Int)) :: st) N gf h kc ks) : V G me x pc loc (.int (iI b) :: .int (iI a) :: st) N gf h kc ks := by
  subst ha; subst hb0
  exact V_lift C (fun hx hb k => lv_ishl hx hb d (by rw [iI_shl hm hs]; exact k)) k
theorem V_iand (C : Cx G me x) (d : decode me.2.1 pc = .ok (.iand, 1)) (m s : Nat) (ha : a = m) (hb0 : b = s) (k : V G me x (pc + 1) loc (.int (iI ((m &&& s : Nat) : Int)) :: st) N gf h kc ks) : V G me x pc loc (.int (iI b) :: .int (iI a) :: st) N gf h kc ks := by
  subst ha; subst hb0
  exact V_lift C (fun hx hb k => lv_iand hx hb d (by rw [iI_and]; exact k)) k
theorem V_ior (C : Cx G me x) (d : decode me.2.1 pc = .ok (.ior, 1)) (m s : Nat) (ha : a = m) (hb0 : b = s) (k : V G me x (pc + 1) loc (.int (iI ((m ||| s : Nat) : Int)) :: st) N gf h kc ks) : V G me x pc loc (.int (iI b) :: .int (iI a) :: st) N gf h kc ks := by
  subst ha; subst hb0
  exact V_lift C (fun hx hb k => lv_ior hx hb d (by rw [iI_or]; exact k)) k
theorem V_ladd (C : Cx G me x) (d : decode me.2.1 pc = .ok (.ladd, 1)) (k : V G me x (pc + 1) loc (.long (lL (a + b)) :: st) N gf h kc ks) : V G me x pc loc (.long (lL b) :: .long (lL a) :: st) N gf h kc ks := V_lift C (fun hx hb k => lv_ladd hx hb d (by rw [lL_add]; exact k)) k
theorem V_lsub (C : Cx G me x) (d : decode me.2.1 pc = .ok (.lsub, 1)) (k : V G me x (pc + 1) loc (.long (lL (a - b)) :: st) N gf h kc ks) : V G me x pc loc (.long (lL b) :: .long (lL a) :: st) N gf h kc ks := V_lift C (fun hx hb k => lv_lsub hx hb d (by rw [lL_sub]; exact k)) k
theorem V_lmul (C : Cx G me x) (d : decode me.2.1 pc = .ok (.lmul, 1)) (k : V G me x (pc + 1) loc (.long (lL (a * b)) :: st) N gf h kc ks) : V G me x pc loc (.long (lL b) :: .long (lL a) :: st) N gf h kc ks := V_lift C (fun hx hb k => lv_lmul hx hb d (by rw [lL_mul]; exact k)) k
theorem V_i2l (C : Cx G me x) (d : decode me.2.1 pc = .ok (.i2l, 1)) (ha : -2147483648 ≤ a ∧ a < 2147483648) (k : V G me x (pc + 1) loc (.long (lL a) :: st) N gf h kc ks) : V G me x pc loc (.int (iI a) :: st) N gf h kc ks := V_lift C (fun hx hb k => lv_i2l hx hb d (iI_i2l ha) k) k
theorem V_i2d (C : Cx G me x) (d : decode me.2.1 pc = .ok (.i2d, 1)) {w : Int32} (k : V G me x (pc + 1) loc (.double (FP.i2d w) :: st) N gf h kc ks) : V G me x pc loc (.int w :: st) N gf h kc ks := V_lift C (fun hx hb k => lv_i2d hx hb d k) k
theorem V_d2l (C : Cx G me x) (d : decode me.2.1 pc = .ok (.d2l, 1)) {w : UInt64} (k : V G me x (pc + 1) loc (.long (FP.d2l w) :: st) N gf h kc ks) : V G me x pc loc (.double w :: st) N gf h kc ks := V_lift C (fun hx hb k => lv_d2l hx hb d k) k
theorem V_ddiv (C : Cx G me x) (d : decode me.2.1 pc = .ok (.ddiv, 1)) {w z : UInt64} (hn : vf_n64 (FP.ddiv w z)) (k : V G me x (pc + 1) loc (.double (FP.ddiv w z) :: st) N gf h kc ks) : V G me x pc loc (.double z :: .double w :: st) N gf h kc ks := V_lift C (fun hx hb k => lv_ddiv hx hb d hn k) k
theorem V_dmul (C : Cx G me x) (d : decode me.2.1 pc = .ok (.dmul, 1)) {w z : UInt64} (hn : vf_n64 (FP.dmul w z)) (k : V G me x (pc + 1) loc (.double (FP.dmul w z) :: st) N gf h kc ks) : V G me x pc loc (.double z :: .double w :: st) N gf h kc ks := V_lift C (fun hx hb k => lv_dmul hx hb d hn k) k
theorem V_dsub (C : Cx G me x) (d : decode me.2.1 pc = .ok (.dsub, 1)) {w z : UInt64} (hn : vf_n64 (FP.dsub w z)) (k : V G me x (pc + 1) loc (.double (FP.dsub w z) :: st) N gf h kc ks) : V G me x pc loc (.double z :: .double w :: st) N gf h kc ks := V_lift C (fun hx hb k => lv_dsub hx hb d hn k) k
theorem V_dcmp (C : Cx G me x) {op : CmpOp} (d : decode me.2.1 pc = .ok (.dcmp op, 1)) {w z : UInt64} (k : V G me x (pc + 1) loc (.int (Op.cmpValue (FP.dcmp w z) op) :: st) N gf h kc ks) : V G me x pc loc (.double z :: .double w :: st) N gf h kc ks := V_lift C (fun hx hb k => lv_dcmp hx hb d k) k
theorem V_lcmp (C : Cx G me x) (d : decode me.2.1 pc = .ok (.lcmp, 1)) {w z : Int64} (k : V G me x (pc + 1) loc (.int (lg_cmp w z) :: st) N gf h kc ks) : V G me x pc loc (.long z :: .long w :: st) N gf h kc ks := V_lift C (fun hx hb k => W.lcmp hx hb d k) k
theorem V_dup (C : Cx G me x) (d : decode me.2.1 pc = .ok (.dup, 1)) {v : Value} (hv : v.category = 1) (k : V G me x (pc + 1) loc (v :: v :: st) N gf h kc ks) : V G me x pc loc (v :: st) N gf h kc ks := V_lift C (fun hx hb k => lv_dup hx hb d hv k) k
theorem V_dup2 (C : Cx G me x) (d : decode me.2.1 pc = .ok (.dup2, 1)) {v w : Value} (hv : v.category = 1) (hw : w.category = 1) (k : V G me x (pc + 1) loc (v :: w :: v :: w :: st) N gf h kc ks) : V G me x pc loc (v :: w :: st) N gf h kc ks := V_lift C (fun hx hb k => lv_dup2_11 hx hb d hv hw k) k
theorem V_pop (C : Cx G me x) (d : decode me.2.1 pc = .ok (.pop, 1)) {v : Value} (hv : v.category = 1) (k : V G me x (pc + 1) loc st N gf h kc ks) : V G me x pc loc (v :: st) N gf h kc ks := V_lift C (fun hx hb k => lv_pop hx hb d hv k) k
theorem V_goto (C : Cx G me x) {off : Int} {tgt : Nat} (d : decode me.2.1 pc = .ok (.goto off, 3)) (ht : (pc : Int) + off = (tgt : Int)) (k : V G me x tgt loc st N gf h kc ks) : V G me x pc loc st N gf h kc ks := V_lift C (fun hx hb k => lv_goto hx hb d ht k) k
end VR
end
section
/-! locals -/
section VR2
variable {G : GT} {me : MeT} {x : CxT} {pc : Nat} {loc : List (Option Value)} {st : List Value} {N : Nat} {gf : Bool} {h : Hp} {kc ks : Nat} {a b : Int}
theorem V_loc {loc' : List (Option Value)} (hl : ∀ (i : Nat) (v : Value), loc'[i]? = some (some v) → loc[i]? = some (some v)) (k : V G me x pc loc' st N gf h kc ks) : V G me x pc loc st N gf h kc ks := by
  obtain ⟨p, e, R, s, m, args, below, meth, c, Z⟩ := x
  exact fun H locs cells slots ls hW hS hl0 h1 h2 => k H locs cells slots ls hW hS ⟨hl0.1, hl0.2.1, fun i v q => hl0.2.2 i v (hl i v q)⟩ h1 h2
/-- the locals written otherwise -/
theorem V_eq {pc' : Nat} {loc' : List (Option Value)} {st' : List Value} {h' : Hp} (e1 : pc = pc') (e2 : loc = loc') (e3 : st = st') (e4 : h = h') (k : V G me x pc' loc' st' N gf h' kc ks) : V G me x pc loc st N gf h kc ks := by
  subst e1; subst e2; subst e3; subst e4; exact k
/-- fewer locals are known: by a row of marks -/
def locP : List (Option Value) → List Bool → List (Option Value)
  | o :: l, b :: m => (if b then o else none) :: locP l m
  | l, _ => l
theorem locP_at : ∀ (l : List (Option Value)) (m : List Bool) (i : Nat) (v : Value), (locP l m)[i]? = some (some v) → l[i]? = some (some v)
  | [], [], i, v, h => h
  | [], _ :: _, i, v, h => h
  | o :: l, [], i, v, h => h
  | o :: l, b :: m, 0, v, h => by
    simp only [locP, List.getElem?_cons_zero] at h ⊢
    cases b
    · simp at h
    · simpa using h
  | o :: l, b :: m, i + 1, v, h => by
    simp only [locP, List.getElem?_cons_succ] at h ⊢
    exact locP_at l m i v h
theorem V_drop (marks : List Bool) (k : V G me x pc (locP loc marks) st N gf h kc ks) : V G me x pc loc st N gf h kc ks := V_loc (locP_at loc marks) k
theorem V_ld (C : Cx G me x) {i : Nat} {v : Value} (hl : loc[i]? = some (some v)) {pc' : Nat}
    (f : ∀ {p : Program} {e : Env} {R : Room} {s : State} {m : MethodId} {args : Array Value} {below : List Frame} {meth : Method} {c : Code} {Z : State → Prop} {H : Heap} {locs : List Loc} {cells slots : Nat} {ls : Array Slot}, p.tables.exec = Jvm.exec → c.code = me.2.1 → ls[i]? = some (.val v) → W p G.1 e R s m args below meth c H locs cells slots Z (F0 m pc' ls (v :: st)) → W p G.1 e R s m args below meth c H locs cells slots Z (F0 m pc ls st))
    (k : V G me x pc' loc (v :: st) N gf h kc ks) : V G me x pc loc st N gf h kc ks := by
  obtain ⟨p, e, R, s, m, args, below, meth, c, Z⟩ := x
  obtain ⟨hx, hb, -⟩ := C
  exact fun H locs cells slots ls hW hS hl0 h1 h2 => f hx hb (hl0.2.2 i v hl) (k H locs cells slots ls hW hS hl0 h1 h2)
theorem V_iload_n {k : Fin 4} {i : Nat} {w : Int32} (C : Cx G me x) (d : decode me.2.1 pc = .ok (.iload_n k, 1)) (hi : (k : Nat) = i) (hl : loc[i]? = some (some (.int w))) (kk : V G me x (pc + 1) loc (.int w :: st) N gf h kc ks) : V G me x pc loc st N gf h kc ks := V_ld C hl (fun hx hb q kk => lv_iload_n hx hb d hi q kk) kk
theorem V_iload {i : Nat} {w : Int32} (C : Cx G me x) (d : decode me.2.1 pc = .ok (.iload i, 2)) (hl : loc[i]? = some (some (.int w))) (kk : V G me x (pc + 2) loc (.int w :: st) N gf h kc ks) : V G me x pc loc st N gf h kc ks := V_ld C hl (fun hx hb q kk => lv_iload hx hb d q kk) kk
theorem V_lload_n {k : Fin 4} {i : Nat} {w : Int64} (C : Cx G me x) (d : decode me.2.1 pc = .ok (.lload_n k, 1)) (hi : (k : Nat) = i) (hl : loc[i]? = some (some (.long w))) (kk : V G me x (pc + 1) loc (.long w :: st) N gf h kc ks) : V G me x pc loc st N gf h kc ks := V_ld C hl (fun hx hb q kk => lv_lload_n hx hb d hi q kk) kk
theorem V_lload {i : Nat} {w : Int64} (C : Cx G me x) (d : decode me.2.1 pc = .ok (.lload i, 2)) (hl : loc[i]? = some (some (.long w))) (kk : V G me x (pc + 2) loc (.long w :: st) N gf h kc ks) : V G me x pc loc st N gf h kc ks := V_ld C hl (fun hx hb q kk => lv_lload hx hb d q kk) kk
theorem V_dload_n {k : Fin 4} {i : Nat} {w : UInt64} (C : Cx G me x) (d : decode me.2.1 pc = .ok (.dload_n k, 1)) (hi : (k : Nat) = i) (hl : loc[i]? = some (some (.double w))) (kk : V G me x (pc + 1) loc (.double w :: st) N gf h kc ks) : V G me x pc loc st N gf h kc ks := V_ld C hl (fun hx hb q kk => lv_dload_n hx hb d hi q kk) kk
theorem V_dload {i : Nat} {w : UInt64} (C : Cx G me x) (d : decode me.2.1 pc = .ok (.dload i, 2)) (hl : loc[i]? = some (some (.double w))) (kk : V G me x (pc + 2) loc (.double w :: st) N gf h kc ks) : V G me x pc loc st N gf h kc ks := V_ld C hl (fun hx hb q kk => lv_dload hx hb d q kk) kk
theorem V_aload_n {k : Fin 4} {i j : Nat} (C : Cx G me x) (d : decode me.2.1 pc = .ok (.aload_n k, 1)) (hi : (k : Nat) = i) (hl : loc[i]? = some (some (rf G j))) (kk : V G me x (pc + 1) loc (rf G j :: st) N gf h kc ks) : V G me x pc loc st N gf h kc ks := V_ld C hl (fun hx hb q kk => lv_aload_n hx hb d hi q kk) kk
theorem V_aload {i j : Nat} (C : Cx G me x) (d : decode me.2.1 pc = .ok (.aload i, 2)) (hl : loc[i]? = some (some (rf G j))) (kk : V G me x (pc + 2) loc (rf G j :: st) N gf h kc ks) : V G me x pc loc st N gf h kc ks := V_ld C hl (fun hx hb q kk => lv_aload hx hb d q kk) kk
/-- the script, or what else is no cell of the world -/
theorem V_aload_nq {k : Fin 4} {i q : Nat} (C : Cx G me x) (d : decode me.2.1 pc = .ok (.aload_n k, 1)) (hi : (k : Nat) = i) (hl : loc[i]? = some (some (.ref q))) (kk : V G me x (pc + 1) loc (.ref q :: st) N gf h kc ks) : V G me x pc loc st N gf h kc ks := V_ld C hl (fun hx hb q kk => lv_aload_n hx hb d hi q kk) kk
theorem V_st1 (C : Cx G me x) {i pc' : Nat} {v : Value} (hi : i < me.2.2.1) (hz : nc2 loc i = true)
    (f : ∀ {p : Program} {e : Env} {R : Room} {s : State} {m : MethodId} {args : Array Value} {below : List Frame} {meth : Method} {c : Code} {Z : State → Prop} {H : Heap} {locs : List Loc} {cells slots : Nat} {ls : Array Slot} {lv : List (Nat × Value)}, p.tables.exec = Jvm.exec → c.code = me.2.1 → lv_has ls me.2.2.1 lv → (∀ ls' : Array Slot, lv_has ls' me.2.2.1 ((i, v) :: lv.filter (fun q => !(q.1 == i) && !(q.1 + 1 == i && q.2.category == 2))) → W p G.1 e R s m args below meth c H locs cells slots Z (F0 m pc' ls' st)) → W p G.1 e R s m args below meth c H locs cells slots Z (F0 m pc ls (v :: st)))
    (k : V G me x pc' (loc.set i (some v)) st N gf h kc ks) : V G me x pc loc (v :: st) N gf h kc ks := by
  obtain ⟨p, e, R, s, m, args, below, meth, c, Z⟩ := x
  obtain ⟨hx, hb, -⟩ := C
  exact fun H locs cells slots ls hW hS hl0 h1 h2 => f hx hb hl0.to (fun ls' hl' => k H locs cells slots ls' hW hS (LH.of hl' (set1_mem hz)) h1 h2)
theorem V_st2 (C : Cx G me x) {i pc' : Nat} {v : Value} (hz : nc2 loc i = true)
    (f : ∀ {p : Program} {e : Env} {R : Room} {s : State} {m : MethodId} {args : Array Value} {below : List Frame} {meth : Method} {c : Code} {Z : State → Prop} {H : Heap} {locs : List Loc} {cells slots : Nat} {ls : Array Slot} {lv : List (Nat × Value)}, p.tables.exec = Jvm.exec → c.code = me.2.1 → lv_has ls me.2.2.1 lv → (∀ ls' : Array Slot, lv_has ls' me.2.2.1 ((i, v) :: lv.filter (fun q => !(q.1 == i) && (!(q.1 == i + 1) && !(q.1 + 1 == i && q.2.category == 2)))) → W p G.1 e R s m args below meth c H locs cells slots Z (F0 m pc' ls' st)) → W p G.1 e R s m args below meth c H locs cells slots Z (F0 m pc ls (v :: st)))
    (k : V G me x pc' ((loc.set i (some v)).set (i + 1) none) st N gf h kc ks) : V G me x pc loc (v :: st) N gf h kc ks := by
  obtain ⟨p, e, R, s, m, args, below, meth, c, Z⟩ := x
  obtain ⟨hx, hb, -⟩ := C
  exact fun H locs cells slots ls hW hS hl0 h1 h2 => f hx hb hl0.to (fun ls' hl' => k H locs cells slots ls' hW hS (LH.of hl' (set2_mem hz)) h1 h2)
theorem V_istore_n {k : Fin 4} {i : Nat} {w : Int32} (C : Cx G me x) (d : decode me.2.1 pc = .ok (.istore_n k, 1)) (hk : (k : Nat) = i) (hi : i < me.2.2.1) (hz : nc2 loc i = true) (kk : V G me x (pc + 1) (loc.set i (some (.int w))) st N gf h kc ks) : V G me x pc loc (.int w :: st) N gf h kc ks := V_st1 C hi hz (fun hx hb hl kk => lv_istore_n hx hb d hk hl hi rfl kk) kk
theorem V_istore {i : Nat} {w : Int32} (C : Cx G me x) (d : decode me.2.1 pc = .ok (.istore i, 2)) (hi : i < me.2.2.1) (hz : nc2 loc i = true) (kk : V G me x (pc + 2) (loc.set i (some (.int w))) st N gf h kc ks) : V G me x pc loc (.int w :: st) N gf h kc ks := V_st1 C hi hz (fun hx hb hl kk => lv_istore hx hb d hl hi rfl kk) kk
theorem V_astore_n {k : Fin 4} {i q : Nat} (C : Cx G me x) (d : decode me.2.1 pc = .ok (.astore_n k, 1)) (hk : (k : Nat) = i) (hi : i < me.2.2.1) (hz : nc2 loc i = true) (kk : V G me x (pc + 1) (loc.set i (some (.ref q))) st N gf h kc ks) : V G me x pc loc (.ref q :: st) N gf h kc ks := V_st1 C hi hz (fun hx hb hl kk => lv_astore_n hx hb d hk hl hi rfl kk) kk
theorem V_astore {i q : Nat} (C : Cx G me x) (d : decode me.2.1 pc = .ok (.astore i, 2)) (hi : i < me.2.2.1) (hz : nc2 loc i = true) (kk : V G me x (pc + 2) (loc.set i (some (.ref q))) st N gf h kc ks) : V G me x pc loc (.ref q :: st) N gf h kc ks := V_st1 C hi hz (fun hx hb hl kk => lv_astore hx hb d hl hi rfl kk) kk
theorem V_astore_nr {k : Fin 4} {i j : Nat} (C : Cx G me x) (d : decode me.2.1 pc = .ok (.astore_n k, 1)) (hk : (k : Nat) = i) (hi : i < me.2.2.1) (hz : nc2 loc i = true) (kk : V G me x (pc + 1) (loc.set i (some (rf G j))) st N gf h kc ks) : V G me x pc loc (rf G j :: st) N gf h kc ks := V_astore_n (q := G.2.1 + j) C d hk hi hz kk
theorem V_astorer {i j : Nat} (C : Cx G me x) (d : decode me.2.1 pc = .ok (.astore i, 2)) (hi : i < me.2.2.1) (hz : nc2 loc i = true) (kk : V G me x (pc + 2) (loc.set i (some (rf G j))) st N gf h kc ks) : V G me x pc loc (rf G j :: st) N gf h kc ks := V_astore (q := G.2.1 + j) C d hi hz kk
theorem V_lstore_n {k : Fin 4} {i : Nat} {w : Int64} (C : Cx G me x) (d : decode me.2.1 pc = .ok (.lstore_n k, 1)) (hk : (k : Nat) = i) (hi : i + 1 < me.2.2.1) (hz : nc2 loc i = true) (kk : V G me x (pc + 1) ((loc.set i (some (.long w))).set (i + 1) none) st N gf h kc ks) : V G me x pc loc (.long w :: st) N gf h kc ks := V_st2 C hz (fun hx hb hl kk => lv_lstore_n hx hb d hk hl hi rfl kk) kk
theorem V_lstore {i : Nat} {w : Int64} (C : Cx G me x) (d : decode me.2.1 pc = .ok (.lstore i, 2)) (hi : i + 1 < me.2.2.1) (hz : nc2 loc i = true) (kk : V G me x (pc + 2) ((loc.set i (some (.long w))).set (i + 1) none) st N gf h kc ks) : V G me x pc loc (.long w :: st) N gf h kc ks := V_st2 C hz (fun hx hb hl kk => lv_lstore hx hb d hl hi rfl kk) kk
theorem V_dstore_n {k : Fin 4} {i : Nat} {w : UInt64} (C : Cx G me x) (d : decode me.2.1 pc = .ok (.dstore_n k, 1)) (hk : (k : Nat) = i) (hi : i + 1 < me.2.2.1) (hz : nc2 loc i = true) (kk : V G me x (pc + 1) ((loc.set i (some (.double w))).set (i + 1) none) st N gf h kc ks) : V G me x pc loc (.double w :: st) N gf h kc ks := V_st2 C hz (fun hx hb hl kk => lv_dstore_n hx hb d hk hl hi rfl kk) kk
theorem V_dstore {i : Nat} {w : UInt64} (C : Cx G me x) (d : decode me.2.1 pc = .ok (.dstore i, 2)) (hi : i + 1 < me.2.2.1) (hz : nc2 loc i = true) (kk : V G me x (pc + 2) ((loc.set i (some (.double w))).set (i + 1) none) st N gf h kc ks) : V G me x pc loc (.double w :: st) N gf h kc ks := V_st2 C hz (fun hx hb hl kk => lv_dstore hx hb d hl hi rfl kk) kk
theorem V_iinc {i : Nat} {n : Int} (C : Cx G me x) (d : decode me.2.1 pc = .ok (.iinc i n, 3)) (hl : loc[i]? = some (some (.int (iI a)))) (hi : i < me.2.2.1) (hz : nc2 loc i = true) (kk : V G me x (pc + 3) (loc.set i (some (.int (iI (a + n))))) st N gf h kc ks) : V G me x pc loc st N gf h kc ks := by
  obtain ⟨p, e, R, s, m, args, below, meth, c, Z⟩ := x
  obtain ⟨hx, hb, -⟩ := C
  intro H locs cells slots ls hW hS hl0 h1 h2
  obtain ⟨k, hk⟩ := List.getElem?_of_mem (lvl_mem.mpr hl)
  exact lv_iinc hx hb d hl0.to hk (iI_add a n) hi rfl (fun ls' hl' => kk H locs cells slots ls' hW hS (LH.of hl' (set1_mem hz)) h1 h2)
/-! branches -/
theorem V_if (C : Cx G me x) {st' : List Value} {pt pf : Nat} {P : Prop}
    (f : ∀ {p : Program} {e : Env} {R : Room} {s : State} {m : MethodId} {args : Array Value} {below : List Frame} {meth : Method} {c : Code} {Z : State → Prop} {H : Heap} {locs : List Loc} {cells slots : Nat} {ls : Array Slot}, p.tables.exec = Jvm.exec → c.code = me.2.1 → (P → W p G.1 e R s m args below meth c H locs cells slots Z (F0 m pt ls st')) → (¬ P → W p G.1 e R s m args below meth c H locs cells slots Z (F0 m pf ls st')) → W p G.1 e R s m args below meth c H locs cells slots Z (F0 m pc ls st))
    (kt : P → V G me x pt loc st' N gf h kc ks) (kf : ¬ P → V G me x pf loc st' N gf h kc ks) : V G me x pc loc st N gf h kc ks := by
  obtain ⟨p, e, R, s, m, args, below, meth, c, Z⟩ := x
  obtain ⟨hx, hb, -⟩ := C
  exact fun H locs cells slots ls hW hS hl0 h1 h2 => f hx hb (fun q => kt q H locs cells slots ls hW hS hl0 h1 h2) (fun q => kf q H locs cells slots ls hW hS hl0 h1 h2)
theorem z0 : (0 : Int32) = iI 0 := rfl
theorem V_icmp_eq (C : Cx G me x) {off : Int} {tgt : Nat} (d : decode me.2.1 pc = .ok (.if_icmp .eq off, 3)) (ht : (pc : Int) + off = (tgt : Int)) (ha : -2147483648 ≤ a ∧ a < 2147483648) (hb9 : -2147483648 ≤ b ∧ b < 2147483648) (kt : a = b → V G me x tgt loc st N gf h kc ks) (kf : ¬ a = b → V G me x (pc + 3) loc st N gf h kc ks) : V G me x pc loc (.int (iI b) :: .int (iI a) :: st) N gf h kc ks :=
  V_if (P := a = b) C (fun hx hb kt kf => lv_icmp_eq hx hb d ht (fun q => kt ((iI_eq ha hb9).mp q)) (fun q => kf (fun z => q ((iI_eq ha hb9).mpr z)))) kt kf
theorem V_icmp_ne (C : Cx G me x) {off : Int} {tgt : Nat} (d : decode me.2.1 pc = .ok (.if_icmp .ne off, 3)) (ht : (pc : Int) + off = (tgt : Int)) (ha : -2147483648 ≤ a ∧ a < 2147483648) (hb9 : -2147483648 ≤ b ∧ b < 2147483648) (kt : ¬ a = b → V G me x tgt loc st N gf h kc ks) (kf : a = b → V G me x (pc + 3) loc st N gf h kc ks) : V G me x pc loc (.int (iI b) :: .int (iI a) :: st) N gf h kc ks :=
  V_if (P := ¬ a = b) C (fun hx hb kt kf => lv_icmp_ne hx hb d ht (fun q => kt (fun z => q ((iI_eq ha hb9).mpr z))) (fun q => kf (fun z => z ((iI_eq ha hb9).mp q)))) kt (fun q => kf (Decidable.not_not.mp q))
theorem V_icmp_lt (C : Cx G me x) {off : Int} {tgt : Nat} (d : decode me.2.1 pc = .ok (.if_icmp .lt off, 3)) (ht : (pc : Int) + off = (tgt : Int)) (ha : -2147483648 ≤ a ∧ a < 2147483648) (hb9 : -2147483648 ≤ b ∧ b < 2147483648) (kt : a < b → V G me x tgt loc st N gf h kc ks) (kf : ¬ a < b → V G me x (pc + 3) loc st N gf h kc ks) : V G me x pc loc (.int (iI b) :: .int (iI a) :: st) N gf h kc ks :=
  V_if (P := a < b) C (fun hx hb kt kf => lv_icmp_lt hx hb d ht (fun q => kt ((iI_lt ha hb9).mp q)) (fun q => kf (fun z => q ((iI_lt ha hb9).mpr z)))) kt kf
theorem V_icmp_ge (C : Cx G me x) {off : Int} {tgt : Nat} (d : decode me.2.1 pc = .ok (.if_icmp .ge off, 3)) (ht : (pc : Int) + off = (tgt : Int)) (ha : -2147483648 ≤ a ∧ a < 2147483648) (hb9 : -2147483648 ≤ b ∧ b < 2147483648) (kt : b ≤ a → V G me x tgt loc st N gf h kc ks) (kf : ¬ b ≤ a → V G me x (pc + 3) loc st N gf h kc ks) : V G me x pc loc (.int (iI b) :: .int (iI a) :: st) N gf h kc ks :=
  V_if (P := b ≤ a) C (fun hx hb kt kf => lv_icmp_ge hx hb d ht (fun q => kt ((iI_le hb9 ha).mp q)) (fun q => kf (fun z => q ((iI_le hb9 ha).mpr z)))) kt kf
theorem V_icmp_gt (C : Cx G me x) {off : Int} {tgt : Nat} (d : decode me.2.1 pc = .ok (.if_icmp .gt off, 3)) (ht : (pc : Int) + off = (tgt : Int)) (ha : -2147483648 ≤ a ∧ a < 2147483648) (hb9 : -2147483648 ≤ b ∧ b < 2147483648) (kt : b < a → V G me x tgt loc st N gf h kc ks) (kf : ¬ b < a → V G me x (pc + 3) loc st N gf h kc ks) : V G me x pc loc (.int (iI b) :: .int (iI a) :: st) N gf h kc ks :=
  V_if (P := b < a) C (fun hx hb kt kf => lv_icmp_gt hx hb d ht (fun q => kt ((iI_lt hb9 ha).mp q)) (fun q => kf (fun z => q ((iI_lt hb9 ha).mpr z)))) kt kf
theorem V_icmp_le (C : Cx G me x) {off : Int} {tgt : Nat} (d : decode me.2.1 pc = .ok (.if_icmp .le off, 3)) (ht : (pc : Int) + off = (tgt : Int)) (ha : -2147483648 ≤ a ∧ a < 2147483648) (hb9 : -2147483648 ≤ b ∧ b < 2147483648) (kt : a ≤ b → V G me x tgt loc st N gf h kc ks) (kf : ¬ a ≤ b → V G me x (pc + 3) loc st N gf h kc ks) : V G me x pc loc (.int (iI b) :: .int (iI a) :: st) N gf h kc ks :=
  V_if (P := a ≤ b) C (fun hx hb kt kf => lv_icmp_le hx hb d ht (fun q => kt ((iI_le ha hb9).mp q)) (fun q => kf (fun z => q ((iI_le ha hb9).mpr z)))) kt kf
theorem V_if_eq (C : Cx G me x) {off : Int} {tgt : Nat} (d : decode me.2.1 pc = .ok (.ifCond .eq off, 3)) (ht : (pc : Int) + off = (tgt : Int)) (ha : -2147483648 ≤ a ∧ a < 2147483648) (kt : a = 0 → V G me x tgt loc st N gf h kc ks) (kf : ¬ a = 0 → V G me x (pc + 3) loc st N gf h kc ks) : V G me x pc loc (.int (iI a) :: st) N gf h kc ks :=
  V_if (P := a = 0) C (fun hx hb kt kf => lv_if_eq hx hb d ht (fun q => kt ((iI_eq ha (b := 0) (by omega)).mp q)) (fun q => kf (fun z => q ((iI_eq ha (b := 0) (by omega)).mpr z)))) kt kf
theorem V_if_ne (C : Cx G me x) {off : Int} {tgt : Nat} (d : decode me.2.1 pc = .ok (.ifCond .ne off, 3)) (ht : (pc : Int) + off = (tgt : Int)) (ha : -2147483648 ≤ a ∧ a < 2147483648) (kt : ¬ a = 0 → V G me x tgt loc st N gf h kc ks) (kf : a = 0 → V G me x (pc + 3) loc st N gf h kc ks) : V G me x pc loc (.int (iI a) :: st) N gf h kc ks :=
  V_if (P := ¬ a = 0) C (fun hx hb kt kf => lv_if_ne hx hb d ht (fun q => kt (fun z => q ((iI_eq ha (b := 0) (by omega)).mpr z))) (fun q => kf (fun z => z ((iI_eq ha (b := 0) (by omega)).mp q)))) kt (fun q => kf (Decidable.not_not.mp q))
theorem V_if_lt (C : Cx G me x) {off : Int} {tgt : Nat} (d : decode me.2.1 pc = .ok (.ifCond .lt off, 3)) (ht : (pc : Int) + off = (tgt : Int)) (ha : -2147483648 ≤ a ∧ a < 2147483648) (kt : a < 0 → V G me x tgt loc st N gf h kc ks) (kf : ¬ a < 0 → V G me x (pc + 3) loc st N gf h kc ks) : V G me x pc loc (.int (iI a) :: st) N gf h kc ks :=
  V_if (P := a < 0) C (fun hx hb kt kf => lv_if_lt hx hb d ht (fun q => kt ((iI_lt ha (b := 0) (by omega)).mp q)) (fun q => kf (fun z => q ((iI_lt ha (b := 0) (by omega)).mpr z)))) kt kf
theorem V_if_ge (C : Cx G me x) {off : Int} {tgt : Nat} (d : decode me.2.1 pc = .ok (.ifCond .ge off, 3)) (ht : (pc : Int) + off = (tgt : Int)) (ha : -2147483648 ≤ a ∧ a < 2147483648) (kt : 0 ≤ a → V G me x tgt loc st N gf h kc ks) (kf : ¬ 0 ≤ a → V G me x (pc + 3) loc st N gf h kc ks) : V G me x pc loc (.int (iI a) :: st) N gf h kc ks :=
  V_if (P := 0 ≤ a) C (fun hx hb kt kf => lv_if_ge hx hb d ht (fun q => kt ((iI_le (a := 0) (by omega) ha).mp q)) (fun q => kf (fun z => q ((iI_le (a := 0) (by omega) ha).mpr z)))) kt kf
theorem V_if_gt (C : Cx G me x) {off : Int} {tgt : Nat} (d : decode me.2.1 pc = .ok (.ifCond .gt off, 3)) (ht : (pc : Int) + off = (tgt : Int)) (ha : -2147483648 ≤ a ∧ a < 2147483648) (kt : 0 < a → V G me x tgt loc st N gf h kc ks) (kf : ¬ 0 < a → V G me x (pc + 3) loc st N gf h kc ks) : V G me x pc loc (.int (iI a) :: st) N gf h kc ks :=
  V_if (P := 0 < a) C (fun hx hb kt kf => lv_if_gt hx hb d ht (fun q => kt ((iI_lt (a := 0) (by omega) ha).mp q)) (fun q => kf (fun z => q ((iI_lt (a := 0) (by omega) ha).mpr z)))) kt kf
theorem V_if_le (C : Cx G me x) {off : Int} {tgt : Nat} (d : decode me.2.1 pc = .ok (.ifCond .le off, 3)) (ht : (pc : Int) + off = (tgt : Int)) (ha : -2147483648 ≤ a ∧ a < 2147483648) (kt : a ≤ 0 → V G me x tgt loc st N gf h kc ks) (kf : ¬ a ≤ 0 → V G me x (pc + 3) loc st N gf h kc ks) : V G me x pc loc (.int (iI a) :: st) N gf h kc ks :=
  V_if (P := a ≤ 0) C (fun hx hb kt kf => lv_if_le hx hb d ht (fun q => kt ((iI_le ha (b := 0) (by omega)).mp q)) (fun q => kf (fun z => q ((iI_le ha (b := 0) (by omega)).mpr z)))) kt kf
theorem V_ifnull (C : Cx G me x) {j : Nat} {off : Int} (d : decode me.2.1 pc = .ok (.ifnull off, 3)) (k : V G me x (pc + 3) loc st N gf h kc ks) : V G me x pc loc (rf G j :: st) N gf h kc ks := V_lift C (fun hx hb k => lv_ifnull hx hb d k) k
theorem V_tableIn (C : Cx G me x) {dflt lo hi : Int} {offs : Array Int} {len : Nat} {off : Int} {tgt : Nat} (d : decode me.2.1 pc = .ok (.tableswitch dflt lo hi offs, len)) (ha : -2147483648 ≤ a ∧ a < 2147483648) (h1 : ¬ a < lo) (h2 : ¬ hi < a) (ho : offs[(a - lo).toNat]? = some off) (ht : (pc : Int) + off = (tgt : Int)) (k : V G me x tgt loc st N gf h kc ks) : V G me x pc loc (.int (iI a) :: st) N gf h kc ks := by
  have e := iI_toInt ha.1 ha.2
  exact V_lift C (fun hx hb k => lv_tableIn hx hb d (by rw [e]; exact h1) (by rw [e]; exact h2) (by rw [e]; exact ho) ht k) k
theorem V_tableOut (C : Cx G me x) {dflt lo hi : Int} {offs : Array Int} {len : Nat} {tgt : Nat} (d : decode me.2.1 pc = .ok (.tableswitch dflt lo hi offs, len)) (ha : -2147483648 ≤ a ∧ a < 2147483648) (h1 : a < lo ∨ hi < a) (ht : (pc : Int) + dflt = (tgt : Int)) (k : V G me x tgt loc st N gf h kc ks) : V G me x pc loc (.int (iI a) :: st) N gf h kc ks := by
  have e := iI_toInt ha.1 ha.2
  exact V_lift C (fun hx hb k => lv_tableOut hx hb d (by rw [e]; exact h1) ht k) k
theorem V_lookup (C : Cx G me x) {dflt : Int} {ps : Array (Int × Int)} {len : Nat} {off : Int} {tgt : Nat} (d : decode me.2.1 pc = .ok (.lookupswitch dflt ps, len)) (hp : (ps.toList.zip (ps.toList.drop 1)).all (fun (a, next) => a.1 < next.1) = true) (ha : -2147483648 ≤ a ∧ a < 2147483648) (ho : Op.lookupswitch.offset ps.toList dflt a = off) (ht : (pc : Int) + off = (tgt : Int)) (k : V G me x tgt loc st N gf h kc ks) : V G me x pc loc (.int (iI a) :: st) N gf h kc ks := by
  have e := iI_toInt ha.1 ha.2
  exact V_lift C (fun hx hb k => lv_lookup hx hb d hp (by rw [e]; exact ho) ht k) k
end VR2
end
section
/-! fields, arrays, new cells -/
theorem cl_gd : ∀ (ci : Nat) (C : String) (T : u_T) (n : Nat), vwCl[ci]? = some (C, T, n) → ∀ w ∈ u_ws C T n, w ∈ lw_gd := by
  intro ci C T n hq
  match ci, hq with
  | 0, hq => cases hq; exact uX0
  | 1, hq => cases hq; exact uX1
  | 2, hq => cases hq; exact uX2
  | 3, hq => cases hq; exact uX3
  | 4, hq => cases hq; exact uX4
  | 5, hq => cases hq; exact uX5
  | 6, hq => cases hq; exact uX6
  | k + 7, hq => simp [vwCl] at hq
theorem cl_ty : ∀ (ci : Nat) (C : String) (T : u_T) (n : Nat), vwCl[ci]? = some (C, T, n) → ∃ ty : Nat → FieldType, (∀ k, k < n → parseFieldDescriptor (T k).2.2.1 = some (ty k)) ∧ ∀ a, a < n → ∀ b, b < n → a ≠ b → (T a).2.1 ≠ (T b).2.1 := by
  intro ci C T n hq
  match ci, hq with
  | 0, hq => cases hq; exact ⟨_, tyX0_ok, nmX0⟩
  | 1, hq => cases hq; exact ⟨_, tyX1_ok, nmX1⟩
  | 2, hq => cases hq; exact ⟨_, tyX2_ok, nmX2⟩
  | 3, hq => cases hq; exact ⟨_, tyX3_ok, nmX3⟩
  | 4, hq => cases hq; exact ⟨_, tyX4_ok, nmX4⟩
  | 5, hq => cases hq; exact ⟨_, tyX5_ok, nmX5⟩
  | 6, hq => cases hq; exact ⟨_, tyX6_ok, nmX6⟩
  | k + 7, hq => simp [vwCl] at hq
/-- the field k of the class ci -/
def cT (ci k : Nat) : String × String × String × Bool := match vwCl[ci]? with
  | some q => q.2.1 k
  | none => ("", "", "", false)
theorem cT_of {ci k n : Nat} {C : String} {T : u_T} (h : vwCl[ci]? = some (C, T, n)) : cT ci k = T k := by simp only [cT, h]
theorem HW.put {G : GT} {N i : Nat} {gf : Bool} {h : Hp} {H H1 : Heap} {c : va_E} (hW : HW G N gf h H) (hi : i < N) (z : H1.size = H.size) (hP : va_P G.2.2.1 vwCl ((wsO G N h).set i (G.2.1 + i, c)) H1) : HW G N gf (hs h i c) H1 := by
  rw [wsO_set hi] at hP
  exact ⟨hP, by rw [z]; exact hW.2.1, fun g => by rw [z]; exact hW.2.2 g⟩
theorem HW.putF {G : GT} {N i : Nat} {h : Hp} {H1 : Heap} {c : va_E} (hi : i < N) (hP : va_P G.2.2.1 vwCl ((wsO G N h).set i (G.2.1 + i, c)) H1) : HW G N false (hs h i c) H1 := by
  rw [wsO_set hi] at hP
  refine ⟨hP, ?_, fun g => by cases g⟩
  have h1 := (hP (N - 1) _ (wsO_at (by omega))).lt
  simp only at h1
  omega
section VR3
variable {G : GT} {me : MeT} {x : CxT} {pc : Nat} {loc : List (Option Value)} {st : List Value} {N : Nat} {gf : Bool} {h : Hp} {kc ks : Nat} {a b : Int}
theorem V_getf {idx ci k i : Nat} {fs : List Value} {v : Value} (C : Cx G me x) (d : decode me.2.1 pc = .ok (.getfield idx, 3)) (hf : FL me.1 idx ci k) (hi : i < N) (hc : h i = .inr (ci, fs)) (hv : fs[k]? = some v) (kk : V G me x (pc + 3) loc (v :: st) N gf h kc ks) : V G me x pc loc (rf G i :: st) N gf h kc ks := by
  obtain ⟨p, e, R, s, m, args, below, meth, c, Z⟩ := x
  obtain ⟨hx, hb, -, -, ho, hts, hK, -⟩ := C
  obtain ⟨Cn, T, n, hcl, hk, hl⟩ := hf
  intro H locs cells slots ls hW hS hl0 h1 h2
  exact va_get hx hb hts (cl_gd _ _ _ _ hcl) ho hK.2.1 hW.1 i (by rw [wsO_at hi, hc]) hcl k hk (hts _ hl) (fun _ q => q) hv d (kk H locs cells slots ls hW hS hl0 h1 h2)
theorem V_putf {idx ci k i : Nat} {fs fs' : List Value} {v : Value} {ty : FieldType} (C : Cx G me x) (d : decode me.2.1 pc = .ok (.putfield idx, 3)) (hf : FL me.1 idx ci k) (hi : i < N) (hc : h i = .inr (ci, fs)) (hfin : (cT ci k).2.2.2 = false) (hd : parseFieldDescriptor (cT ci k).2.2.1 = some ty) (hn : narrow ty v = v) (hfit : fits ty v = true) (hlen : k < fs.length) (hfs : fs.set k v = fs') (kk : V G me x (pc + 3) loc st N gf (hs h i (.inr (ci, fs'))) kc ks) : V G me x pc loc (v :: rf G i :: st) N gf h kc ks := by
  obtain ⟨p, e, R, s, m, args, below, meth, c, Z⟩ := x
  obtain ⟨hx, hb, -, -, ho, hts, hK, -⟩ := C
  obtain ⟨Cn, T, n, hcl, hk, hl⟩ := hf
  rw [cT_of hcl] at hfin hd
  subst hfs
  intro H locs cells slots ls hW hS hl0 h1 h2
  obtain ⟨ty0, hty, hnm⟩ := cl_ty _ _ _ _ hcl
  have hin := cl_gd _ _ _ _ hcl
  have he : (wsO G N h)[i]? = some (G.2.1 + i, .inr (ci, fs)) := by rw [wsO_at hi, hc]
  have hP := hW.1
  have hKc := hK.2.1
  have hap := va_apart (own := me.1) hts hin ty0 hty hnm hKc hcl
  obtain ⟨r, q0, cell, q1, q2, q3, q4⟩ := hP i _ he
  have hr : r = (Cn, T, n) := Option.some.inj (q0.symm.trans hcl)
  subst hr
  obtain ⟨hSl, hfc, kC, hkC, hkind⟩ := hKc.1 ci _ hcl
  obtain ⟨cf, kf, fi, f, hif, hsl⟩ := hSl k hk
  have hlay := hts _ (hin _ (u_in_lay hk))
  unfold u_lay at hlay
  rw [if_neg (by rw [hfin]; decide)] at hlay
  have hst := (u_facts hfc hkC (u_lays hts hin hk) hif).1
  have h6 := u_store hfc hkC hkind hlay hif hd hn hfit
  refine W.putK hx hb (f := f) ⟨ho, hts _ hl, ⟨_, _, _, hif⟩, hst⟩ (by rw [q2]; exact h6) q1 q3 (by rw [hsl]; exact k2_hasslot (q4 k hk)) rfl rfl d fun H' e1 e2 e3 => ?_
  rw [hsl] at e1 ⊢
  refine kk H' _ cells slots ls (hW.put hi e2 (hP.set (wsO_D G N h) he ⟨_, hcl, t_OB.to (V := updV (vp_V fs) k v) ⟨_, e1, q2, q3, t_set q4 hap hk v⟩ (fun j _ => vp_updV_set hlen v j)⟩ e3)) (hS.put e2 e3 (Nat.le_add_right _ _)) hl0 h1 h2
theorem V_putF {idx ci k i : Nat} {fs fs' : List Value} {v : Value} {ty : FieldType} (C : Cx G me x) (d : decode me.2.1 pc = .ok (.putfield idx, 3)) (hf : FL me.1 idx ci k) (hi : i < N) (hc : h i = .inr (ci, fs)) (hfin : (cT ci k).2.2.2 = true) (hini : me.2.2.2.2.2.2.2 = true) (hdecl : (cT ci k).1 = me.1) (hd : parseFieldDescriptor (cT ci k).2.2.1 = some ty) (hn : narrow ty v = v) (hfit : fits ty v = true) (hlen : k < fs.length) (hfs : fs.set k v = fs') (kk : V G me x (pc + 3) loc st N gf (hs h i (.inr (ci, fs'))) kc ks) : V G me x pc loc (v :: rf G i :: st) N gf h kc ks := by
  obtain ⟨p, e, R, s, m, args, below, meth, c, Z⟩ := x
  obtain ⟨hx, hb, -, -, ho, hts, hK, -, -, -, -, hin2⟩ := C
  obtain ⟨Cn, T, n, hcl, hk, hl⟩ := hf
  rw [cT_of hcl] at hfin hd hdecl
  subst hfs
  intro H locs cells slots ls hW hS hl0 h1 h2
  obtain ⟨ty0, hty, hnm⟩ := cl_ty _ _ _ _ hcl
  have hin := cl_gd _ _ _ _ hcl
  have he : (wsO G N h)[i]? = some (G.2.1 + i, .inr (ci, fs)) := by rw [wsO_at hi, hc]
  have hP := hW.1
  have hKc := hK.2.1
  have hap := va_apart (own := me.1) hts hin ty0 hty hnm hKc hcl
  obtain ⟨r, q0, cell, q1, q2, q3, q4⟩ := hP i _ he
  have hr : r = (Cn, T, n) := Option.some.inj (q0.symm.trans hcl)
  subst hr
  obtain ⟨hSl, hfc, kC, hkC, hkind⟩ := hKc.1 ci _ hcl
  obtain ⟨cf, kf, fi, f, hif, hsl⟩ := hSl k hk
  have hlay := hts _ (hin _ (u_in_lay hk))
  unfold u_lay at hlay
  rw [if_pos hfin] at hlay
  have hst := (u_facts hfc hkC (u_lays hts hin hk) hif).1
  have hcf : m.cls = cf := by
    obtain ⟨_, _, c', _, _, _, -, -, hf', -, -, -, hown2, -⟩ := Cond.laysFinal_spec hlay
    have e1 : c' = cf := by have := hif.symm.trans hf'; simp at this; exact this.1.symm
    rw [hdecl] at hown2
    rw [← e1]; exact Option.some.inj (ho.symm.trans hown2)
  have h6 := u_fits hfc hkC hkind (Or.inr hlay) hif hd hn hfit
  refine W.putFinK hx hb ho (hts _ hl) hif hst hcf (hin2 hini) (by rw [q2]; exact h6) q1 q3 (by rw [hsl]; exact k2_hasslot (q4 k hk)) rfl rfl d fun H' e1 e2 e3 => ?_
  rw [hsl] at e1 ⊢
  refine kk H' _ cells slots ls (hW.put hi e2 (hP.set (wsO_D G N h) he ⟨_, hcl, t_OB.to (V := updV (vp_V fs) k v) ⟨_, e1, q2, q3, t_set q4 hap hk v⟩ (fun j _ => vp_updV_set hlen v j)⟩ e3)) (hS.put e2 e3 (Nat.le_add_right _ _)) hl0 h1 h2
/-- an int array; a char array; a long array; a row of states -/
def aI (G : GT) (n : Nat) (f : Nat → Int) : va_E := .inl (G.2.2.2.1 0, n, .inl (fun k => iI (f k)))
def aC (G : GT) (n : Nat) (f : Nat → Int) : va_E := .inl (G.2.2.2.1 1, n, .inl (fun k => iI (f k)))
def aL (G : GT) (n : Nat) (f : Nat → Int) : va_E := .inl (G.2.2.2.1 2, n, .inr (.inl (fun k => lL (f k))))
def aR (G : GT) (n : Nat) (f : Nat → Option Nat) : va_E := .inl (G.2.2.2.1 3, n, .inr (.inr (.inr (.inr (fun k => (f k).map (fun i => G.2.1 + i))))))
def us {α : Type} (f : Nat → α) (k : Nat) (v : α) : Nat → α := fun j => if j = k then v else f j
theorem us_at {α : Type} (f : Nat → α) (k : Nat) (v : α) : us f k v k = v := if_pos rfl
theorem us_ne {α : Type} (f : Nat → α) {k j : Nat} (v : α) (n : j ≠ k) : us f k v j = f j := if_neg n
theorem V_alen {i n : Nat} {f : Nat → Int} (C : Cx G me x) (d : decode me.2.1 pc = .ok (.arraylength, 1)) (hi : i < N) (hc : h i = aI G n f ∨ h i = aC G n f) (kk : V G me x (pc + 1) loc (.int (iI (n : Int)) :: st) N gf h kc ks) : V G me x pc loc (rf G i :: st) N gf h kc ks := by
  obtain ⟨p, e, R, s, m, args, below, meth, c, Z⟩ := x
  obtain ⟨hx, hb, -, -, ho, hts, hK, -⟩ := C
  intro H locs cells slots ls hW hS hl0 h1 h2
  rcases hc with hc | hc
  · exact va_alen (x := (n, .inl (fun k => iI (f k)))) hx hb hK.2.1 hW.1 i 0 (by rw [wsO_at hi, hc]; rfl) rfl (iI_nat n).symm d (kk H locs cells slots ls hW hS hl0 h1 h2)
  · exact va_alen (x := (n, .inl (fun k => iI (f k)))) hx hb hK.2.1 hW.1 i 1 (by rw [wsO_at hi, hc]; rfl) rfl (iI_nat n).symm d (kk H locs cells slots ls hW hS hl0 h1 h2)
theorem V_alenR {i n : Nat} {f : Nat → Option Nat} (C : Cx G me x) (d : decode me.2.1 pc = .ok (.arraylength, 1)) (hi : i < N) (hc : h i = aR G n f) (kk : V G me x (pc + 1) loc (.int (iI (n : Int)) :: st) N gf h kc ks) : V G me x pc loc (rf G i :: st) N gf h kc ks := by
  obtain ⟨p, e, R, s, m, args, below, meth, c, Z⟩ := x
  obtain ⟨hx, hb, -, -, ho, hts, hK, -⟩ := C
  intro H locs cells slots ls hW hS hl0 h1 h2
  exact va_alen (x := (n, .inr (.inr (.inr (.inr (fun k => (f k).map (fun i => G.2.1 + i))))))) hx hb hK.2.1 hW.1 i 3 (by rw [wsO_at hi, hc]; rfl) rfl (iI_nat n).symm d (kk H locs cells slots ls hW hS hl0 h1 h2)
theorem V_iald {i n : Nat} {f : Nat → Int} (C : Cx G me x) (d : decode me.2.1 pc = .ok (.iaload, 1)) (hi : i < N) (hc : h i = aI G n f) (ha : 0 ≤ a ∧ a < n) (hn : n < 2147483648) (kk : V G me x (pc + 1) loc (.int (iI (f a.toNat)) :: st) N gf h kc ks) : V G me x pc loc (.int (iI a) :: rf G i :: st) N gf h kc ks := by
  obtain ⟨p, e, R, s, m, args, below, meth, c, Z⟩ := x
  obtain ⟨hx, hb, -, -, ho, hts, hK, -⟩ := C
  intro H locs cells slots ls hW hS hl0 h1 h2
  refine va_iald hx hb hK.2.1 hW.1 i 0 (by rw [wsO_at hi, hc]; rfl) rfl (iI_in ha.1 ha.2 hn) d ?_
  rw [iI_clamp ha.1 (by omega)]
  exact kk H locs cells slots ls hW hS hl0 h1 h2
theorem V_cald {i n : Nat} {f : Nat → Int} (C : Cx G me x) (d : decode me.2.1 pc = .ok (.caload, 1)) (hi : i < N) (hc : h i = aC G n f) (ha : 0 ≤ a ∧ a < n) (hn : n < 2147483648) (kk : V G me x (pc + 1) loc (.int (iI (f a.toNat)) :: st) N gf h kc ks) : V G me x pc loc (.int (iI a) :: rf G i :: st) N gf h kc ks := by
  obtain ⟨p, e, R, s, m, args, below, meth, c, Z⟩ := x
  obtain ⟨hx, hb, -, -, ho, hts, hK, -⟩ := C
  intro H locs cells slots ls hW hS hl0 h1 h2
  refine va_cald hx hb hK.2.1 hW.1 i 1 (by rw [wsO_at hi, hc]; rfl) rfl (iI_in ha.1 ha.2 hn) d ?_
  rw [iI_clamp ha.1 (by omega)]
  exact kk H locs cells slots ls hW hS hl0 h1 h2
theorem V_lald {i n : Nat} {f : Nat → Int} (C : Cx G me x) (d : decode me.2.1 pc = .ok (.laload, 1)) (hi : i < N) (hc : h i = aL G n f) (ha : 0 ≤ a ∧ a < n) (hn : n < 2147483648) (kk : V G me x (pc + 1) loc (.long (lL (f a.toNat)) :: st) N gf h kc ks) : V G me x pc loc (.int (iI a) :: rf G i :: st) N gf h kc ks := by
  obtain ⟨p, e, R, s, m, args, below, meth, c, Z⟩ := x
  obtain ⟨hx, hb, -, -, ho, hts, hK, -⟩ := C
  intro H locs cells slots ls hW hS hl0 h1 h2
  refine va_lald hx hb hK.2.1 hW.1 i 2 (by rw [wsO_at hi, hc]; rfl) rfl (iI_in ha.1 ha.2 hn) d ?_
  rw [iI_clamp ha.1 (by omega)]
  exact kk H locs cells slots ls hW hS hl0 h1 h2
theorem V_aald {i n j : Nat} {f : Nat → Option Nat} (C : Cx G me x) (d : decode me.2.1 pc = .ok (.aaload, 1)) (hi : i < N) (hc : h i = aR G n f) (ha : 0 ≤ a ∧ a < n) (hn : n < 2147483648) (hj : f a.toNat = some j) (kk : V G me x (pc + 1) loc (rf G j :: st) N gf h kc ks) : V G me x pc loc (.int (iI a) :: rf G i :: st) N gf h kc ks := by
  obtain ⟨p, e, R, s, m, args, below, meth, c, Z⟩ := x
  obtain ⟨hx, hb, -, -, ho, hts, hK, -⟩ := C
  intro H locs cells slots ls hW hS hl0 h1 h2
  have h3 := kk H locs cells slots ls hW hS hl0 h1 h2
  refine va_aldq hx hb hK.2.1 hW.1 i 3 (by rw [wsO_at hi, hc]; rfl) rfl (iI_in ha.1 ha.2 hn) d ?_
  rw [iI_clamp ha.1 (by omega), hj]
  exact h3
theorem us_upd (f : Nat → Int) (k : Nat) (z : Int) : upd (fun j => iI (f j)) k (iI z) = fun j => iI (us f k z j) := by
  funext j
  by_cases e : j = k
  · subst e; simp [upd, us]
  · simp [upd, us, e]
theorem us_updL (f : Nat → Int) (k : Nat) (z : Int) : vp_updL (fun j => lL (f j)) k (lL z) = fun j => lL (us f k z j) := by
  funext j
  by_cases e : j = k
  · subst e; simp [vp_updL, us]
  · simp [vp_updL, us, e]
theorem V_iast {i n : Nat} {f : Nat → Int} (C : Cx G me x) (d : decode me.2.1 pc = .ok (.iastore, 1)) (hi : i < N) (hc : h i = aI G n f) (ha : 0 ≤ a ∧ a < n) (hn : n < 2147483648) (kk : V G me x (pc + 1) loc st N false (hs h i (aI G n (us f a.toNat b))) kc ks) : V G me x pc loc (.int (iI b) :: .int (iI a) :: rf G i :: st) N false h kc ks := by
  obtain ⟨p, e, R, s, m, args, below, meth, c, Z⟩ := x
  obtain ⟨hx, hb, -, -, ho, hts, hK, -⟩ := C
  intro H locs cells slots ls hW hS hl0 h1 h2
  refine va_iast hx hb hK.2.1 hW.1 (wsO_D G N h) hS i 0 (by rw [wsO_at hi, hc]; rfl) rfl (iI_in ha.1 ha.2 hn) d (fun H1 locs1 hP1 _ hS1 => ?_)
  rw [iI_clamp ha.1 (by omega), us_upd] at hP1
  exact kk H1 locs1 cells slots ls (HW.putF hi hP1) hS1 hl0 h1 h2
theorem vp_narC {z : Int} (h1 : 0 ≤ z) (h2 : z < 65536) : vp_nar .char (iI z) = iI z := by
  obtain ⟨m, rfl⟩ := Int.eq_ofNat_of_zero_le h1
  have e : iI (m : Int) = nI m := iI_nat m
  show vp_nar .char (iI (m : Int)) = iI (m : Int)
  rw [e]
  have h3 := (pk_charN (q := m) (by omega)).1
  unfold vp_nar
  rw [h3]
theorem V_cast {i n : Nat} {f : Nat → Int} (C : Cx G me x) (d : decode me.2.1 pc = .ok (.castore, 1)) (hi : i < N) (hc : h i = aC G n f) (ha : 0 ≤ a ∧ a < n) (hn : n < 2147483648) (hb9 : 0 ≤ b ∧ b < 65536) (kk : V G me x (pc + 1) loc st N false (hs h i (aC G n (us f a.toNat b))) kc ks) : V G me x pc loc (.int (iI b) :: .int (iI a) :: rf G i :: st) N false h kc ks := by
  obtain ⟨p, e, R, s, m, args, below, meth, c, Z⟩ := x
  obtain ⟨hx, hb, -, -, ho, hts, hK, -⟩ := C
  intro H locs cells slots ls hW hS hl0 h1 h2
  refine va_cast hx hb hK.2.1 hW.1 (wsO_D G N h) hS i 1 (by rw [wsO_at hi, hc]; rfl) rfl (iI_in ha.1 ha.2 hn) d (fun H1 locs1 hP1 _ hS1 => ?_)
  rw [iI_clamp ha.1 (by omega), vp_narC hb9.1 hb9.2, us_upd] at hP1
  exact kk H1 locs1 cells slots ls (HW.putF hi hP1) hS1 hl0 h1 h2
theorem V_last {i n : Nat} {f : Nat → Int} (C : Cx G me x) (d : decode me.2.1 pc = .ok (.lastore, 1)) (hi : i < N) (hc : h i = aL G n f) (ha : 0 ≤ a ∧ a < n) (hn : n < 2147483648) (kk : V G me x (pc + 1) loc st N false (hs h i (aL G n (us f a.toNat b))) kc ks) : V G me x pc loc (.long (lL b) :: .int (iI a) :: rf G i :: st) N false h kc ks := by
  obtain ⟨p, e, R, s, m, args, below, meth, c, Z⟩ := x
  obtain ⟨hx, hb, -, -, ho, hts, hK, -⟩ := C
  intro H locs cells slots ls hW hS hl0 h1 h2
  refine va_last hx hb hK.2.1 hW.1 (wsO_D G N h) hS i 2 (by rw [wsO_at hi, hc]; rfl) rfl (iI_in ha.1 ha.2 hn) d (fun H1 locs1 hP1 _ hS1 => ?_)
  rw [iI_clamp ha.1 (by omega), us_updL] at hP1
  exact kk H1 locs1 cells slots ls (HW.putF hi hP1) hS1 hl0 h1 h2
theorem V_aast {i n j : Nat} {f : Nat → Option Nat} {fs : List Value} (C : Cx G me x) (d : decode me.2.1 pc = .ok (.aastore, 1)) (hi : i < N) (hc : h i = aR G n f) (hj : j < N) (hcj : h j = .inr (2, fs)) (ha : 0 ≤ a ∧ a < n) (hn : n < 2147483648) (kk : V G me x (pc + 1) loc st N gf (hs h i (aR G n (us f a.toNat (some j)))) kc ks) : V G me x pc loc (rf G j :: .int (iI a) :: rf G i :: st) N gf h kc ks := by
  obtain ⟨p, e, R, s, m, args, below, meth, c, Z⟩ := x
  obtain ⟨hx, hb, -, -, ho, hts, hK, -⟩ := C
  intro H locs cells slots ls hW hS hl0 h1 h2
  have hin := iI_in ha.1 ha.2 hn
  have hP := hW.1
  have hKc := hK.2.1
  have hlt : (iI a).toNatClampNeg < n := Nat.not_le.mp fun q => hin (Or.inr q)
  have h0 : ¬ iI a < 0 := fun q => hin (Or.inl q)
  have he : (wsO G N h)[i]? = some (G.2.1 + i, aR G n f) := by rw [wsO_at hi, hc]
  obtain ⟨r', hr', cellV, g1, g2, g3, -⟩ := hP j _ (show (wsO G N h)[j]? = some (G.2.1 + j, .inr (2, fs)) by rw [wsO_at hj, hcj])
  have hcl : vwCl[2]? = some (RX2, TX2, 5) := rfl
  have hcls := (hKc.1 2 _ hcl).2
  obtain ⟨kA, comp, k1, k2, k3, -⟩ := (hKc.2 3 _ (show (tysO G)[3]? = some (G.2.2.2.1 3, .object "ApartSteps$State") from rfl)).2
  have hcomp : comp = G.2.2.1.1 2 := Option.some.inj (k3.symm.trans hcls.1)
  subst hcomp
  obtain ⟨kC, hkC, -⟩ := hcls.2
  refine W.aast hx hb (hP i _ he) (fun q h => by cases h) (fun h => by cases h) k1 k2 rfl hkC ⟨h0, by show _ < (arrV _ _ _).slots.size; rw [arrV_size]; exact hlt⟩ g1 (fun q h => by rw [g3] at h; cases h) (by rw [g2]; exact hkC) (by rw [g2]; exact va_assign hcls) rfl rfl d fun H1 e1 z oq => ?_
  refine kk H1 _ cells slots ls (hW.put hi z (hP.set (wsO_D G N h) he ?_ oq)) (hS.put z oq (Nat.le_add_right _ _)) hl0 h1 h2
  show H1[G.2.1 + i]? = some (vp_cell _ _)
  rw [e1]
  rw [vp_cell_q, vp_cell_q, arrV_store]
  congr 2
  funext q
  rw [iI_clamp ha.1 (by omega)]
  by_cases hq : q = a.toNat
  · subst hq
    simp [updV, us, va_rf]
  · simp [updV, us, hq]
theorem V_gets {idx : Nat} (C : Cx G me x) (d : decode me.2.1 pc = .ok (.getstatic idx, 3)) (hl : Cond.fieldLink me.1 idx "ApartSteps" "WORTHS" "[I" ∈ lw_gd) (kk : V G me x (pc + 3) loc (.ref G.2.2.2.2.1 :: st) N gf h kc ks) : V G me x pc loc st N gf h kc ks := by
  obtain ⟨p, e, R, s, m, args, below, meth, c, Z⟩ := x
  obtain ⟨hx, hb, -, -, ho, hts, hK, -⟩ := C
  intro H locs cells slots ls hW hS hl0 h1 h2
  exact va_gets hx hb hK.2.2.2.1 hS ho (hts _ hl) (fun _ q => q) d (kk H locs cells slots ls hW hS hl0 h1 h2)
theorem V_wlen (C : Cx G me x) (d : decode me.2.1 pc = .ok (.arraylength, 1)) (kk : V G me x (pc + 1) loc (.int (iI 19) :: st) N gf h kc ks) : V G me x pc loc (.ref G.2.2.2.2.1 :: st) N gf h kc ks := by
  obtain ⟨p, e, R, s, m, args, below, meth, c, Z⟩ := x
  obtain ⟨hx, hb, -, -, ho, hts, hK, -⟩ := C
  intro H locs cells slots ls hW hS hl0 h1 h2
  exact va_tlen hx hb hK.2.2.2.2.1 hS rfl d (kk H locs cells slots ls hW hS hl0 h1 h2)
theorem V_wld (C : Cx G me x) (d : decode me.2.1 pc = .ok (.iaload, 1)) (ha : 0 ≤ a ∧ a < 19) (kk : V G me x (pc + 1) loc (.int (iI (wN a.toNat : Nat)) :: st) N gf h kc ks) : V G me x pc loc (.int (iI a) :: .ref G.2.2.2.2.1 :: st) N gf h kc ks := by
  obtain ⟨p, e, R, s, m, args, below, meth, c, Z⟩ := x
  obtain ⟨hx, hb, -, -, ho, hts, hK, -⟩ := C
  intro H locs cells slots ls hW hS hl0 h1 h2
  exact va_ti hx hb hK.2.2.2.2.1 hS (iI_in ha.1 ha.2 (by decide)) (by rw [iI_clamp ha.1 (by omega)]) d (kk H locs cells slots ls hW hS hl0 h1 h2)
/-- the script -/
theorem V_slen {q L : Nat} {xs : Nat → Int32} (C : Cx G me x) (d : decode me.2.1 pc = .ok (.arraylength, 1)) (hX : va_X q L xs x.2.2.2.1 x.2.2.2.1.heap) (hq : q < x.2.2.2.1.heap.size) (hA : ¬ gA G q) (kk : V G me x (pc + 1) loc (.int (iI (L : Int)) :: st) N gf h kc ks) : V G me x pc loc (.ref q :: st) N gf h kc ks := by
  obtain ⟨p, e, R, s, m, args, below, meth, c, Z⟩ := x
  obtain ⟨hx, hb, -, -, ho, hts, hK, -⟩ := C
  intro H locs cells slots ls hW hS hl0 h1 h2
  refine va_slen hx hb hX hq hA hS d ?_
  have h3 := kk H locs cells slots ls hW hS hl0 h1 h2
  rw [iI_nat] at h3
  exact h3
theorem V_sld {q L : Nat} {xs : Nat → Int32} (C : Cx G me x) (d : decode me.2.1 pc = .ok (.iaload, 1)) (hX : va_X q L xs x.2.2.2.1 x.2.2.2.1.heap) (hq : q < x.2.2.2.1.heap.size) (hA : ¬ gA G q) (ha : 0 ≤ a ∧ a < L) (hL : L < 2147483648) (kk : V G me x (pc + 1) loc (.int (xs a.toNat) :: st) N gf h kc ks) : V G me x pc loc (.int (iI a) :: .ref q :: st) N gf h kc ks := by
  obtain ⟨p, e, R, s, m, args, below, meth, c, Z⟩ := x
  obtain ⟨hx, hb, -, -, ho, hts, hK, -⟩ := C
  intro H locs cells slots ls hW hS hl0 h1 h2
  refine va_sld hx hb hX hq hA hS (iI_in ha.1 ha.2 hL) d ?_
  rw [iI_clamp ha.1 (by omega)]
  exact kk H locs cells slots ls hW hS hl0 h1 h2
end VR3
end
section
/-! new cells -/
theorem HW.push {G : GT} {N : Nat} {h : Hp} {H H1 : Heap} {c : va_E} (hW : HW G N true h H) (z : H1.size = H.size + 1) (hk : ∀ q : Nat, q < H.size → H1[q]? = H[q]?) (hc : va_at G.2.2.1 vwCl (H.size, c) H1) : HW G (N + 1) true (hs h N c) H1 := by
  obtain ⟨hP, h2, h3⟩ := hW
  have h4 := h3 rfl
  refine ⟨?_, by omega, fun _ => by omega⟩
  rw [← wsO_push]
  refine (hP.kept (fun k q e => hk q.1 (hP k q e).lt)).app (fun k q e => ?_)
  have hz : k < 1 := (List.getElem?_eq_some_iff.mp e).1
  rw [show k = 0 by omega] at e
  cases e
  rw [← h4]
  exact hc
section VR4
variable {G : GT} {me : MeT} {x : CxT} {pc : Nat} {loc : List (Option Value)} {st : List Value} {N : Nat} {gf : Bool} {h : Hp} {kc ks : Nat} {a b : Int}
theorem V_new {idx ci n : Nat} {Cn : String} {T : u_T} {fs : List Value} (C : Cx G me x) (d : decode me.2.1 pc = .ok (.new idx, 3)) (hl : Cond.classLink me.1 idx Cn ∈ lw_gd) (hin : Cond.instantiable Cn n ∈ lw_gd ∧ Cond.initialized Cn ∈ lw_gd) (hc : vwCl[ci]? = some (Cn, T, n)) (ty : Nat → FieldType) (hty : ∀ k, k < n → parseFieldDescriptor (T k).2.2.1 = some (ty k)) (hfs : ∀ j, j < n → defaultValue (ty j) = vp_V fs j) (kk : V G me x (pc + 3) loc (rf G N :: st) (N + 1) true (hs h N (.inr (ci, fs))) kc ks) : V G me x pc loc st N true h (kc + 1) (ks + n) := by
  obtain ⟨p, e, R, s, m, args, below, meth, c, Z⟩ := x
  obtain ⟨hx, hb, -, -, ho, hts, hK, -⟩ := C
  intro H locs cells slots ls hW hS hl0 h1 h2
  have hsz : H.size = G.2.1 + N := hW.2.2 rfl
  have hKn := hK.2.1.1 ci _ hc
  refine W.newcK hx hb ho (hts _ hl) (hts _ hin.1) (hts _ hin.2) rfl d (by omega) (by omega) hKn.2.1 rfl fun H1 kC hkC e1 z1 o1 => ?_
  have h3 := kk H1 locs (cells + 1) (slots + n) ls (hW.push z1 o1 ⟨_, hc, (u_born ty hts (cl_gd _ _ _ _ hc) hKn hkC e1 hty).to hfs⟩) ⟨Nat.le_trans hS.1 (by omega), fun q q1 q2 => (o1 q (Nat.lt_of_lt_of_le q1 hS.1)).trans (hS.2.1 q q1 q2), hS.2.2⟩ hl0 (by omega) (by omega)
  unfold rf at h3
  rw [← hsz] at h3
  exact h3
theorem V_newI {t : ArrayType} {ty : FieldType} {j n : Nat} {c0 : va_E} {x0 : vp_A} (C : Cx G me x) (d : decode me.2.1 pc = .ok (.newarray t, 2)) (ht : newarray.typeOf t = ty) (hl : Cond.arrayClass ty ∈ lw_gd) (hj : (tysO G)[j]? = some (G.2.2.2.1 j, ty)) (hobj : ∀ U cA, va_RA U cA ty → U.vm.findClass ("[" ++ ty.toString) = some cA) (hc0 : c0 = .inl (G.2.2.2.1 j, x0)) (hx0 : ∀ cA : ClassId, vp_cell cA x0 = arrV cA n (fun _ => defaultValue ty)) (ha : a = n) (hn : n < 1000000) (hcb : componentBytes ty ≤ 8) (kk : V G me x (pc + 2) loc (rf G N :: st) (N + 1) true (hs h N c0) kc ks) : V G me x pc loc (.int (iI a) :: st) N true h (kc + 1) (ks + n) := by
  subst ht; subst hc0; subst ha
  obtain ⟨p, e, R, s, m, args, below, meth, c, Z⟩ := x
  obtain ⟨hx, hb, -, -, ho, hts, hK, -⟩ := C
  intro H locs cells slots ls hW hS hl0 h1 h2
  have hsz : H.size = G.2.1 + N := hW.2.2 rfl
  have e9 : (iI (n : Int)).toNatClampNeg = n := by rw [iI_clamp (by omega) (by omega)]; omega
  refine va_newaK hx hb (hts _ hl) rfl d rfl (fun q => ?_) e9 ?_ (by omega) (by omega) rfl fun H1 cA e1 z1 o1 hAr hNm => ?_
  · have q2 : iI (n : Int) < iI 0 := q
    rw [iI_lt (by omega) (by omega)] at q2
    omega
  · exact Nat.le_trans (Nat.mul_le_mul (Nat.le_of_lt hn) hcb) (by decide)
  · have hRA := (hK.2.1.2 j _ hj).2
    have hcA : cA = G.2.2.2.1 j := Option.some.inj (hNm.symm.trans (hobj _ _ hRA))
    subst hcA
    have h3 := kk H1 locs (cells + 1) (slots + n) ls (hW.push z1 o1 (by show H1[H.size]? = some (vp_cell _ _); rw [hx0]; exact e1)) ⟨Nat.le_trans hS.1 (by omega), fun q q1 q2 => (o1 q (Nat.lt_of_lt_of_le q1 hS.1)).trans (hS.2.1 q q1 q2), hS.2.2⟩ hl0 (by omega) (by omega)
    unfold rf at h3
    rw [← hsz] at h3
    exact h3
theorem V_newint {n : Nat} (C : Cx G me x) (d : decode me.2.1 pc = .ok (.newarray .int, 2)) (ha : a = n) (hn : n < 1000000) (kk : V G me x (pc + 2) loc (rf G N :: st) (N + 1) true (hs h N (aI G n (fun _ => 0))) kc ks) : V G me x pc loc (.int (iI a) :: st) N true h (kc + 1) (ks + n) :=
  V_newI (x0 := (n, .inl (fun _ => 0))) C d rfl k_arr_int (show (tysO G)[0]? = _ from rfl) (fun U cA q => q) rfl (fun cA => rfl) ha hn (by decide) kk
theorem V_newchar {n : Nat} (C : Cx G me x) (d : decode me.2.1 pc = .ok (.newarray .char, 2)) (ha : a = n) (hn : n < 1000000) (kk : V G me x (pc + 2) loc (rf G N :: st) (N + 1) true (hs h N (aC G n (fun _ => 0))) kc ks) : V G me x pc loc (.int (iI a) :: st) N true h (kc + 1) (ks + n) :=
  V_newI (x0 := (n, .inl (fun _ => 0))) C d rfl k_arr_char (show (tysO G)[1]? = _ from rfl) (fun U cA q => q) rfl (fun cA => rfl) ha hn (by decide) kk
theorem V_newlong {n : Nat} (C : Cx G me x) (d : decode me.2.1 pc = .ok (.newarray .long, 2)) (ha : a = n) (hn : n < 1000000) (kk : V G me x (pc + 2) loc (rf G N :: st) (N + 1) true (hs h N (aL G n (fun _ => 0))) kc ks) : V G me x pc loc (.int (iI a) :: st) N true h (kc + 1) (ks + n) :=
  V_newI (x0 := (n, .inr (.inl (fun _ => 0)))) C d rfl k_arr_long (show (tysO G)[2]? = _ from rfl) (fun U cA q => q) rfl (fun cA => rfl) ha hn (by decide) kk
theorem V_anew {idx n : Nat} (C : Cx G me x) (d : decode me.2.1 pc = .ok (.anewarray idx, 3)) (hl : Cond.classLink me.1 idx "ApartSteps$State" ∈ lw_gd) (ha : a = n) (hn : n < 1000000) (kk : V G me x (pc + 3) loc (rf G N :: st) (N + 1) true (hs h N (aR G n (fun _ => none))) kc ks) : V G me x pc loc (.int (iI a) :: st) N true h (kc + 1) (ks + n) := by
  subst ha
  obtain ⟨p, e, R, s, m, args, below, meth, c, Z⟩ := x
  obtain ⟨hx, hb, -, -, ho, hts, hK, -⟩ := C
  intro H locs cells slots ls hW hS hl0 h1 h2
  have hsz : H.size = G.2.1 + N := hW.2.2 rfl
  have e9 : (iI (n : Int)).toNatClampNeg = n := by rw [iI_clamp (by omega) (by omega)]; omega
  have hAO := hK.2.2.2.2.2.2.2.2.2.2.2.2
  refine W.anew hx hb ho (hts _ hl) (va_AO.use hAO) rfl d rfl (fun q => ?_) (by rw [e9]; omega) (by omega) (by rw [e9]; omega) fun cA kA comp f1 f2 f3 f4 => ?_
  · have q2 : iI (n : Int) < iI 0 := q
    rw [iI_lt (by omega) (by omega)] at q2
    omega
  · rw [e9]
    generalize hH1 : H.push ({ cls := cA, slots := Array.replicate n .null, vm := .none } : Cell) = H1
    have z1 : H1.size = H.size + 1 := by rw [← hH1, Array.size_push]
    have e1 : H1[H.size]? = some (arrV cA n (fun _ => .null)) := by rw [← hH1, Array.getElem?_push_size, ← arrV_new]
    have o1 : ∀ q : Nat, q < H.size → H1[q]? = H[q]? := fun q hq => by rw [← hH1, Array.getElem?_push, if_neg (Nat.ne_of_lt hq)]
    obtain ⟨kA2, comp2, r1, r2, r3, r4⟩ := (hK.2.1.2 3 _ (show (tysO G)[3]? = some (G.2.2.2.1 3, .object "ApartSteps$State") from rfl)).2
    have hcA : cA = G.2.2.2.1 3 := Option.some.inj (f1.symm.trans r4)
    subst hcA
    have h3 := kk H1 locs (cells + 1) (slots + n) ls (hW.push z1 o1 (by show H1[H.size]? = some (vp_cell _ _); rw [vp_cell_q]; exact e1)) ⟨Nat.le_trans hS.1 (by omega), fun q q1 q2 => (o1 q (Nat.lt_of_lt_of_le q1 hS.1)).trans (hS.2.1 q q1 q2), hS.2.2⟩ hl0 (by omega) (by omega)
    unfold rf at h3
    rw [← hsz] at h3
    exact h3
/-- Object's constructor -/
theorem V_obj {idx i : Nat} (C : Cx G me x) (d : decode me.2.1 pc = .ok (.invokespecial idx, 3)) (hl : Cond.methodLink me.1 idx objectInit ∈ lw_gd) (hf : 1 ≤ me.2.2.2.2.1) (hlo : (st.map fun v => v.category).sum + 12 ≤ me.2.2.2.2.2.1) (kk : V G me x (pc + 3) loc st N gf h kc ks) : V G me x pc loc (rf G i :: st) N gf h kc ks := by
  obtain ⟨p, e, R, s, m, args, below, meth, c, Z⟩ := x
  obtain ⟨hx, hb, hml, -, ho, hts, hK, -, hfr, hlc, -⟩ := C
  intro H locs cells slots ls hW hS hl0 h1 h2
  refine W.objInit hx hb ho (hts _ hl) (hts _ k_objI) (hts _ k_objC) rfl (by rw [hml]; exact hl0.1) rfl d (by rw [hfr]; exact hf) ?_ (kk H locs cells slots ls hW hS hl0 h1 h2)
  rw [hlc]
  simpa using hlo
/-- fewer is known: other cells may have come -/
theorem V_gf (k : V G me x pc loc st N false h kc ks) : V G me x pc loc st N true h kc ks := by
  obtain ⟨p, e, R, s, m, args, below, meth, c, Z⟩ := x
  exact fun H locs cells slots ls hW hS hl h1 h2 => k H locs cells slots ls ⟨hW.1, hW.2.1, fun g => by cases g⟩ hS hl h1 h2
theorem V_less {kc' ks' : Nat} (h1 : kc' ≤ kc) (h2 : ks' ≤ ks) (k : V G me x pc loc st N gf h kc' ks') : V G me x pc loc st N gf h kc ks := by
  obtain ⟨p, e, R, s, m, args, below, meth, c, Z⟩ := x
  exact fun H locs cells slots ls hW hS hl g1 g2 => k H locs cells slots ls hW hS hl (by omega) (by omega)
end VR4
/-! ===== contracts ===== -/
def PcM (G : GT) (as : List Value) (N : Nat) (gf : Bool) (h : Hp) : Array Value → State → Prop := va_Pc as (fun U => KK G U ∧ HW G N gf h U.heap)
def QcM (G : GT) (v : Option Value) (N : Nat) (gf : Bool) (h : Hp) : Array Value → State → Outcome → State → Prop := fun _ st oc t => (oc = .returned v ∧ HW G N gf h t.heap) ∧ va_F (gA G) st t
def XcM (G : GT) (E : String) (N : Nat) (h : Hp) : String → State → State → Prop := fun E' st t => (E' = E ∧ HW G N false h t.heap) ∧ va_F (gA G) st t
def rmO (me : MeT) (kc ks : Nat) : Room := { frames := me.2.2.2.2.1, cells := kc, slots := ks, locals := me.2.2.2.2.2.1 }
abbrev wsY (y : MethodName) (me : MeT) : List Cond := Cond.code y me.2.1 me.2.2.1 me.2.2.2.1 :: lw_gd
abbrev wsH (y : MethodName) (me : MeT) : List Cond := Cond.codeWith y me.2.1 me.2.2.1 me.2.2.2.1 me.2.2.2.2.2.2.1 :: lw_gd
/-- called with these arguments in this world, with room for kc cells and ks slots, the method returns v and leaves that world -/
def Ct (G : GT) (y : MethodName) (me : MeT) (as : List Value) (N : Nat) (gf : Bool) (h : Hp) (kc ks : Nat) (v : Option Value) (N' : Nat) (gf' : Bool) (h' : Hp) : Prop :=
  Met G.1 y (wsY y me) (rmO me kc ks) (PcM G as N gf h) (QcM G v N' gf' h') kc ks (gA G)
/-- .. it throws an E -/
def CtX (G : GT) (y : MethodName) (me : MeT) (as : List Value) (N : Nat) (gf : Bool) (h : Hp) (kc ks : Nat) (E : String) (h' : Hp) : Prop :=
  vx_Met G.1 y (wsY y me) (rmO me kc ks) (PcM G as N gf h) (fun _ _ _ _ => False) (XcM G E N h') kc ks (gA G)
/-- .. a method with a table of its own, that returns -/
def CtH (G : GT) (y : MethodName) (me : MeT) (as : List Value) (N : Nat) (gf : Bool) (h : Hp) (kc ks : Nat) (v : Option Value) (N' : Nat) (gf' : Bool) (h' : Hp) : Prop :=
  vx_Met G.1 y (wsH y me) (rmO me kc ks) (PcM G as N gf h) (QcM G v N' gf' h') (fun _ _ _ => False) kc ks (gA G)
/-- what is owed at the end -/
def ZM (G : GT) (x : CxT) (v : Option Value) (N : Nat) (gf : Bool) (h : Hp) : Prop := match x with
  | (_, _, R, s, _, args, below, _, _, Z) => Z = MQ below (QcM G v N gf h) args s R.cells R.slots (gA G) ∨ Z = vx_MQ below (QcM G v N gf h) (fun _ _ _ => False) args s R.cells R.slots (gA G)
def ZX (G : GT) (x : CxT) (E : String) (N : Nat) (h : Hp) : Prop := match x with
  | (_, _, R, s, _, args, below, _, _, Z) => Z = vx_MQ below (fun _ _ _ _ => False) (XcM G E N h) args s R.cells R.slots (gA G)
def Rk (x : CxT) (kc ks : Nat) : Prop := x.2.2.1.cells = kc ∧ x.2.2.1.slots = ks
theorem FB (G : GT) (as : List Value) (N : Nat) (gf : Bool) (h : Hp) : FrameBlind (PcM G as N gf h) := fun _ _ _ _ q => ⟨q.1, q.2.1.calling, q.2.2⟩
theorem gd_GoodIn {y : MethodName} {me : MeT} {np : Nat} (k : YKx y me np) : GoodIn lw_gd (wsY y me) := by
  intro w hw
  have hm : w ∈ lw_gd := by
    rcases List.mem_cons.mp hw with e | e
    · rw [e]; exact k.1
    · exact e
  exact ⟨hm, good_of_word (gd_good hm)⟩
section BODY
variable {G : GT} {y : MethodName} {me : MeT} {np : Nat} {as : List Value} {N N' : Nat} {gf gf' : Bool} {h h' : Hp} {kc ks : Nat} {v : Option Value}
theorem Ct_of (k : YKx y me np) (hini : me.2.2.2.2.2.2.2 = true → y.name = "<init>") (loc : List (Option Value)) (hloc : lvl loc = lv_args 0 as) (hlen : (lg_sl as).length ≤ me.2.2.1)
    (body : ∀ x : CxT, Cx G me x → ZM G x v N' gf' h' → V G me x 0 loc [] N gf h kc ks) : Ct G y me as N gf h kc ks v N' gf' h' := by
  obtain ⟨k1, k2, k3, k4, k5, k6⟩ := k
  refine Met.ofW (cc := me.2.1) (maxL := me.2.2.1) (ret := me.2.2.2.1) k4 rfl ?_
  intro p e s m args below meth c s₁ B hml hv
  obtain ⟨rfl, hK, hW⟩ := hv
  have hts : ∀ w ∈ wsY y me, w.before as.toArray s = true := atoms_spec (ws := wsY y me) B.pre
  have hown : s.vm.findClass me.1 = some m.cls := by rw [k5]; exact findClass_of_methodNamed B.named
  have htb : c.exceptionTable.toList = tableOf me.2.2.2.2.2.2.1 := by
    obtain ⟨meth9, c9, q1, q2, -, -, -, -, q7, -⟩ := Cond.code_spec B.named (hts _ List.mem_cons_self)
    cases Option.some.inj (q1.symm.trans B.method)
    cases Option.some.inj (q2.symm.trans (Stand.of_body B).code)
    rw [k6, Array.isEmpty_iff.mp q7]
    rfl
  have hb := body (p, e, (headSpec (wsY y me) (rmO me kc ks)).room, s, m, as.toArray, below, meth, c, MQ below (QcM G v N' gf' h') as.toArray s kc ks (gA G))
    ⟨B.exec, B.bytes, hml, B.returns, hown, fun w hw => hts w (List.mem_cons_of_mem _ hw), hK, B.notSynchronized, rfl, rfl, htb, fun q => (name_of_methodNamed B.named B.method).1.trans (hini q)⟩ (Or.inl rfl)
  rw [lg_entry_eq]
  exact hb s.heap [] 0 0 _ hW va_S.rf (LH.of (lv_entry as hlen) (fun i w q => by rw [← hloc]; exact lvl_mem.mpr q)) (by show 0 + kc ≤ kc; omega) (by show 0 + ks ≤ ks; omega)
theorem CtX_of {E : String} (k : YKx y me np) (hini : me.2.2.2.2.2.2.2 = true → y.name = "<init>") (loc : List (Option Value)) (hloc : lvl loc = lv_args 0 as) (hlen : (lg_sl as).length ≤ me.2.2.1)
    (body : ∀ x : CxT, Cx G me x → ZX G x E N h' → V G me x 0 loc [] N gf h kc ks) : CtX G y me as N gf h kc ks E h' := by
  obtain ⟨k1, k2, k3, k4, k5, k6⟩ := k
  refine vx_ofW (cc := me.2.1) (maxL := me.2.2.1) (ret := me.2.2.2.1) k4 rfl ?_
  intro p e s m args below meth c s₁ B hml htb0 hv
  obtain ⟨rfl, hK, hW⟩ := hv
  have hts : ∀ w ∈ wsY y me, w.before as.toArray s = true := atoms_spec (ws := wsY y me) B.pre
  have hown : s.vm.findClass me.1 = some m.cls := by rw [k5]; exact findClass_of_methodNamed B.named
  have htb : c.exceptionTable.toList = tableOf me.2.2.2.2.2.2.1 := by
    rw [k6]
    cases hq : c.exceptionTable.toList with
    | nil => rfl
    | cons z zs => exact absurd (htb0 z (by rw [hq]; exact List.mem_cons_self)) id
  have hb := body (p, e, (headSpec (wsY y me) (rmO me kc ks)).room, s, m, as.toArray, below, meth, c, vx_MQ below (fun _ _ _ _ => False) (XcM G E N h') as.toArray s kc ks (gA G))
    ⟨B.exec, B.bytes, hml, B.returns, hown, fun w hw => hts w (List.mem_cons_of_mem _ hw), hK, B.notSynchronized, rfl, rfl, htb, fun q => (name_of_methodNamed B.named B.method).1.trans (hini q)⟩ rfl
  rw [lg_entry_eq]
  exact hb s.heap [] 0 0 _ hW va_S.rf (LH.of (lv_entry as hlen) (fun i w q => by rw [← hloc]; exact lvl_mem.mpr q)) (by show 0 + kc ≤ kc; omega) (by show 0 + ks ≤ ks; omega)
end BODY
section ENDS
variable {G : GT} {me : MeT} {x : CxT} {pc : Nat} {loc : List (Option Value)} {N : Nat} {gf : Bool} {h h' : Hp} {kc ks : Nat} {a r : Int}
theorem V_ret {v : Option Value} {st : List Value} (C : Cx G me x) (hZ : ZM G x v N gf h)
    (f : ∀ {p : Program} {e : Env} {R : Room} {s : State} {m : MethodId} {args : Array Value} {below : List Frame} {meth : Method} {c : Code} {H : Heap} {locs : List Loc} {cells slots : Nat} {ls : Array Slot}, p.tables.exec = Jvm.exec → c.code = me.2.1 → meth.sig.returnType = me.2.2.2.1 → meth.locks = false → (∀ t : State, t.heap = H → s.WarmedH t.vm → QcM G v N gf h args s (.returned v) t) → (∀ q ∈ locs, gA G q.base) → W p G.1 e R s m args below meth c H locs cells slots (MQ below (QcM G v N gf h) args s cells slots (gA G)) (F0 m pc ls st)) : V G me x pc loc st N gf h kc ks := by
  obtain ⟨p, e, R, s, m, args, below, meth, c, Z⟩ := x
  obtain ⟨hx, hb, hml, hr, ho, hts, hK, hlk, -⟩ := C
  intro H locs cells slots ls hW hS hl h1 h2
  have hq : ∀ t : State, t.heap = H → s.WarmedH t.vm → QcM G v N gf h args s (.returned v) t := fun t ht _ => ⟨⟨rfl, by rw [ht]; exact hW⟩, hS.F ht⟩
  rcases hZ with rfl | rfl
  · exact W.widen (by omega) (by omega) (f hx hb hr hlk hq hS.2.2)
  · exact vx_ret (W.widen (by omega) (by omega) (f hx hb hr hlk hq hS.2.2))
theorem V_iret (C : Cx G me x) (d : decode me.2.1 pc = .ok (.ireturn, 1)) (hr : me.2.2.2.1 = some .int) (hZ : ZM G x (some (.int (iI r))) N gf h') (e1 : a = r) (e2 : h = h') : V G me x pc loc [.int (iI a)] N gf h kc ks := by
  subst e1; subst e2
  exact V_ret C hZ (fun hx hb h3 hlk hq hf => W.iret hx hb (h3.trans hr) hq hf d hlk)
theorem V_zret (C : Cx G me x) (d : decode me.2.1 pc = .ok (.ireturn, 1)) (hr : me.2.2.2.1 = some .boolean) (hZ : ZM G x (some (.int (iI r))) N gf h') (e0 : r = 0 ∨ r = 1) (e1 : a = r) (e2 : h = h') : V G me x pc loc [.int (iI a)] N gf h kc ks := by
  subst e1; subst e2
  exact V_ret C hZ (fun hx hb h3 hlk hq hf => W.zret hx hb (h3.trans hr) (by rcases e0 with rfl | rfl <;> decide) hq hf d hlk)
theorem V_vret (C : Cx G me x) (d : decode me.2.1 pc = .ok (.return_, 1)) (hr : me.2.2.2.1 = none) (hZ : ZM G x none N gf h') (e2 : h = h') : V G me x pc loc [] N gf h kc ks := by
  subst e2
  exact V_ret C hZ (fun hx hb h3 hlk hq hf => W.vret hx hb (h3.trans hr) hq hf d hlk)
theorem V_lret (C : Cx G me x) (d : decode me.2.1 pc = .ok (.lreturn, 1)) (hr : me.2.2.2.1 = some .long) (hZ : ZM G x (some (.long (lL r))) N gf h') (e1 : a = r) (e2 : h = h') : V G me x pc loc [.long (lL a)] N gf h kc ks := by
  subst e1; subst e2
  exact V_ret C hZ (fun hx hb h3 hlk hq hf => W.lret hx hb (h3.trans hr) hq hf d hlk)
theorem V_dret {w z : UInt64} (C : Cx G me x) (d : decode me.2.1 pc = .ok (.dreturn, 1)) (hr : me.2.2.2.1 = some .double) (hZ : ZM G x (some (.double z)) N gf h') (e1 : w = z) (e2 : h = h') : V G me x pc loc [.double w] N gf h kc ks := by
  subst e1; subst e2
  exact V_ret C hZ (fun hx hb h3 hlk hq hf => W.dret hx hb (h3.trans hr) hq hf d hlk)
theorem VX_out {E : String} {st : List Value} (C : Cx G me x) (hh : me.2.2.2.2.2.2.1 = []) (hZ : ZX G x E N h) : VX G me x E pc loc st N h kc ks := by
  obtain ⟨p, e, R, s, m, args, below, meth, c, Z⟩ := x
  obtain ⟨hx, hb, hml, hr, ho, hts, hK, hlk, -, -, htb, -⟩ := C
  intro H locs cells slots ls q ce hW hS hl h1 h2 hce hv hcl
  have hZ : Z = vx_MQ below (fun _ _ _ _ => False) (XcM G E N h) args s R.cells R.slots (gA G) := hZ
  subst hZ
  refine vx_out (fun z hz => ?_) hlk hce hv hcl (fun t ht _ => ⟨⟨rfl, by rw [ht]; exact hW⟩, hS.F ht⟩) hS.2.2 (by omega) (by omega)
  rw [htb, hh] at hz
  cases hz
end ENDS
end
section
/-! calls: the callee takes the whole world -/
theorem k_in {y : MethodName} {me : MeT} {np : Nat} (k : YKx y me np) : ∀ w ∈ wsY y me, w ∈ lw_gd := by
  intro w hw
  rcases List.mem_cons.mp hw with e | e
  · rw [e]; exact k.1
  · exact e
theorem Pc_at {G : GT} {as : List Value} {N : Nat} {gf : Bool} {h : Hp} {s : State} {H : Heap} {locs : List Loc} (hK : KK G s) (hW : HW G N gf h H) (hS : va_S (gA G) s.heap H locs) : ∀ U : State, U.heap = H → s.WarmedH U.vm → PcM G as N gf h as.toArray U := by
  intro U hU hWm
  exact ⟨rfl, hK.moved hWm (by rw [hU]; exact hS.1) (fun q h1 h2 => by rw [hU]; exact hS.2.1 q h1 h2), by rw [hU]; exact hW⟩
section CALLS
variable {G : GT} {me me' : MeT} {x : CxT} {pc idx np : Nat} {loc : List (Option Value)} {st rest as : List Value} {N N' : Nat} {gf gf' : Bool} {h h' : Hp} {kc ks kc' ks' k2 s2 : Nat} {v : Option Value} {y : MethodName}
/-- what a walk knows where it stands -/
def CxF (G : GT) (me : MeT) (p : Program) (R : Room) (s : State) (m : MethodId) (args : Array Value) (c : Code) : Prop := CallFix p m c me.2.1 me.2.2.1 s args lw_gd me.1 ∧ KK G s ∧ R.frames = me.2.2.2.2.1 ∧ R.locals = me.2.2.2.2.2.1
theorem V_run {st2 : List Value} {arr : Array Value} (C : Cx G me x) (hkc : k2 + kc' ≤ kc) (hks : s2 + ks' ≤ ks)
    (f : ∀ {p : Program} {e : Env} {R : Room} {s : State} {m : MethodId} {args : Array Value} {below : List Frame} {meth : Method} {c : Code} {H : Heap} {locs : List Loc} {cells slots : Nat} {ls : Array Slot}, CxF G me p R s m args c → HW G N gf h H → va_S (gA G) s.heap H locs → cells + kc' ≤ R.cells ∧ slots + ks' ≤ R.slots → ls.size = me.2.2.1 → va_Run p G.1 e R s m args below meth c H locs cells slots kc' ks' (F0 m pc ls st) rest (QcM G v N' gf' h' arr) (gA G))
    (hst : v.toList ++ rest = st2) (k : V G me x (pc + 3) loc st2 N' gf' h' k2 s2) : V G me x pc loc st N gf h kc ks := by
  obtain ⟨p, e, R, s, m, args, below, meth, c, Z⟩ := x
  obtain ⟨hx, hb, hml, hr, ho, hts, hK, hlk, hfr, hlc, htb, -⟩ := C
  subst hst
  intro H locs cells slots ls hW hS hl h1 h2 T hT X
  obtain ⟨w, st₀, t, T', L, h0, X', hL, e1, e2, ⟨⟨hw, hW'⟩, hF⟩, sg⟩ := f (e := e) (below := below) (meth := meth) ⟨⟨hx, hb, hml, ho, hts⟩, hK, hfr, hlc⟩ hW hS ⟨by omega, by omega⟩ hl.1 T hT X
  cases hw
  obtain ⟨k1, k3, k4⟩ := vx_keep h0 e1 hS (fun _ _ q => q) (fun _ q => q) hL hF
  obtain ⟨t2, a1, b1⟩ := k T'.heap (locs ++ L) (cells + kc') (slots + ks') ls (by rw [e1]; exact hW') k4 hl (by omega) (by omega) T' rfl X'
  exact ⟨t2, sg t2 a1, b1⟩
theorem V_S {st2 : List Value} (C : Cx G me x) (d : decode me.2.1 pc = .ok (.invokestatic idx, 3)) (hl : Cond.methodLink me.1 idx y ∈ lw_gd) (hk : YKs y me' np) (hc : Ct G y me' as N gf h kc' ks' v N' gf' h') (hs : st = as.reverse ++ rest) (hn : as.length = np) (hR : me'.2.2.2.2.1 + 1 ≤ me.2.2.2.2.1 ∧ 8 + (me'.2.2.1 + 11) + me'.2.2.2.2.2.1 ≤ me.2.2.2.2.2.1) (hW8 : (rest.map fun v => v.category).sum ≤ 8) (hkc : k2 + kc' ≤ kc) (hks : s2 + ks' ≤ ks) (hst : v.toList ++ rest = st2) (k : V G me x (pc + 3) loc st2 N' gf' h' k2 s2) : V G me x pc loc st N gf h kc ks := by
  subst hs
  refine V_run (arr := as.toArray) C hkc hks (fun {p e R s m args below meth c H locs cells slots ls} F hW hS hf hsz => ?_) hst k
  obtain ⟨F1, hK, hfr, hlc⟩ := F
  exact va_runS (As := as) F1 hc ⟨callB_of np F1.2.2.2.2 (gd_GoodIn hk.1) rfl rfl rfl (F1.2.2.2.2 _ hk.1.2.1) (F1.2.2.2.2 _ hl) hk.1.2.2.1 (by rw [hfr, hlc]; exact hR), F1.2.2.2.2 _ hk.2⟩ ⟨FB _ _ _ _ _, Pc_at hK hW hS⟩ rfl hn hsz rfl (lv_room hW8) d hf
theorem V_SN {host : String} {st2 : List Value} (C : Cx G me x) (d : decode me.2.1 pc = .ok (.invokestatic idx, 3)) (hl : (me.1, idx, y, host) ∈ lw_nest) (hk : YKs y me' np) (hc : Ct G y me' as N gf h kc' ks' v N' gf' h') (hs : st = as.reverse ++ rest) (hn : as.length = np) (hR : me'.2.2.2.2.1 + 1 ≤ me.2.2.2.2.1 ∧ 8 + (me'.2.2.1 + 11) + me'.2.2.2.2.2.1 ≤ me.2.2.2.2.2.1) (hW8 : (rest.map fun v => v.category).sum ≤ 8) (hkc : k2 + kc' ≤ kc) (hks : s2 + ks' ≤ ks) (hst : v.toList ++ rest = st2) (k : V G me x (pc + 3) loc st2 N' gf' h' k2 s2) : V G me x pc loc st N gf h kc ks := by
  subst hs
  refine V_run (arr := as.toArray) C hkc hks (fun {p e R s m args below meth c H locs cells slots ls} F hW hS hf hsz => ?_) hst k
  obtain ⟨F1, hK, hfr, hlc⟩ := F
  have hNw : va_Nw (.methodLinkNest me.1 idx y host) s := hK.2.2.2.2.2.2.2.2.1 _ hl
  exact va_runSN (As := as) F1 hc ⟨va_cnB np F1.2.2.2.2 (gd_GoodIn hk.1) rfl rfl rfl hNw (F1.2.2.2.2 _ hk.1.2.1) hk.1.2.2.1 (by rw [hfr, hlc]; exact hR), F1.2.2.2.2 _ hk.2, trivial⟩ ⟨FB _ _ _ _ _, Pc_at hK hW hS⟩ rfl hn hsz rfl (lv_room hW8) d hf
theorem V_V {st2 : List Value} {i ci n : Nat} {fs : List Value} {T : u_T} (C : Cx G me x) (d : decode me.2.1 pc = .ok (.invokevirtual idx, 3)) (hl : Cond.methodLink me.1 idx y ∈ lw_gd) (hk : YKv y me' np) (hc : Ct G y me' (rf G i :: as) N gf h kc' ks' v N' gf' h') (hi : i < N) (hci : h i = .inr (ci, fs)) (hcl : vwCl[ci]? = some (y.cls, T, n)) (hs : st = as.reverse ++ rf G i :: rest) (hn : as.length = np) (hR : me'.2.2.2.2.1 + 1 ≤ me.2.2.2.2.1 ∧ 8 + (me'.2.2.1 + 11) + me'.2.2.2.2.2.1 ≤ me.2.2.2.2.2.1) (hW8 : (rest.map fun v => v.category).sum ≤ 8) (hkc : k2 + kc' ≤ kc) (hks : s2 + ks' ≤ ks) (hst : v.toList ++ rest = st2) (k : V G me x (pc + 3) loc st2 N' gf' h' k2 s2) : V G me x pc loc st N gf h kc ks := by
  subst hs
  refine V_run (arr := (rf G i :: as).toArray) C hkc hks (fun {p e R s m args below meth c H locs cells slots ls} F hW hS hf hsz => ?_) hst k
  obtain ⟨F1, hK, hfr, hlc⟩ := F
  have hts := F1.2.2.2.2
  exact va_runV (As := as) (C := y.cls) F1 hc ⟨callB_of np hts (gd_GoodIn hk.1.1) rfl rfl rfl (hts _ hk.1.1.2.1) (hts _ hl) hk.1.1.2.2.1 (by rw [hfr, hlc]; exact hR), hts _ hk.1.2, hts _ hk.2⟩ ⟨FB _ _ _ _ _, va_recv hK.2.1 hW.1 hcl (by rw [wsO_at hi, hci]), Pc_at hK hW hS⟩ rfl hn hsz rfl (lv_room hW8) d hf
theorem V_IN {host : String} {st2 : List Value} {i : Nat} (C : Cx G me x) (d : decode me.2.1 pc = .ok (.invokespecial idx, 3)) (hl : (me.1, idx, y, host) ∈ lw_nest) (hk : YKi y me' np) (hr : me'.2.2.2.1 = none) (hy : y.name = "<init>") (hc : Ct G y me' (rf G i :: as) N gf h kc' ks' v N' gf' h') (hs : st = as.reverse ++ rf G i :: rest) (hn : as.length = np) (hR : me'.2.2.2.2.1 + 1 ≤ me.2.2.2.2.1 ∧ 8 + (me'.2.2.1 + 11) + me'.2.2.2.2.2.1 ≤ me.2.2.2.2.2.1) (hW8 : (rest.map fun v => v.category).sum ≤ 8) (hkc : k2 + kc' ≤ kc) (hks : s2 + ks' ≤ ks) (hst : v.toList ++ rest = st2) (k : V G me x (pc + 3) loc st2 N' gf' h' k2 s2) : V G me x pc loc st N gf h kc ks := by
  subst hs
  refine V_run (arr := (rf G i :: as).toArray) C hkc hks (fun {p e R s m args below meth c H locs cells slots ls} F hW hS hf hsz => ?_) hst k
  obtain ⟨F1, hK, hfr, hlc⟩ := F
  have hts := F1.2.2.2.2
  have hNw : va_Nw (.methodLinkNest me.1 idx y host) s := hK.2.2.2.2.2.2.2.2.1 _ hl
  have hg := gd_GoodIn hk.1
  unfold wsY at hg
  rw [hr] at hg
  unfold Ct wsY at hc
  rw [hr] at hc
  exact va_runIN (As := as) F1 hc ⟨va_cnB np hts hg rfl rfl rfl hNw (hts _ hk.1.2.1) hk.1.2.2.1 (by rw [hfr, hlc]; exact hR), hy, hts _ hk.2⟩ ⟨FB _ _ _ _ _, Pc_at hK hW hS⟩ rfl hn hsz rfl (lv_room hW8) d hf
theorem V_I {st2 : List Value} {i : Nat} (C : Cx G me x) (d : decode me.2.1 pc = .ok (.invokespecial idx, 3)) (hl : Cond.methodLink me.1 idx y ∈ lw_gd) (hk : YKi y me' np) (hr : me'.2.2.2.1 = none) (hy : y.name = "<init>") (hc : Ct G y me' (rf G i :: as) N gf h kc' ks' v N' gf' h') (hs : st = as.reverse ++ rf G i :: rest) (hn : as.length = np) (hR : me'.2.2.2.2.1 + 1 ≤ me.2.2.2.2.1 ∧ 8 + (me'.2.2.1 + 11) + me'.2.2.2.2.2.1 ≤ me.2.2.2.2.2.1) (hW8 : (rest.map fun v => v.category).sum ≤ 8) (hkc : k2 + kc' ≤ kc) (hks : s2 + ks' ≤ ks) (hst : v.toList ++ rest = st2) (k : V G me x (pc + 3) loc st2 N' gf' h' k2 s2) : V G me x pc loc st N gf h kc ks := by
  subst hs
  refine V_run (arr := (rf G i :: as).toArray) C hkc hks (fun {p e R s m args below meth c H locs cells slots ls} F hW hS hf hsz => ?_) hst k
  obtain ⟨F1, hK, hfr, hlc⟩ := F
  have hts := F1.2.2.2.2
  have hg := gd_GoodIn hk.1
  unfold wsY at hg
  rw [hr] at hg
  unfold Ct wsY at hc
  rw [hr] at hc
  exact va_runI (As := as) F1 hc ⟨callB_of np hts hg rfl rfl rfl (hts _ hk.1.2.1) (hts _ hl) hk.1.2.2.1 (by rw [hfr, hlc]; exact hR), hy, hts _ hk.2⟩ ⟨FB _ _ _ _ _, Pc_at hK hW hS⟩ rfl hn hsz rfl (lv_room hW8) d hf
/-- a callee that throws -/
theorem V_runX {E : String} {arr : Array Value} (C : Cx G me x) (hkc : k2 + kc' ≤ kc) (hks : s2 + ks' ≤ ks)
    (f : ∀ {p : Program} {e : Env} {R : Room} {s : State} {m : MethodId} {args : Array Value} {below : List Frame} {meth : Method} {c : Code} {H : Heap} {locs : List Loc} {cells slots : Nat} {ls : Array Slot}, CxF G me p R s m args c → HW G N gf h H → va_S (gA G) s.heap H locs → cells + kc' ≤ R.cells ∧ slots + ks' ≤ R.slots → ls.size = me.2.2.1 → vx_Run p G.1 e R s m args below meth c H locs cells slots kc' ks' (F0 m pc ls st) rest ((fun _ _ _ _ => False : Array Value → State → Outcome → State → Prop) arr) (XcM G E N' h') (gA G))
    (k : VX G me x E pc loc rest N' h' k2 s2) : V G me x pc loc st N gf h kc ks := by
  obtain ⟨p, e, R, s, m, args, below, meth, c, Z⟩ := x
  obtain ⟨hx, hb, hml, hr, ho, hts, hK, hlk, hfr, hlc, htb, -⟩ := C
  intro H locs cells slots ls hW hS hl h1 h2 T hT X
  rcases f (e := e) (below := below) (meth := meth) ⟨⟨hx, hb, hml, ho, hts⟩, hK, hfr, hlc⟩ hW hS ⟨by omega, by omega⟩ hl.1 T hT X with ⟨w, st₀, t, T', L, h0, X', hL, e1, e2, hw, sg⟩ | ⟨q, st₀, t, T', L, E', ce, h0, X', hL, e1, e2, ⟨⟨hE, hW'⟩, hF⟩, hce, hcv, hcl, sg⟩
  · exact hw.elim
  · subst hE
    obtain ⟨k1, k3, k4⟩ := vx_keep h0 e1 hS (fun _ _ q => q) (fun _ q => q) hL hF
    obtain ⟨t2, a1, b1⟩ := k T'.heap (locs ++ L) (cells + kc') (slots + ks') ls q ce (by rw [e1]; exact hW') k4 hl (by omega) (by omega) (by rw [e1]; exact hce) hcv hcl T' rfl X'
    exact ⟨t2, sg.trans a1, b1⟩
theorem V_SX {E : String} (C : Cx G me x) (d : decode me.2.1 pc = .ok (.invokestatic idx, 3)) (hl : Cond.methodLink me.1 idx y ∈ lw_gd) (hk : YKs y me' np) (hc : CtX G y me' as N gf h kc' ks' E h') (hs : st = as.reverse ++ rest) (hn : as.length = np) (hR : me'.2.2.2.2.1 + 1 ≤ me.2.2.2.2.1 ∧ 8 + (me'.2.2.1 + 11) + me'.2.2.2.2.2.1 ≤ me.2.2.2.2.2.1) (hW8 : (rest.map fun v => v.category).sum ≤ 8) (hkc : k2 + kc' ≤ kc) (hks : s2 + ks' ≤ ks) (k : VX G me x E pc loc rest N h' k2 s2) : V G me x pc loc st N gf h kc ks := by
  subst hs
  refine V_runX (arr := as.toArray) C hkc hks (fun {p e R s m args below meth c H locs cells slots ls} F hW hS hf hsz => ?_) k
  obtain ⟨F1, hK, hfr, hlc⟩ := F
  exact vx_runS (As := as) F1 hc ⟨callB_of np F1.2.2.2.2 (gd_GoodIn hk.1) rfl rfl rfl (F1.2.2.2.2 _ hk.1.2.1) (F1.2.2.2.2 _ hl) hk.1.2.2.1 (by rw [hfr, hlc]; exact hR), F1.2.2.2.2 _ hk.2⟩ ⟨FB _ _ _ _ _, Pc_at hK hW hS⟩ rfl hn hsz rfl (lv_room hW8) d hf
theorem V_VX {E : String} {i ci n : Nat} {fs : List Value} {T : u_T} (C : Cx G me x) (d : decode me.2.1 pc = .ok (.invokevirtual idx, 3)) (hl : Cond.methodLink me.1 idx y ∈ lw_gd) (hk : YKv y me' np) (hc : CtX G y me' (rf G i :: as) N gf h kc' ks' E h') (hi : i < N) (hci : h i = .inr (ci, fs)) (hcl : vwCl[ci]? = some (y.cls, T, n)) (hs : st = as.reverse ++ rf G i :: rest) (hn : as.length = np) (hR : me'.2.2.2.2.1 + 1 ≤ me.2.2.2.2.1 ∧ 8 + (me'.2.2.1 + 11) + me'.2.2.2.2.2.1 ≤ me.2.2.2.2.2.1) (hW8 : (rest.map fun v => v.category).sum ≤ 8) (hkc : k2 + kc' ≤ kc) (hks : s2 + ks' ≤ ks) (k : VX G me x E pc loc rest N h' k2 s2) : V G me x pc loc st N gf h kc ks := by
  subst hs
  refine V_runX (arr := (rf G i :: as).toArray) C hkc hks (fun {p e R s m args below meth c H locs cells slots ls} F hW hS hf hsz => ?_) k
  obtain ⟨F1, hK, hfr, hlc⟩ := F
  have hts := F1.2.2.2.2
  exact vx_runV (As := as) (C := y.cls) F1 hc ⟨callB_of np hts (gd_GoodIn hk.1.1) rfl rfl rfl (hts _ hk.1.1.2.1) (hts _ hl) hk.1.1.2.2.1 (by rw [hfr, hlc]; exact hR), hts _ hk.1.2, hts _ hk.2⟩ ⟨FB _ _ _ _ _, va_recv hK.2.1 hW.1 hcl (by rw [wsO_at hi, hci]), Pc_at hK hW hS⟩ rfl hn hsz rfl (lv_room hW8) d hf
/-- a static callee with a table, that returns -/
theorem V_SH {st2 : List Value} (C : Cx G me x) (d : decode me.2.1 pc = .ok (.invokestatic idx, 3)) (hl : Cond.methodLink me.1 idx y ∈ lw_gd) (hk : YKh y me' np) (hc : CtH G y me' as N gf h kc' ks' v N' gf' h') (hs : st = as.reverse ++ rest) (hn : as.length = np) (hR : me'.2.2.2.2.1 + 1 ≤ me.2.2.2.2.1 ∧ 8 + (me'.2.2.1 + 11) + me'.2.2.2.2.2.1 ≤ me.2.2.2.2.2.1) (hW8 : (rest.map fun v => v.category).sum ≤ 8) (hkc : k2 + kc' ≤ kc) (hks : s2 + ks' ≤ ks) (hst : v.toList ++ rest = st2) (k : V G me x (pc + 3) loc st2 N' gf' h' k2 s2) : V G me x pc loc st N gf h kc ks := by
  subst hs
  refine V_run (arr := as.toArray) C hkc hks (fun {p e R s m args below meth c H locs cells slots ls} F hW hS hf hsz => ?_) hst k
  obtain ⟨F1, hK, hfr, hlc⟩ := F
  have hts := F1.2.2.2.2
  have hg : GoodIn lw_gd (va_wsS me.1 idx y (wsH y me')) := by
    intro w hw
    have hm : w ∈ lw_gd := by
      unfold va_wsS at hw
      rcases List.mem_append.mp hw with e1 | e1
      · simp only [List.mem_cons, List.not_mem_nil, or_false] at e1
        rcases e1 with rfl | rfl | rfl
        · exact hl
        · exact hk.2.2.2.2.2
        · exact hk.2.1
      · rcases List.mem_cons.mp e1 with e2 | e2
        · rw [e2]; exact hk.1
        · exact e2
    exact ⟨hm, good_of_word (gd_good hm)⟩
  intro T hT X
  rcases vx_runSX (As := as) F1 hc (vx_cwSW np hts hg rfl rfl rfl hk.2.2.1 (by rw [hfr, hlc]; exact hR)) ⟨FB _ _ _ _ _, Pc_at hK hW hS⟩ rfl hn hsz rfl (lv_room hW8) d hf T hT X with ⟨w, st₀, t, T', L, q1⟩ | ⟨q, st₀, t, T', L, E', ce, h0, X', hL, e1, e2, hx9, -⟩
  · exact ⟨w, st₀, t, T', L, q1⟩
  · exact hx9.elim
end CALLS
end
section
/-! throws of the class's own, and their catching -/
def lw_bad : List Cond := (lw_cast.map fun q => Cond.castable q q) ++ lw_decl.map fun y => Cond.declares y
abbrev lw_ex : List String := ["java/lang/RuntimeException", "java/lang/Exception"]
theorem bad_ok {G : GT} {s : State} {args : Array Value} (hK : KK G s) : ∀ w ∈ lw_bad, w.before args s = true := by
  obtain ⟨-, -, -, -, -, -, -, -, -, h9, h10, -⟩ := hK
  intro w hw
  unfold lw_bad at hw
  rcases List.mem_append.mp hw with h | h
  · obtain ⟨q, hq, rfl⟩ := List.mem_map.mp h
    exact va_Nw.use rfl (h9 q hq)
  · obtain ⟨q, hq, rfl⟩ := List.mem_map.mp h
    exact va_Nw.use rfl (h10 q hq)
/-- 'throw new X(text)' can be made in this class -/
def TH (own : String) (ik ic : Nat) (X : String) : Prop := Bundle.fit X = true ∧ Cond.classLink own ik X ∈ lw_gd ∧ Cond.initialized X ∈ lw_gd ∧ (∀ w ∈ (vx_atS own ic X lw_ex).filter goodWord, w ∈ lw_gd) ∧ (∀ w ∈ (vx_atS own ic X lw_ex).filter (fun w => !goodWord w), w ∈ lw_bad) ∧ (∀ w ∈ Cond.classLink own ik X :: Cond.initialized X :: vx_atS own ic X lw_ex, vx_ot w = true)
theorem lw_tbl_in {ws : List Cond} (h1 : (ws.all fun w => decide (w ∈ lw_tbl)) = true) (h2 : ws.all goodWord = true) : ∀ w ∈ ws, w ∈ lw_gd := by
  intro w hw
  have h3 := List.all_eq_true.mp h1 w hw
  exact gd_mem (of_decide_eq_true h3) (List.all_eq_true.mp h2 w hw)
set_option maxRecDepth 100000 in
theorem TH_IOOBE : TH RX5 191 195 "java/lang/IndexOutOfBoundsException" := ⟨by decide +kernel, nX5_191, gd_mem (tb_1 11 (by decide +kernel)) (by decide +kernel), lw_tbl_in (by decide +kernel) (by decide +kernel), by decide +kernel, by decide +kernel⟩
set_option maxRecDepth 100000 in
theorem TH_IAE : TH RX5 104 108 "java/lang/IllegalArgumentException" := ⟨by decide +kernel, nX5_104, lw_tbl_in (ws := [Cond.initialized "java/lang/IllegalArgumentException"]) (by decide +kernel) (by decide +kernel) _ List.mem_cons_self, lw_tbl_in (by decide +kernel) (by decide +kernel), by decide +kernel, by decide +kernel⟩
set_option maxRecDepth 100000 in
theorem TH_ISE : TH RX5 76 80 "java/lang/IllegalStateException" := ⟨by decide +kernel, nX5_76, lw_tbl_in (ws := [Cond.initialized "java/lang/IllegalStateException"]) (by decide +kernel) (by decide +kernel) _ List.mem_cons_self, lw_tbl_in (by decide +kernel) (by decide +kernel), by decide +kernel, by decide +kernel⟩
section THROW
variable {G : GT} {me : MeT} {x : CxT} {pc : Nat} {loc : List (Option Value)} {st : List Value} {N : Nat} {gf : Bool} {h h' : Hp} {kc ks : Nat}
theorem V_throw {ik is ic : Nat} {E text : String} (j : Nat) (C : Cx G me x) (hT : TH me.1 ik ic E) (hs : lw_strs[j]? = some (me.1, is, text)) (hh : me.2.2.2.2.2.2.1 = [])
    (d0 : decode me.2.1 pc = .ok (.new ik, 3)) (d3 : decode me.2.1 (pc + 3) = .ok (.dup, 1)) (d4 : decode me.2.1 (pc + 4) = .ok (.ldc is, 2)) (d6 : decode me.2.1 (pc + 6) = .ok (.invokespecial ic, 3)) (d9 : decode me.2.1 (pc + 9) = .ok (.athrow, 1))
    (hf : 6 ≤ me.2.2.2.2.1) (hlo : (st.map fun v => v.category).sum + 82 ≤ me.2.2.2.2.2.1) (hZ : ZX G x E N h') (e : h = h') (hkc : 1 ≤ kc) (hks : 6 ≤ ks) : V G me x pc loc st N gf h kc ks := by
  subst e
  obtain ⟨p, e, R, s, m, args, below, meth, c, Z⟩ := x
  obtain ⟨hx, hb, hml, -, ho, hts, hK, hlk, hfr, hlc, htb, -⟩ := C
  obtain ⟨t1, t2, t3, t4, t5, t6⟩ := hT
  intro H locs cells slots ls hW hS hl h1 h2
  have hZ : Z = vx_MQ below (fun _ _ _ _ => False) (XcM G E N h) args s R.cells R.slots (gA G) := hZ
  subst hZ
  have hb2 := bad_ok (args := args) hK
  obtain ⟨g0, g1, g2, g3, g4, g5, g6, g7, -⟩ := hK
  refine vx_throwS (names := lw_ex) (own := me.1) (text := text) (sa := G.2.2.2.2.2 j) hx hb g0 ho t1 (by decide +kernel) (hts _ t2) (hts _ t3) (g7 j _ hs) (vx_hat (fun w hw => hts _ (t4 w hw)) t5 hb2) t6 g5 g6 hS (hl.1.trans hml.symm) d0 d3 d4 d6 d9 (fun z hz => ?_) (by rw [hfr]; exact Nat.lt_of_lt_of_le (by decide) hf) (by rw [hlc]; exact Nat.le_trans (by show _ + (13 * (2 + 1) + 43) ≤ _; omega) hlo) (by omega) (by omega) hlk (fun t _ q1 q2 => ?_) hS.2.2 (by omega) (by omega)
  · rw [htb, hh] at hz
    cases hz
  · refine ⟨⟨rfl, hW.1.kept (fun k q e => q2 q.1 (hW.1 k q e).lt), Nat.le_trans hW.2.1 q1, fun g => by cases g⟩, Nat.le_trans hS.1 q1, fun q z1 z2 => ?_⟩
    rw [q2 q (Nat.lt_of_lt_of_le z1 hS.1)]
    exact hS.2.1 q z1 z2
theorem V_throwW {ik is ic : Nat} {E text : String} (j : Nat) (C : Cx G me x) (hT : TH me.1 ik ic E) (hs : lw_strs[j]? = some (me.1, is, text)) (hh : me.2.2.2.2.2.2.1 = [])
    (d0 : decode me.2.1 pc = .ok (.new ik, 3)) (d3 : decode me.2.1 (pc + 3) = .ok (.dup, 1)) (d4 : decode me.2.1 (pc + 4) = .ok (.ldc_w is, 3)) (d7 : decode me.2.1 (pc + 7) = .ok (.invokespecial ic, 3)) (d10 : decode me.2.1 (pc + 10) = .ok (.athrow, 1))
    (hf : 6 ≤ me.2.2.2.2.1) (hlo : (st.map fun v => v.category).sum + 82 ≤ me.2.2.2.2.2.1) (hZ : ZX G x E N h') (e : h = h') (hkc : 1 ≤ kc) (hks : 6 ≤ ks) : V G me x pc loc st N gf h kc ks := by
  subst e
  obtain ⟨p, e, R, s, m, args, below, meth, c, Z⟩ := x
  obtain ⟨hx, hb, hml, -, ho, hts, hK, hlk, hfr, hlc, htb, -⟩ := C
  obtain ⟨t1, t2, t3, t4, t5, t6⟩ := hT
  intro H locs cells slots ls hW hS hl h1 h2
  have hZ : Z = vx_MQ below (fun _ _ _ _ => False) (XcM G E N h) args s R.cells R.slots (gA G) := hZ
  subst hZ
  have hb2 := bad_ok (args := args) hK
  obtain ⟨g0, g1, g2, g3, g4, g5, g6, g7, -⟩ := hK
  refine vx_throwSW (names := lw_ex) (own := me.1) (text := text) (sa := G.2.2.2.2.2 j) hx hb g0 ho t1 (by decide +kernel) (hts _ t2) (hts _ t3) (g7 j _ hs) (vx_hat (fun w hw => hts _ (t4 w hw)) t5 hb2) t6 g5 g6 hS (hl.1.trans hml.symm) d0 d3 d4 d7 d10 (fun z hz => ?_) (by rw [hfr]; exact Nat.lt_of_lt_of_le (by decide) hf) (by rw [hlc]; exact Nat.le_trans (by show _ + (13 * (2 + 1) + 43) ≤ _; omega) hlo) (by omega) (by omega) hlk (fun t _ q1 q2 => ?_) hS.2.2 (by omega) (by omega)
  · rw [htb, hh] at hz
    cases hz
  · refine ⟨⟨rfl, hW.1.kept (fun k q e => q2 q.1 (hW.1 k q e).lt), Nat.le_trans hW.2.1 q1, fun g => by cases g⟩, Nat.le_trans hS.1 q1, fun q z1 z2 => ?_⟩
    rw [q2 q (Nat.lt_of_lt_of_le z1 hS.1)]
    exact hS.2.1 q z1 z2
/-- caught by the row j of the method's own table; the rows ahead name other classes -/
theorem VX_catch {E : String} (C : Cx G me x) (pre : List (Nat × Nat × Nat × Nat)) (q : Nat × Nat × Nat × Nat) (suf : List (Nat × Nat × Nat × Nat)) (hh : me.2.2.2.2.2.2.1 = pre ++ q :: suf)
    (hpre : ∀ z ∈ pre, ∃ nm : String, z.2.2.2 ≠ 0 ∧ Cond.classLink me.1 z.2.2.2 nm ∈ lw_gd ∧ (E, nm) ∈ lw_nc) (h1 : q.1 ≤ pc ∧ pc < q.2.1) (h0 : q.2.2.2 ≠ 0) (hl : Cond.classLink me.1 q.2.2.2 E ∈ lw_gd) (hE : E ∈ lw_cast)
    (k : ∀ a : Nat, V G me x q.2.2.1 loc [.ref a] N false h kc ks) : VX G me x E pc loc st N h kc ks := by
  obtain ⟨p, e, R, s, m, args, below, meth, c, Z⟩ := x
  obtain ⟨hx, hb, hml, hr, ho, hts, hK, hlk, -, -, htb, -⟩ := C
  intro H locs cells slots ls a ce hW hS hl0 g1 g2 hce hv hcl
  have hcast := hK.2.2.2.2.2.2.2.2.2.1 E hE
  have hnc := hK.2.2.2.2.2.2.2.2.2.2.2.1
  have hsp : c.exceptionTable.toList = tableOf pre ++ ⟨q.1, q.2.1, q.2.2.1, q.2.2.2⟩ :: tableOf suf := by
    rw [htb, hh]
    simp [tableOf]
  refine vx_catch (name := E) ho (tableOf pre) _ (tableOf suf) hsp (fun z hz => ?_) ?_ h0 (hts _ hl) (va_Nw.use rfl hcast) hce hv hcl (k a H locs cells slots ls hW hS hl0 g1 g2)
  · obtain ⟨z0, hz0, rfl⟩ := List.mem_map.mp hz
    obtain ⟨nm, n0, n1, n2⟩ := hpre z0 hz0
    exact Or.inr ⟨n0, nm, hts _ n1, hnc _ n2⟩
  · simp [covers, h1.1, h1.2]
end THROW
end
