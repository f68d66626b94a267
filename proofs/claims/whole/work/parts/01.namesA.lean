-- ===== PART A: goes FIRST, ahead of the names: the tables' words, and 'selects' of the private methods out of them =====
/-- a private method of a class that the tables say can be made, by its rows of tables_1 -/
def lw_okq (q : MethodName × Nat) : Prop := (q.1.cls ≠ "java/lang/invoke/MethodHandle" ∧ q.1.cls ≠ "java/lang/invoke/VarHandle") ∧ Cond.instantiable q.1.cls q.2 ∈ tables_1 ∧ Cond.privateMethod q.1 ∈ tables_1 ∧ Cond.instanceMethod q.1 ∈ tables_1
theorem lw_p0 : lw_okq (⟨"WallMarks", "settle", "()V"⟩, 10) := ⟨⟨by decide +kernel, by decide +kernel⟩, List.mem_of_getElem? (i := 13) (by decide +kernel), List.mem_of_getElem? (i := 201) (by decide +kernel), List.mem_of_getElem? (i := 202) (by decide +kernel)⟩
theorem lw_p1 : lw_okq (⟨"WallMarks$Counted", "add", "(III)V"⟩, 11) := ⟨⟨by decide +kernel, by decide +kernel⟩, List.mem_of_getElem? (i := 90) (by decide +kernel), List.mem_of_getElem? (i := 225) (by decide +kernel), List.mem_of_getElem? (i := 226) (by decide +kernel)⟩
theorem lw_p2 : lw_okq (⟨"WallMarks$Counted", "holdAgainstRecord", "(II)V"⟩, 11) := ⟨⟨by decide +kernel, by decide +kernel⟩, List.mem_of_getElem? (i := 90) (by decide +kernel), List.mem_of_getElem? (i := 229) (by decide +kernel), List.mem_of_getElem? (i := 230) (by decide +kernel)⟩
theorem lw_p3 : lw_okq (⟨"WallMarks", "isTimeToTell", "(I)Z"⟩, 10) := ⟨⟨by decide +kernel, by decide +kernel⟩, List.mem_of_getElem? (i := 13) (by decide +kernel), List.mem_of_getElem? (i := 279) (by decide +kernel), List.mem_of_getElem? (i := 280) (by decide +kernel)⟩
theorem lw_p4 : lw_okq (⟨"WallMarks", "found", "(I)I"⟩, 10) := ⟨⟨by decide +kernel, by decide +kernel⟩, List.mem_of_getElem? (i := 13) (by decide +kernel), List.mem_of_getElem? (i := 299) (by decide +kernel), List.mem_of_getElem? (i := 300) (by decide +kernel)⟩
theorem lw_p5 : lw_okq (⟨"WallMarks$Counted", "belowsUnder", "(I)I"⟩, 11) := ⟨⟨by decide +kernel, by decide +kernel⟩, List.mem_of_getElem? (i := 90) (by decide +kernel), List.mem_of_getElem? (i := 352) (by decide +kernel), List.mem_of_getElem? (i := 353) (by decide +kernel)⟩
theorem lw_p6 : lw_okq (⟨"WallMarks", "counts", "(I)Z"⟩, 10) := ⟨⟨by decide +kernel, by decide +kernel⟩, List.mem_of_getElem? (i := 13) (by decide +kernel), List.mem_of_getElem? (i := 396) (by decide +kernel), List.mem_of_getElem? (i := 397) (by decide +kernel)⟩
theorem lw_p7 : lw_okq (⟨"WallMarks", "should", "()I"⟩, 10) := ⟨⟨by decide +kernel, by decide +kernel⟩, List.mem_of_getElem? (i := 13) (by decide +kernel), List.mem_of_getElem? (i := 436) (by decide +kernel), List.mem_of_getElem? (i := 437) (by decide +kernel)⟩
theorem lw_p8 : lw_okq (⟨"WallMarks", "orderByRecords", "(I)V"⟩, 10) := ⟨⟨by decide +kernel, by decide +kernel⟩, List.mem_of_getElem? (i := 13) (by decide +kernel), List.mem_of_getElem? (i := 440) (by decide +kernel), List.mem_of_getElem? (i := 441) (by decide +kernel)⟩
theorem lw_p9 : lw_okq (⟨"WallMarks$Counted", "sumAhead", "(I)I"⟩, 11) := ⟨⟨by decide +kernel, by decide +kernel⟩, List.mem_of_getElem? (i := 90) (by decide +kernel), List.mem_of_getElem? (i := 471) (by decide +kernel), List.mem_of_getElem? (i := 472) (by decide +kernel)⟩
theorem lw_p10 : lw_okq (⟨"WallMarks", "greatestChange", "()I"⟩, 10) := ⟨⟨by decide +kernel, by decide +kernel⟩, List.mem_of_getElem? (i := 13) (by decide +kernel), List.mem_of_getElem? (i := 483) (by decide +kernel), List.mem_of_getElem? (i := 484) (by decide +kernel)⟩
theorem lw_p11 : lw_okq (⟨"WallMarks", "howLikely", "(I)I"⟩, 10) := ⟨⟨by decide +kernel, by decide +kernel⟩, List.mem_of_getElem? (i := 13) (by decide +kernel), List.mem_of_getElem? (i := 487) (by decide +kernel), List.mem_of_getElem? (i := 488) (by decide +kernel)⟩
theorem lw_p12 : lw_okq (⟨"WallMarks", "commonYears", "()I"⟩, 10) := ⟨⟨by decide +kernel, by decide +kernel⟩, List.mem_of_getElem? (i := 13) (by decide +kernel), List.mem_of_getElem? (i := 504) (by decide +kernel), List.mem_of_getElem? (i := 505) (by decide +kernel)⟩
theorem lw_p13 : lw_okq (⟨"WallMarks", "sisterOf", "(I)I"⟩, 10) := ⟨⟨by decide +kernel, by decide +kernel⟩, List.mem_of_getElem? (i := 13) (by decide +kernel), List.mem_of_getElem? (i := 508) (by decide +kernel), List.mem_of_getElem? (i := 509) (by decide +kernel)⟩
theorem lw_p14 : lw_okq (⟨"WallMarks", "ties", "()I"⟩, 10) := ⟨⟨by decide +kernel, by decide +kernel⟩, List.mem_of_getElem? (i := 13) (by decide +kernel), List.mem_of_getElem? (i := 512) (by decide +kernel), List.mem_of_getElem? (i := 513) (by decide +kernel)⟩
theorem lw_p15 : lw_okq (⟨"WallMarks", "tie", "(II)I"⟩, 10) := ⟨⟨by decide +kernel, by decide +kernel⟩, List.mem_of_getElem? (i := 13) (by decide +kernel), List.mem_of_getElem? (i := 516) (by decide +kernel), List.mem_of_getElem? (i := 517) (by decide +kernel)⟩
def lw_privs_1 : List (MethodName × Nat) := [(⟨"WallMarks", "settle", "()V"⟩, 10), (⟨"WallMarks$Counted", "add", "(III)V"⟩, 11), (⟨"WallMarks$Counted", "holdAgainstRecord", "(II)V"⟩, 11), (⟨"WallMarks", "isTimeToTell", "(I)Z"⟩, 10), (⟨"WallMarks", "found", "(I)I"⟩, 10), (⟨"WallMarks$Counted", "belowsUnder", "(I)I"⟩, 11), (⟨"WallMarks", "counts", "(I)Z"⟩, 10), (⟨"WallMarks", "should", "()I"⟩, 10), (⟨"WallMarks", "orderByRecords", "(I)V"⟩, 10), (⟨"WallMarks$Counted", "sumAhead", "(I)I"⟩, 11), (⟨"WallMarks", "greatestChange", "()I"⟩, 10), (⟨"WallMarks", "howLikely", "(I)I"⟩, 10), (⟨"WallMarks", "commonYears", "()I"⟩, 10), (⟨"WallMarks", "sisterOf", "(I)I"⟩, 10), (⟨"WallMarks", "ties", "()I"⟩, 10), (⟨"WallMarks", "tie", "(II)I"⟩, 10)]
theorem lw_r1 : ∀ q ∈ lw_privs_1, lw_okq q := List.forall_mem_cons.mpr ⟨lw_p0, List.forall_mem_cons.mpr ⟨lw_p1, List.forall_mem_cons.mpr ⟨lw_p2, List.forall_mem_cons.mpr ⟨lw_p3, List.forall_mem_cons.mpr ⟨lw_p4, List.forall_mem_cons.mpr ⟨lw_p5, List.forall_mem_cons.mpr ⟨lw_p6, List.forall_mem_cons.mpr ⟨lw_p7, List.forall_mem_cons.mpr ⟨lw_p8, List.forall_mem_cons.mpr ⟨lw_p9, List.forall_mem_cons.mpr ⟨lw_p10, List.forall_mem_cons.mpr ⟨lw_p11, List.forall_mem_cons.mpr ⟨lw_p12, List.forall_mem_cons.mpr ⟨lw_p13, List.forall_mem_cons.mpr ⟨lw_p14, List.forall_mem_cons.mpr ⟨lw_p15, fun _ h => absurd h List.not_mem_nil⟩⟩⟩⟩⟩⟩⟩⟩⟩⟩⟩⟩⟩⟩⟩⟩
theorem lw_p16 : lw_okq (⟨"WallMarks", "filledBySums", "(I)I"⟩, 10) := ⟨⟨by decide +kernel, by decide +kernel⟩, List.mem_of_getElem? (i := 13) (by decide +kernel), List.mem_of_getElem? (i := 524) (by decide +kernel), List.mem_of_getElem? (i := 525) (by decide +kernel)⟩
theorem lw_p17 : lw_okq (⟨"WallMarks", "filledByOne", "(IZ)I"⟩, 10) := ⟨⟨by decide +kernel, by decide +kernel⟩, List.mem_of_getElem? (i := 13) (by decide +kernel), List.mem_of_getElem? (i := 528) (by decide +kernel), List.mem_of_getElem? (i := 529) (by decide +kernel)⟩
theorem lw_p18 : lw_okq (⟨"WallMarks$Flows", "passes", "(C)Z"⟩, 6) := ⟨⟨by decide +kernel, by decide +kernel⟩, List.mem_of_getElem? (i := 151) (by decide +kernel), List.mem_of_getElem? (i := 557) (by decide +kernel), List.mem_of_getElem? (i := 558) (by decide +kernel)⟩
theorem lw_p19 : lw_okq (⟨"WallMarks$Flows", "parsePair", "()I"⟩, 6) := ⟨⟨by decide +kernel, by decide +kernel⟩, List.mem_of_getElem? (i := 151) (by decide +kernel), List.mem_of_getElem? (i := 561) (by decide +kernel), List.mem_of_getElem? (i := 562) (by decide +kernel)⟩
theorem lw_p20 : lw_okq (⟨"WallMarks$Flows", "parseNumber", "()I"⟩, 6) := ⟨⟨by decide +kernel, by decide +kernel⟩, List.mem_of_getElem? (i := 151) (by decide +kernel), List.mem_of_getElem? (i := 565) (by decide +kernel), List.mem_of_getElem? (i := 566) (by decide +kernel)⟩
theorem lw_p21 : lw_okq (⟨"WallMarks$Flows", "isFigure", "()Z"⟩, 6) := ⟨⟨by decide +kernel, by decide +kernel⟩, List.mem_of_getElem? (i := 151) (by decide +kernel), List.mem_of_getElem? (i := 569) (by decide +kernel), List.mem_of_getElem? (i := 570) (by decide +kernel)⟩
theorem lw_p22 : lw_okq (⟨"WallMarks", "dykeAbove", "(I)J"⟩, 10) := ⟨⟨by decide +kernel, by decide +kernel⟩, List.mem_of_getElem? (i := 13) (by decide +kernel), List.mem_of_getElem? (i := 598) (by decide +kernel), List.mem_of_getElem? (i := 599) (by decide +kernel)⟩
theorem lw_p23 : lw_okq (⟨"WallMarks", "isBetter", "(II)Z"⟩, 10) := ⟨⟨by decide +kernel, by decide +kernel⟩, List.mem_of_getElem? (i := 13) (by decide +kernel), List.mem_of_getElem? (i := 615) (by decide +kernel), List.mem_of_getElem? (i := 616) (by decide +kernel)⟩
theorem lw_p24 : lw_okq (⟨"WallMarks", "isSure", "(II)Z"⟩, 10) := ⟨⟨by decide +kernel, by decide +kernel⟩, List.mem_of_getElem? (i := 13) (by decide +kernel), List.mem_of_getElem? (i := 623) (by decide +kernel), List.mem_of_getElem? (i := 624) (by decide +kernel)⟩
theorem lw_p25 : lw_okq (⟨"WallMarks$Sheet", "narrowed", "(I)I"⟩, 4) := ⟨⟨by decide +kernel, by decide +kernel⟩, List.mem_of_getElem? (i := 178) (by decide +kernel), List.mem_of_getElem? (i := 655) (by decide +kernel), List.mem_of_getElem? (i := 656) (by decide +kernel)⟩
theorem lw_p26 : lw_okq (⟨"WallMarks", "sisterYears", "()I"⟩, 10) := ⟨⟨by decide +kernel, by decide +kernel⟩, List.mem_of_getElem? (i := 13) (by decide +kernel), List.mem_of_getElem? (i := 682) (by decide +kernel), List.mem_of_getElem? (i := 683) (by decide +kernel)⟩
theorem lw_p27 : lw_okq (⟨"WallMarksModel", "met", "(I)I"⟩, 28) := ⟨⟨by decide +kernel, by decide +kernel⟩, List.mem_of_getElem? (i := 708) (by decide +kernel), List.mem_of_getElem? (i := 811) (by decide +kernel), List.mem_of_getElem? (i := 812) (by decide +kernel)⟩
theorem lw_p28 : lw_okq (⟨"WallMarksModel", "lacks", "(III)I"⟩, 28) := ⟨⟨by decide +kernel, by decide +kernel⟩, List.mem_of_getElem? (i := 708) (by decide +kernel), List.mem_of_getElem? (i := 823) (by decide +kernel), List.mem_of_getElem? (i := 824) (by decide +kernel)⟩
theorem lw_p29 : lw_okq (⟨"WallMarksModel", "isEarly", "(I)Z"⟩, 28) := ⟨⟨by decide +kernel, by decide +kernel⟩, List.mem_of_getElem? (i := 708) (by decide +kernel), List.mem_of_getElem? (i := 851) (by decide +kernel), List.mem_of_getElem? (i := 852) (by decide +kernel)⟩
theorem lw_p30 : lw_okq (⟨"WallMarksModel", "find", "()V"⟩, 28) := ⟨⟨by decide +kernel, by decide +kernel⟩, List.mem_of_getElem? (i := 708) (by decide +kernel), List.mem_of_getElem? (i := 879) (by decide +kernel), List.mem_of_getElem? (i := 880) (by decide +kernel)⟩
theorem lw_p31 : lw_okq (⟨"WallMarksModel", "watchedBy", "(I)I"⟩, 28) := ⟨⟨by decide +kernel, by decide +kernel⟩, List.mem_of_getElem? (i := 708) (by decide +kernel), List.mem_of_getElem? (i := 883) (by decide +kernel), List.mem_of_getElem? (i := 884) (by decide +kernel)⟩
def lw_privs_2 : List (MethodName × Nat) := [(⟨"WallMarks", "filledBySums", "(I)I"⟩, 10), (⟨"WallMarks", "filledByOne", "(IZ)I"⟩, 10), (⟨"WallMarks$Flows", "passes", "(C)Z"⟩, 6), (⟨"WallMarks$Flows", "parsePair", "()I"⟩, 6), (⟨"WallMarks$Flows", "parseNumber", "()I"⟩, 6), (⟨"WallMarks$Flows", "isFigure", "()Z"⟩, 6), (⟨"WallMarks", "dykeAbove", "(I)J"⟩, 10), (⟨"WallMarks", "isBetter", "(II)Z"⟩, 10), (⟨"WallMarks", "isSure", "(II)Z"⟩, 10), (⟨"WallMarks$Sheet", "narrowed", "(I)I"⟩, 4), (⟨"WallMarks", "sisterYears", "()I"⟩, 10), (⟨"WallMarksModel", "met", "(I)I"⟩, 28), (⟨"WallMarksModel", "lacks", "(III)I"⟩, 28), (⟨"WallMarksModel", "isEarly", "(I)Z"⟩, 28), (⟨"WallMarksModel", "find", "()V"⟩, 28), (⟨"WallMarksModel", "watchedBy", "(I)I"⟩, 28)]
theorem lw_r2 : ∀ q ∈ lw_privs_2, lw_okq q := List.forall_mem_cons.mpr ⟨lw_p16, List.forall_mem_cons.mpr ⟨lw_p17, List.forall_mem_cons.mpr ⟨lw_p18, List.forall_mem_cons.mpr ⟨lw_p19, List.forall_mem_cons.mpr ⟨lw_p20, List.forall_mem_cons.mpr ⟨lw_p21, List.forall_mem_cons.mpr ⟨lw_p22, List.forall_mem_cons.mpr ⟨lw_p23, List.forall_mem_cons.mpr ⟨lw_p24, List.forall_mem_cons.mpr ⟨lw_p25, List.forall_mem_cons.mpr ⟨lw_p26, List.forall_mem_cons.mpr ⟨lw_p27, List.forall_mem_cons.mpr ⟨lw_p28, List.forall_mem_cons.mpr ⟨lw_p29, List.forall_mem_cons.mpr ⟨lw_p30, List.forall_mem_cons.mpr ⟨lw_p31, fun _ h => absurd h List.not_mem_nil⟩⟩⟩⟩⟩⟩⟩⟩⟩⟩⟩⟩⟩⟩⟩⟩
theorem lw_p32 : lw_okq (⟨"WallMarksModel", "isCounted", "(I)Z"⟩, 28) := ⟨⟨by decide +kernel, by decide +kernel⟩, List.mem_of_getElem? (i := 708) (by decide +kernel), List.mem_of_getElem? (i := 887) (by decide +kernel), List.mem_of_getElem? (i := 888) (by decide +kernel)⟩
theorem lw_p33 : lw_okq (⟨"WallMarksModel", "overBy", "(II)I"⟩, 28) := ⟨⟨by decide +kernel, by decide +kernel⟩, List.mem_of_getElem? (i := 708) (by decide +kernel), List.mem_of_getElem? (i := 895) (by decide +kernel), List.mem_of_getElem? (i := 896) (by decide +kernel)⟩
theorem lw_p34 : lw_okq (⟨"WallMarksModel", "overOf", "(I)I"⟩, 28) := ⟨⟨by decide +kernel, by decide +kernel⟩, List.mem_of_getElem? (i := 708) (by decide +kernel), List.mem_of_getElem? (i := 899) (by decide +kernel), List.mem_of_getElem? (i := 900) (by decide +kernel)⟩
theorem lw_p35 : lw_okq (⟨"WallMarksModel", "underOf", "(I)I"⟩, 28) := ⟨⟨by decide +kernel, by decide +kernel⟩, List.mem_of_getElem? (i := 708) (by decide +kernel), List.mem_of_getElem? (i := 903) (by decide +kernel), List.mem_of_getElem? (i := 904) (by decide +kernel)⟩
theorem lw_p36 : lw_okq (⟨"WallMarksModel", "counted", "()I"⟩, 28) := ⟨⟨by decide +kernel, by decide +kernel⟩, List.mem_of_getElem? (i := 708) (by decide +kernel), List.mem_of_getElem? (i := 907) (by decide +kernel), List.mem_of_getElem? (i := 908) (by decide +kernel)⟩
theorem lw_p37 : lw_okq (⟨"WallMarksModel", "rareOf", "(III)J"⟩, 28) := ⟨⟨by decide +kernel, by decide +kernel⟩, List.mem_of_getElem? (i := 708) (by decide +kernel), List.mem_of_getElem? (i := 915) (by decide +kernel), List.mem_of_getElem? (i := 916) (by decide +kernel)⟩
theorem lw_p38 : lw_okq (⟨"WallMarksModel", "soRareOf", "(I)I"⟩, 28) := ⟨⟨by decide +kernel, by decide +kernel⟩, List.mem_of_getElem? (i := 708) (by decide +kernel), List.mem_of_getElem? (i := 937) (by decide +kernel), List.mem_of_getElem? (i := 938) (by decide +kernel)⟩
theorem lw_p39 : lw_okq (⟨"WallMarksModel", "recordsOf", "(I)I"⟩, 28) := ⟨⟨by decide +kernel, by decide +kernel⟩, List.mem_of_getElem? (i := 708) (by decide +kernel), List.mem_of_getElem? (i := 982) (by decide +kernel), List.mem_of_getElem? (i := 983) (by decide +kernel)⟩
theorem lw_p40 : lw_okq (⟨"WallMarksModel", "shouldOf", "(I)I"⟩, 28) := ⟨⟨by decide +kernel, by decide +kernel⟩, List.mem_of_getElem? (i := 708) (by decide +kernel), List.mem_of_getElem? (i := 986) (by decide +kernel), List.mem_of_getElem? (i := 987) (by decide +kernel)⟩
theorem lw_p41 : lw_okq (⟨"WallMarksModel", "risesNow", "()I"⟩, 28) := ⟨⟨by decide +kernel, by decide +kernel⟩, List.mem_of_getElem? (i := 708) (by decide +kernel), List.mem_of_getElem? (i := 998) (by decide +kernel), List.mem_of_getElem? (i := 999) (by decide +kernel)⟩
theorem lw_p42 : lw_okq (⟨"WallMarksModel", "aheadOf", "(I)I"⟩, 28) := ⟨⟨by decide +kernel, by decide +kernel⟩, List.mem_of_getElem? (i := 708) (by decide +kernel), List.mem_of_getElem? (i := 1009) (by decide +kernel), List.mem_of_getElem? (i := 1010) (by decide +kernel)⟩
theorem lw_p43 : lw_okq (⟨"WallMarksModel", "isParted", "(I)Z"⟩, 28) := ⟨⟨by decide +kernel, by decide +kernel⟩, List.mem_of_getElem? (i := 708) (by decide +kernel), List.mem_of_getElem? (i := 1013) (by decide +kernel), List.mem_of_getElem? (i := 1014) (by decide +kernel)⟩
theorem lw_p44 : lw_okq (⟨"WallMarksModel", "differs", "(I)J"⟩, 28) := ⟨⟨by decide +kernel, by decide +kernel⟩, List.mem_of_getElem? (i := 708) (by decide +kernel), List.mem_of_getElem? (i := 1017) (by decide +kernel), List.mem_of_getElem? (i := 1018) (by decide +kernel)⟩
theorem lw_p45 : lw_okq (⟨"WallMarksModel", "changedOf", "(I)I"⟩, 28) := ⟨⟨by decide +kernel, by decide +kernel⟩, List.mem_of_getElem? (i := 708) (by decide +kernel), List.mem_of_getElem? (i := 1025) (by decide +kernel), List.mem_of_getElem? (i := 1026) (by decide +kernel)⟩
theorem lw_p46 : lw_okq (⟨"WallMarksModel", "changedYear", "()I"⟩, 28) := ⟨⟨by decide +kernel, by decide +kernel⟩, List.mem_of_getElem? (i := 708) (by decide +kernel), List.mem_of_getElem? (i := 1029) (by decide +kernel), List.mem_of_getElem? (i := 1030) (by decide +kernel)⟩
theorem lw_p47 : lw_okq (⟨"WallMarksModel", "likelyOf", "(I)I"⟩, 28) := ⟨⟨by decide +kernel, by decide +kernel⟩, List.mem_of_getElem? (i := 708) (by decide +kernel), List.mem_of_getElem? (i := 1036) (by decide +kernel), List.mem_of_getElem? (i := 1037) (by decide +kernel)⟩
def lw_privs_3 : List (MethodName × Nat) := [(⟨"WallMarksModel", "isCounted", "(I)Z"⟩, 28), (⟨"WallMarksModel", "overBy", "(II)I"⟩, 28), (⟨"WallMarksModel", "overOf", "(I)I"⟩, 28), (⟨"WallMarksModel", "underOf", "(I)I"⟩, 28), (⟨"WallMarksModel", "counted", "()I"⟩, 28), (⟨"WallMarksModel", "rareOf", "(III)J"⟩, 28), (⟨"WallMarksModel", "soRareOf", "(I)I"⟩, 28), (⟨"WallMarksModel", "recordsOf", "(I)I"⟩, 28), (⟨"WallMarksModel", "shouldOf", "(I)I"⟩, 28), (⟨"WallMarksModel", "risesNow", "()I"⟩, 28), (⟨"WallMarksModel", "aheadOf", "(I)I"⟩, 28), (⟨"WallMarksModel", "isParted", "(I)Z"⟩, 28), (⟨"WallMarksModel", "differs", "(I)J"⟩, 28), (⟨"WallMarksModel", "changedOf", "(I)I"⟩, 28), (⟨"WallMarksModel", "changedYear", "()I"⟩, 28), (⟨"WallMarksModel", "likelyOf", "(I)I"⟩, 28)]
theorem lw_r3 : ∀ q ∈ lw_privs_3, lw_okq q := List.forall_mem_cons.mpr ⟨lw_p32, List.forall_mem_cons.mpr ⟨lw_p33, List.forall_mem_cons.mpr ⟨lw_p34, List.forall_mem_cons.mpr ⟨lw_p35, List.forall_mem_cons.mpr ⟨lw_p36, List.forall_mem_cons.mpr ⟨lw_p37, List.forall_mem_cons.mpr ⟨lw_p38, List.forall_mem_cons.mpr ⟨lw_p39, List.forall_mem_cons.mpr ⟨lw_p40, List.forall_mem_cons.mpr ⟨lw_p41, List.forall_mem_cons.mpr ⟨lw_p42, List.forall_mem_cons.mpr ⟨lw_p43, List.forall_mem_cons.mpr ⟨lw_p44, List.forall_mem_cons.mpr ⟨lw_p45, List.forall_mem_cons.mpr ⟨lw_p46, List.forall_mem_cons.mpr ⟨lw_p47, fun _ h => absurd h List.not_mem_nil⟩⟩⟩⟩⟩⟩⟩⟩⟩⟩⟩⟩⟩⟩⟩⟩
theorem lw_p48 : lw_okq (⟨"WallMarksModel", "commonOf", "(I)I"⟩, 28) := ⟨⟨by decide +kernel, by decide +kernel⟩, List.mem_of_getElem? (i := 708) (by decide +kernel), List.mem_of_getElem? (i := 1049) (by decide +kernel), List.mem_of_getElem? (i := 1050) (by decide +kernel)⟩
theorem lw_p49 : lw_okq (⟨"WallMarksModel", "isCommon", "(I)Z"⟩, 28) := ⟨⟨by decide +kernel, by decide +kernel⟩, List.mem_of_getElem? (i := 708) (by decide +kernel), List.mem_of_getElem? (i := 1053) (by decide +kernel), List.mem_of_getElem? (i := 1054) (by decide +kernel)⟩
theorem lw_p50 : lw_okq (⟨"WallMarksModel", "filledOf", "(II)I"⟩, 28) := ⟨⟨by decide +kernel, by decide +kernel⟩, List.mem_of_getElem? (i := 708) (by decide +kernel), List.mem_of_getElem? (i := 1061) (by decide +kernel), List.mem_of_getElem? (i := 1062) (by decide +kernel)⟩
theorem lw_p51 : lw_okq (⟨"WallMarksModel", "reads", "()I"⟩, 28) := ⟨⟨by decide +kernel, by decide +kernel⟩, List.mem_of_getElem? (i := 708) (by decide +kernel), List.mem_of_getElem? (i := 1078) (by decide +kernel), List.mem_of_getElem? (i := 1079) (by decide +kernel)⟩
theorem lw_p52 : lw_okq (⟨"WallMarksModel", "readsPair", "()Z"⟩, 28) := ⟨⟨by decide +kernel, by decide +kernel⟩, List.mem_of_getElem? (i := 708) (by decide +kernel), List.mem_of_getElem? (i := 1082) (by decide +kernel), List.mem_of_getElem? (i := 1083) (by decide +kernel)⟩
theorem lw_p53 : lw_okq (⟨"WallMarksModel", "number", "(I)I"⟩, 28) := ⟨⟨by decide +kernel, by decide +kernel⟩, List.mem_of_getElem? (i := 708) (by decide +kernel), List.mem_of_getElem? (i := 1086) (by decide +kernel), List.mem_of_getElem? (i := 1087) (by decide +kernel)⟩
theorem lw_p54 : lw_okq (⟨"WallMarksModel", "here", "()I"⟩, 28) := ⟨⟨by decide +kernel, by decide +kernel⟩, List.mem_of_getElem? (i := 708) (by decide +kernel), List.mem_of_getElem? (i := 1090) (by decide +kernel), List.mem_of_getElem? (i := 1091) (by decide +kernel)⟩
theorem lw_p55 : lw_okq (⟨"WallMarksModel", "costOf", "(I)J"⟩, 28) := ⟨⟨by decide +kernel, by decide +kernel⟩, List.mem_of_getElem? (i := 708) (by decide +kernel), List.mem_of_getElem? (i := 1104) (by decide +kernel), List.mem_of_getElem? (i := 1105) (by decide +kernel)⟩
theorem lw_p56 : lw_okq (⟨"WallMarksModel", "bestNow", "()I"⟩, 28) := ⟨⟨by decide +kernel, by decide +kernel⟩, List.mem_of_getElem? (i := 708) (by decide +kernel), List.mem_of_getElem? (i := 1112) (by decide +kernel), List.mem_of_getElem? (i := 1113) (by decide +kernel)⟩
theorem lw_p57 : lw_okq (⟨"WallMarksModel", "sureOf", "(I)I"⟩, 28) := ⟨⟨by decide +kernel, by decide +kernel⟩, List.mem_of_getElem? (i := 708) (by decide +kernel), List.mem_of_getElem? (i := 1120) (by decide +kernel), List.mem_of_getElem? (i := 1121) (by decide +kernel)⟩
theorem lw_p58 : lw_okq (⟨"WallMarksModel", "countKind", "(I)I"⟩, 28) := ⟨⟨by decide +kernel, by decide +kernel⟩, List.mem_of_getElem? (i := 708) (by decide +kernel), List.mem_of_getElem? (i := 1132) (by decide +kernel), List.mem_of_getElem? (i := 1133) (by decide +kernel)⟩
theorem lw_p59 : lw_okq (⟨"WallMarksModel", "greatest", "()I"⟩, 28) := ⟨⟨by decide +kernel, by decide +kernel⟩, List.mem_of_getElem? (i := 708) (by decide +kernel), List.mem_of_getElem? (i := 1136) (by decide +kernel), List.mem_of_getElem? (i := 1137) (by decide +kernel)⟩
def lw_privs_4 : List (MethodName × Nat) := [(⟨"WallMarksModel", "commonOf", "(I)I"⟩, 28), (⟨"WallMarksModel", "isCommon", "(I)Z"⟩, 28), (⟨"WallMarksModel", "filledOf", "(II)I"⟩, 28), (⟨"WallMarksModel", "reads", "()I"⟩, 28), (⟨"WallMarksModel", "readsPair", "()Z"⟩, 28), (⟨"WallMarksModel", "number", "(I)I"⟩, 28), (⟨"WallMarksModel", "here", "()I"⟩, 28), (⟨"WallMarksModel", "costOf", "(I)J"⟩, 28), (⟨"WallMarksModel", "bestNow", "()I"⟩, 28), (⟨"WallMarksModel", "sureOf", "(I)I"⟩, 28), (⟨"WallMarksModel", "countKind", "(I)I"⟩, 28), (⟨"WallMarksModel", "greatest", "()I"⟩, 28)]
theorem lw_r4 : ∀ q ∈ lw_privs_4, lw_okq q := List.forall_mem_cons.mpr ⟨lw_p48, List.forall_mem_cons.mpr ⟨lw_p49, List.forall_mem_cons.mpr ⟨lw_p50, List.forall_mem_cons.mpr ⟨lw_p51, List.forall_mem_cons.mpr ⟨lw_p52, List.forall_mem_cons.mpr ⟨lw_p53, List.forall_mem_cons.mpr ⟨lw_p54, List.forall_mem_cons.mpr ⟨lw_p55, List.forall_mem_cons.mpr ⟨lw_p56, List.forall_mem_cons.mpr ⟨lw_p57, List.forall_mem_cons.mpr ⟨lw_p58, List.forall_mem_cons.mpr ⟨lw_p59, fun _ h => absurd h List.not_mem_nil⟩⟩⟩⟩⟩⟩⟩⟩⟩⟩⟩⟩
def lw_privs : List (MethodName × Nat) := lw_privs_1 ++ (lw_privs_2 ++ (lw_privs_3 ++ (lw_privs_4)))
def lw_tbl : List Cond := k2_sels lw_privs ++ tables_1
theorem lw_privs_ok : ∀ q ∈ lw_privs, lw_okq q := by
  show ∀ q ∈ lw_privs_1 ++ (lw_privs_2 ++ (lw_privs_3 ++ (lw_privs_4))), lw_okq q
  exact List.forall_mem_append.mpr ⟨lw_r1, List.forall_mem_append.mpr ⟨lw_r2, List.forall_mem_append.mpr ⟨lw_r3, lw_r4⟩⟩⟩
/-! ===== BEGIN words of one list among another's, by their places ===== -/
theorem goodIn_r {big : List Cond} (ws : List Cond) (ps : List Nat) (hp : ws = ps.filterMap (fun i => big[i]?)) (h : ws.all goodWord = true) : GoodIn big ws := by
  intro w hw
  have h1 := List.all_eq_true.mp h w hw
  rw [hp] at hw
  obtain ⟨i, -, hi⟩ := List.mem_filterMap.mp hw
  have hm : w ∈ big := by first | exact List.mem_of_getElem? hi | exact List.getElem?_mem hi
  exact ⟨hm, good_of_word h1⟩
theorem goodIn_app {big a b : List Cond} (ha : GoodIn big a) (hb : GoodIn big b) : GoodIn big (a ++ b) := fun w h => (List.mem_append.mp h).elim (ha w) (hb w)
theorem goodIn_ca {big a b : List Cond} {c : Cond} (ha : GoodIn big (c :: a)) (hb : GoodIn big b) : GoodIn big (c :: (a ++ b)) := fun w h => (List.mem_cons.mp h).elim (fun e => ha w (List.mem_cons.mpr (Or.inl e))) (fun h => (List.mem_append.mp h).elim (fun h => ha w (List.mem_cons.mpr (Or.inr h))) (hb w))
theorem goodIn_sub {big ws : List Cond} (hm : ∀ w ∈ ws, w ∈ big) (h : ws.all goodWord = true) : GoodIn big ws := fun w hw => ⟨hm w hw, good_of_word (List.all_eq_true.mp h w hw)⟩
/-! ===== END ===== -/

/-! ===== BEGIN printed: names, fields, word lists, decode rows ===== -/
def RX0 : String := "WallMarks$Counted"
def TX0 : u_T := fun k => match k with
  | 0 => ("WallMarks$Counted", "exactYears", "[I", true)
  | 1 => ("WallMarks$Counted", "exactLevels", "[I", true)
  | 2 => ("WallMarks$Counted", "belowLevels", "[I", true)
  | 3 => ("WallMarks$Counted", "exacts", "I", false)
  | 4 => ("WallMarks$Counted", "belows", "I", false)
  | 5 => ("WallMarks$Counted", "opens", "I", false)
  | 6 => ("WallMarks$Counted", "exactSum", "I", false)
  | 7 => ("WallMarks$Counted", "greatestExact", "I", false)
  | 8 => ("WallMarks$Counted", "records", "I", false)
  | 9 => ("WallMarks$Counted", "lastRecord", "I", false)
  | _ => ("WallMarks$Counted", "longestWait", "I", false)
def tyX0 : Nat → FieldType := fun k => match k with
  | 0 => .array .int
  | 1 => .array .int
  | 2 => .array .int
  | 3 => .int
  | 4 => .int
  | 5 => .int
  | 6 => .int
  | 7 => .int
  | 8 => .int
  | 9 => .int
  | _ => .int
abbrev wsX00 : List Cond := u_ws RX0 TX0 11
theorem nmX0 : ∀ a, a < 11 → ∀ b, b < 11 → a ≠ b → (TX0 a).2.1 ≠ (TX0 b).2.1 := by decide +kernel
theorem tyX0_ok : ∀ k, k < 11 → parseFieldDescriptor (TX0 k).2.2.1 = some (tyX0 k) := by decide +kernel
abbrev cX0_init : ByteArray := prog_2_method_1_code
def yX0_init : MethodName := ⟨RX0, "<init>", "()V"⟩
abbrev cX0_gather : ByteArray := prog_2_method_2_code
def yX0_gather : MethodName := ⟨RX0, "gather", "(LWallMarks$Known;II)V"⟩
abbrev cX0_add : ByteArray := prog_2_method_3_code
def yX0_add : MethodName := ⟨RX0, "add", "(III)V"⟩
abbrev cX0_holdAgainstRecord : ByteArray := prog_2_method_4_code
def yX0_holdAgainstRecord : MethodName := ⟨RX0, "holdAgainstRecord", "(II)V"⟩
abbrev cX0_all : ByteArray := prog_2_method_5_code
def yX0_all : MethodName := ⟨RX0, "all", "()I"⟩
abbrev cX0_overs : ByteArray := prog_2_method_6_code
def yX0_overs : MethodName := ⟨RX0, "overs", "(I)I"⟩
abbrev cX0_belowsUnder : ByteArray := prog_2_method_7_code
def yX0_belowsUnder : MethodName := ⟨RX0, "belowsUnder", "(I)I"⟩
abbrev cX0_unders : ByteArray := prog_2_method_8_code
def yX0_unders : MethodName := ⟨RX0, "unders", "(I)I"⟩
abbrev cX0_darks : ByteArray := prog_2_method_9_code
def yX0_darks : MethodName := ⟨RX0, "darks", "(I)I"⟩
abbrev cX0_rareBelow : ByteArray := prog_2_method_10_code
def yX0_rareBelow : MethodName := ⟨RX0, "rareBelow", "(I)I"⟩
abbrev cX0_steps : ByteArray := prog_2_method_11_code
def yX0_steps : MethodName := ⟨RX0, "steps", "()I"⟩
abbrev cX0_stepAt : ByteArray := prog_2_method_12_code
def yX0_stepAt : MethodName := ⟨RX0, "stepAt", "(I)I"⟩
abbrev cX0_exactsAhead : ByteArray := prog_2_method_13_code
def yX0_exactsAhead : MethodName := ⟨RX0, "exactsAhead", "(I)I"⟩
abbrev cX0_sumAhead : ByteArray := prog_2_method_14_code
def yX0_sumAhead : MethodName := ⟨RX0, "sumAhead", "(I)I"⟩
abbrev cX0_meansBelow : ByteArray := prog_2_method_15_code
def yX0_meansBelow : MethodName := ⟨RX0, "meansBelow", "(I)J"⟩
abbrev cX0_meansAbove : ByteArray := prog_2_method_16_code
def yX0_meansAbove : MethodName := ⟨RX0, "meansAbove", "(I)J"⟩
abbrev cX0_meansApart : ByteArray := prog_2_method_17_code
def yX0_meansApart : MethodName := ⟨RX0, "meansApart", "(II)J"⟩
def RX1 : String := "WallMarks$Flows"
def TX1 : u_T := fun k => match k with
  | 0 => ("WallMarks$Flows", "bytes", "[I", true)
  | 1 => ("WallMarks$Flows", "levels", "[I", true)
  | 2 => ("WallMarks$Flows", "amounts", "[I", true)
  | 3 => ("WallMarks$Flows", "size", "I", false)
  | 4 => ("WallMarks$Flows", "pairs", "I", false)
  | _ => ("WallMarks$Flows", "place", "I", false)
def tyX1 : Nat → FieldType := fun k => match k with
  | 0 => .array .int
  | 1 => .array .int
  | 2 => .array .int
  | 3 => .int
  | 4 => .int
  | _ => .int
abbrev wsX10 : List Cond := u_ws RX1 TX1 6
theorem nmX1 : ∀ a, a < 6 → ∀ b, b < 6 → a ≠ b → (TX1 a).2.1 ≠ (TX1 b).2.1 := by decide +kernel
theorem tyX1_ok : ∀ k, k < 6 → parseFieldDescriptor (TX1 k).2.2.1 = some (tyX1 k) := by decide +kernel
abbrev cX1_init : ByteArray := prog_3_method_1_code
def yX1_init : MethodName := ⟨RX1, "<init>", "()V"⟩
abbrev cX1_hasRoom : ByteArray := prog_3_method_2_code
def yX1_hasRoom : MethodName := ⟨RX1, "hasRoom", "()Z"⟩
abbrev cX1_add : ByteArray := prog_3_method_3_code
def yX1_add : MethodName := ⟨RX1, "add", "(I)V"⟩
abbrev cX1_parse : ByteArray := prog_3_method_4_code
def yX1_parse : MethodName := ⟨RX1, "parse", "()I"⟩
abbrev cX1_parsePair : ByteArray := prog_3_method_5_code
def yX1_parsePair : MethodName := ⟨RX1, "parsePair", "()I"⟩
abbrev cX1_passes : ByteArray := prog_3_method_6_code
def yX1_passes : MethodName := ⟨RX1, "passes", "(C)Z"⟩
abbrev cX1_parseNumber : ByteArray := prog_3_method_7_code
def yX1_parseNumber : MethodName := ⟨RX1, "parseNumber", "()I"⟩
abbrev cX1_isFigure : ByteArray := prog_3_method_8_code
def yX1_isFigure : MethodName := ⟨RX1, "isFigure", "()Z"⟩
abbrev cX1_pairBeside : ByteArray := prog_3_method_9_code
def yX1_pairBeside : MethodName := ⟨RX1, "pairBeside", "(I)I"⟩
abbrev cX1_lineBelow : ByteArray := prog_3_method_10_code
def yX1_lineBelow : MethodName := ⟨RX1, "lineBelow", "(I)J"⟩
abbrev cX1_lineAbove : ByteArray := prog_3_method_11_code
def yX1_lineAbove : MethodName := ⟨RX1, "lineAbove", "(II)J"⟩
def RX2 : String := "WallMarks$Known"
def TX2 : u_T := fun k => match k with
  | 0 => ("WallMarks$Known", "kinds", "[I", true)
  | _ => ("WallMarks$Known", "levels", "[I", true)
def tyX2 : Nat → FieldType := fun k => match k with
  | 0 => .array .int
  | _ => .array .int
abbrev wsX20 : List Cond := u_ws RX2 TX2 2
theorem nmX2 : ∀ a, a < 2 → ∀ b, b < 2 → a ≠ b → (TX2 a).2.1 ≠ (TX2 b).2.1 := by decide +kernel
theorem tyX2_ok : ∀ k, k < 2 → parseFieldDescriptor (TX2 k).2.2.1 = some (tyX2 k) := by decide +kernel
abbrev cX2_init : ByteArray := prog_4_method_1_code
def yX2_init : MethodName := ⟨RX2, "<init>", "()V"⟩
abbrev cX2_forget : ByteArray := prog_4_method_2_code
def yX2_forget : MethodName := ⟨RX2, "forget", "()V"⟩
abbrev cX2_put : ByteArray := prog_4_method_3_code
def yX2_put : MethodName := ⟨RX2, "put", "(III)V"⟩
def RX3 : String := "WallMarks$Sheet"
def TX3 : u_T := fun k => match k with
  | 0 => ("WallMarks$Sheet", "items", "[I", true)
  | 1 => ("WallMarks$Sheet", "lost", "Z", false)
  | 2 => ("WallMarks$Sheet", "form", "I", false)
  | _ => ("WallMarks$Sheet", "size", "I", false)
def tyX3 : Nat → FieldType := fun k => match k with
  | 0 => .array .int
  | 1 => .boolean
  | 2 => .int
  | _ => .int
abbrev wsX30 : List Cond := u_ws RX3 TX3 4
theorem nmX3 : ∀ a, a < 4 → ∀ b, b < 4 → a ≠ b → (TX3 a).2.1 ≠ (TX3 b).2.1 := by decide +kernel
theorem tyX3_ok : ∀ k, k < 4 → parseFieldDescriptor (TX3 k).2.2.1 = some (tyX3 k) := by decide +kernel
abbrev cX3_init : ByteArray := prog_5_method_1_code
def yX3_init : MethodName := ⟨RX3, "<init>", "()V"⟩
abbrev cX3_renew : ByteArray := prog_5_method_2_code
def yX3_renew : MethodName := ⟨RX3, "renew", "(II)V"⟩
abbrev cX3_holds : ByteArray := prog_5_method_3_code
def yX3_holds : MethodName := ⟨RX3, "holds", "(II)Z"⟩
abbrev cX3_itemAt : ByteArray := prog_5_method_4_code
def yX3_itemAt : MethodName := ⟨RX3, "itemAt", "(I)I"⟩
abbrev cX3_put : ByteArray := prog_5_method_5_code
def yX3_put : MethodName := ⟨RX3, "put", "(II)V"⟩
abbrev cX3_narrowed : ByteArray := prog_5_method_6_code
def yX3_narrowed : MethodName := ⟨RX3, "narrowed", "(I)I"⟩
def RX4 : String := "WallMarks$Tellings"
def TX4 : u_T := fun k => match k with
  | 0 => ("WallMarks$Tellings", "years", "[I", true)
  | 1 => ("WallMarks$Tellings", "kinds", "[I", true)
  | 2 => ("WallMarks$Tellings", "levels", "[I", true)
  | 3 => ("WallMarks$Tellings", "times", "[I", true)
  | 4 => ("WallMarks$Tellings", "size", "I", false)
  | _ => ("WallMarks$Tellings", "lastTime", "I", false)
def tyX4 : Nat → FieldType := fun k => match k with
  | 0 => .array .int
  | 1 => .array .int
  | 2 => .array .int
  | 3 => .array .int
  | 4 => .int
  | _ => .int
abbrev wsX40 : List Cond := u_ws RX4 TX4 6
theorem nmX4 : ∀ a, a < 6 → ∀ b, b < 6 → a ≠ b → (TX4 a).2.1 ≠ (TX4 b).2.1 := by decide +kernel
theorem tyX4_ok : ∀ k, k < 6 → parseFieldDescriptor (TX4 k).2.2.1 = some (tyX4 k) := by decide +kernel
abbrev cX4_init : ByteArray := prog_6_method_1_code
def yX4_init : MethodName := ⟨RX4, "<init>", "()V"⟩
abbrev cX4_hasRoom : ByteArray := prog_6_method_2_code
def yX4_hasRoom : MethodName := ⟨RX4, "hasRoom", "()Z"⟩
abbrev cX4_add : ByteArray := prog_6_method_3_code
def yX4_add : MethodName := ⟨RX4, "add", "(IIII)V"⟩
def RX5 : String := "WallMarks$Watches"
def TX5 : u_T := fun k => match k with
  | 0 => ("WallMarks$Watches", "froms", "[I", true)
  | 1 => ("WallMarks$Watches", "tos", "[I", true)
  | 2 => ("WallMarks$Watches", "levels", "[I", true)
  | _ => ("WallMarks$Watches", "size", "I", false)
def tyX5 : Nat → FieldType := fun k => match k with
  | 0 => .array .int
  | 1 => .array .int
  | 2 => .array .int
  | _ => .int
abbrev wsX50 : List Cond := u_ws RX5 TX5 4
theorem nmX5 : ∀ a, a < 4 → ∀ b, b < 4 → a ≠ b → (TX5 a).2.1 ≠ (TX5 b).2.1 := by decide +kernel
theorem tyX5_ok : ∀ k, k < 4 → parseFieldDescriptor (TX5 k).2.2.1 = some (tyX5 k) := by decide +kernel
abbrev cX5_init : ByteArray := prog_7_method_1_code
def yX5_init : MethodName := ⟨RX5, "<init>", "()V"⟩
abbrev cX5_hasRoom : ByteArray := prog_7_method_2_code
def yX5_hasRoom : MethodName := ⟨RX5, "hasRoom", "()Z"⟩
abbrev cX5_add : ByteArray := prog_7_method_3_code
def yX5_add : MethodName := ⟨RX5, "add", "(III)V"⟩
abbrev cX5_leastAt : ByteArray := prog_7_method_4_code
def yX5_leastAt : MethodName := ⟨RX5, "leastAt", "(I)I"⟩
def RX6 : String := "WallMarks"
def TX6 : u_T := fun k => match k with
  | 0 => ("WallMarks", "tellings", "LWallMarks$Tellings;", true)
  | 1 => ("WallMarks", "watches", "LWallMarks$Watches;", true)
  | 2 => ("WallMarks", "knowledge", "LWallMarks$Known;", true)
  | 3 => ("WallMarks", "counted", "LWallMarks$Counted;", true)
  | 4 => ("WallMarks", "settings", "[I", true)
  | 5 => ("WallMarks", "sisterLevels", "[I", true)
  | 6 => ("WallMarks", "flows", "LWallMarks$Flows;", true)
  | 7 => ("WallMarks", "sheets", "[LWallMarks$Sheet;", true)
  | 8 => ("WallMarks", "orders", "[J", true)
  | _ => ("WallMarks", "finding", "I", false)
def tyX6 : Nat → FieldType := fun k => match k with
  | 0 => .object "WallMarks$Tellings"
  | 1 => .object "WallMarks$Watches"
  | 2 => .object "WallMarks$Known"
  | 3 => .object "WallMarks$Counted"
  | 4 => .array .int
  | 5 => .array .int
  | 6 => .object "WallMarks$Flows"
  | 7 => .array (.object "WallMarks$Sheet")
  | 8 => .array .long
  | _ => .int
abbrev wsX60 : List Cond := u_ws RX6 TX6 10
theorem nmX6 : ∀ a, a < 10 → ∀ b, b < 10 → a ≠ b → (TX6 a).2.1 ≠ (TX6 b).2.1 := by decide +kernel
theorem tyX6_ok : ∀ k, k < 10 → parseFieldDescriptor (TX6 k).2.2.1 = some (tyX6 k) := by decide +kernel
abbrev cX6_init : ByteArray := prog_1_method_1_code
def yX6_init : MethodName := ⟨RX6, "<init>", "()V"⟩
abbrev cX6_tell : ByteArray := prog_1_method_2_code
def yX6_tell : MethodName := ⟨RX6, "tell", "(IIII)I"⟩
abbrev cX6_read : ByteArray := prog_1_method_3_code
def yX6_read : MethodName := ⟨RX6, "read", "(III)I"⟩
abbrev cX6_watch : ByteArray := prog_1_method_4_code
def yX6_watch : MethodName := ⟨RX6, "watch", "(III)I"⟩
abbrev cX6_set : ByteArray := prog_1_method_5_code
def yX6_set : MethodName := ⟨RX6, "set", "(II)I"⟩
abbrev cX6_known : ByteArray := prog_1_method_6_code
def yX6_known : MethodName := ⟨RX6, "known", "(II)I"⟩
abbrev cX6_over : ByteArray := prog_1_method_7_code
def yX6_over : MethodName := ⟨RX6, "over", "(II)I"⟩
abbrev cX6_rare : ByteArray := prog_1_method_8_code
def yX6_rare : MethodName := ⟨RX6, "rare", "(III)J"⟩
abbrev cX6_soRare : ByteArray := prog_1_method_9_code
def yX6_soRare : MethodName := ⟨RX6, "soRare", "(I)I"⟩
abbrev cX6_rank : ByteArray := prog_1_method_10_code
def yX6_rank : MethodName := ⟨RX6, "rank", "(I)I"⟩
abbrev cX6_again : ByteArray := prog_1_method_11_code
def yX6_again : MethodName := ⟨RX6, "again", "(IIII)J"⟩
abbrev cX6_lasts : ByteArray := prog_1_method_12_code
def yX6_lasts : MethodName := ⟨RX6, "lasts", "(II)I"⟩
abbrev cX6_next : ByteArray := prog_1_method_13_code
def yX6_next : MethodName := ⟨RX6, "next", "(IIII)J"⟩
abbrev cX6_between : ByteArray := prog_1_method_14_code
def yX6_between : MethodName := ⟨RX6, "between", "(IIII)J"⟩
abbrev cX6_records : ByteArray := prog_1_method_15_code
def yX6_records : MethodName := ⟨RX6, "records", "(I)I"⟩
abbrev cX6_rises : ByteArray := prog_1_method_16_code
def yX6_rises : MethodName := ⟨RX6, "rises", "()I"⟩
abbrev cX6_change : ByteArray := prog_1_method_17_code
def yX6_change : MethodName := ⟨RX6, "change", "(II)J"⟩
abbrev cX6_changed : ByteArray := prog_1_method_18_code
def yX6_changed : MethodName := ⟨RX6, "changed", "(I)I"⟩
abbrev cX6_sister : ByteArray := prog_1_method_19_code
def yX6_sister : MethodName := ⟨RX6, "sister", "(II)I"⟩
abbrev cX6_common : ByteArray := prog_1_method_20_code
def yX6_common : MethodName := ⟨RX6, "common", "(I)I"⟩
abbrev cX6_filled : ByteArray := prog_1_method_21_code
def yX6_filled : MethodName := ⟨RX6, "filled", "(II)I"⟩
abbrev cX6_type : ByteArray := prog_1_method_22_code
def yX6_type : MethodName := ⟨RX6, "type", "(I)I"⟩
abbrev cX6_wipe : ByteArray := prog_1_method_23_code
def yX6_wipe : MethodName := ⟨RX6, "wipe", "()I"⟩
abbrev cX6_fault : ByteArray := prog_1_method_24_code
def yX6_fault : MethodName := ⟨RX6, "fault", "()I"⟩
abbrev cX6_flow : ByteArray := prog_1_method_25_code
def yX6_flow : MethodName := ⟨RX6, "flow", "(II)J"⟩
abbrev cX6_dyke : ByteArray := prog_1_method_26_code
def yX6_dyke : MethodName := ⟨RX6, "dyke", "(II)J"⟩
abbrev cX6_best : ByteArray := prog_1_method_27_code
def yX6_best : MethodName := ⟨RX6, "best", "()I"⟩
abbrev cX6_sure : ByteArray := prog_1_method_28_code
def yX6_sure : MethodName := ⟨RX6, "sure", "(I)I"⟩
abbrev cX6_sheet : ByteArray := prog_1_method_29_code
def yX6_sheet : MethodName := ⟨RX6, "sheet", "(III)I"⟩
abbrev cX6_lose : ByteArray := prog_1_method_30_code
def yX6_lose : MethodName := ⟨RX6, "lose", "(I)I"⟩
abbrev cX6_lay : ByteArray := prog_1_method_31_code
def yX6_lay : MethodName := ⟨RX6, "lay", "(IIII)I"⟩
abbrev cX6_get : ByteArray := prog_1_method_32_code
def yX6_get : MethodName := ⟨RX6, "get", "(III)I"⟩
abbrev cX6_copy : ByteArray := prog_1_method_33_code
def yX6_copy : MethodName := ⟨RX6, "copy", "(IIIII)I"⟩
abbrev cX6_write : ByteArray := prog_1_method_34_code
def yX6_write : MethodName := ⟨RX6, "write", "(II)I"⟩
abbrev cX6_count : ByteArray := prog_1_method_35_code
def yX6_count : MethodName := ⟨RX6, "count", "(I)I"⟩
abbrev cX6_digest : ByteArray := prog_1_method_36_code
def yX6_digest : MethodName := ⟨RX6, "digest", "()J"⟩
abbrev cX6_isYear : ByteArray := prog_1_method_37_code
def yX6_isYear : MethodName := ⟨RX6, "isYear", "(I)Z"⟩
abbrev cX6_isLevel : ByteArray := prog_1_method_38_code
def yX6_isLevel : MethodName := ⟨RX6, "isLevel", "(I)Z"⟩
abbrev cX6_isEither : ByteArray := prog_1_method_39_code
def yX6_isEither : MethodName := ⟨RX6, "isEither", "(I)Z"⟩
abbrev cX6_isHundredths : ByteArray := prog_1_method_40_code
def yX6_isHundredths : MethodName := ⟨RX6, "isHundredths", "(I)Z"⟩
abbrev cX6_isSixteenths : ByteArray := prog_1_method_41_code
def yX6_isSixteenths : MethodName := ⟨RX6, "isSixteenths", "(I)Z"⟩
abbrev cX6_isSheet : ByteArray := prog_1_method_42_code
def yX6_isSheet : MethodName := ⟨RX6, "isSheet", "(I)Z"⟩
abbrev cX6_isForm : ByteArray := prog_1_method_43_code
def yX6_isForm : MethodName := ⟨RX6, "isForm", "(I)Z"⟩
abbrev cX6_mayBeTold : ByteArray := prog_1_method_44_code
def yX6_mayBeTold : MethodName := ⟨RX6, "mayBeTold", "(II)Z"⟩
abbrev cX6_isTimeToTell : ByteArray := prog_1_method_45_code
def yX6_isTimeToTell : MethodName := ⟨RX6, "isTimeToTell", "(I)Z"⟩
abbrev cX6_counts : ByteArray := prog_1_method_46_code
def yX6_counts : MethodName := ⟨RX6, "counts", "(I)Z"⟩
abbrev cX6_longRefusal : ByteArray := prog_1_method_47_code
def yX6_longRefusal : MethodName := ⟨RX6, "longRefusal", "(I)J"⟩
abbrev cX6_found : ByteArray := prog_1_method_48_code
def yX6_found : MethodName := ⟨RX6, "found", "(I)I"⟩
abbrev cX6_findingAt : ByteArray := prog_1_method_49_code
def yX6_findingAt : MethodName := ⟨RX6, "findingAt", "(LWallMarks$Sheet;II)I"⟩
abbrev cX6_settle : ByteArray := prog_1_method_50_code
def yX6_settle : MethodName := ⟨RX6, "settle", "()V"⟩
abbrev cX6_fraction : ByteArray := prog_1_method_51_code
def yX6_fraction : MethodName := ⟨RX6, "fraction", "(JJI)J"⟩
abbrev cX6_commonDivisor : ByteArray := prog_1_method_52_code
def yX6_commonDivisor : MethodName := ⟨RX6, "commonDivisor", "(JJ)J"⟩
abbrev cX6_power : ByteArray := prog_1_method_53_code
def yX6_power : MethodName := ⟨RX6, "power", "(JI)J"⟩
abbrev cX6_choices : ByteArray := prog_1_method_54_code
def yX6_choices : MethodName := ⟨RX6, "choices", "(II)J"⟩
abbrev cX6_direction : ByteArray := prog_1_method_55_code
def yX6_direction : MethodName := ⟨RX6, "direction", "(II)I"⟩
abbrev cX6_mixed : ByteArray := prog_1_method_56_code
def yX6_mixed : MethodName := ⟨RX6, "mixed", "(JJ)J"⟩
abbrev cX6_timesOver : ByteArray := prog_1_method_57_code
def yX6_timesOver : MethodName := ⟨RX6, "timesOver", "(IIII)J"⟩
abbrev cX6_staysWithin : ByteArray := prog_1_method_58_code
def yX6_staysWithin : MethodName := ⟨RX6, "staysWithin", "(III)Z"⟩
abbrev cX6_should : ByteArray := prog_1_method_59_code
def yX6_should : MethodName := ⟨RX6, "should", "()I"⟩
abbrev cX6_orderByRecords : ByteArray := prog_1_method_60_code
def yX6_orderByRecords : MethodName := ⟨RX6, "orderByRecords", "(I)V"⟩
abbrev cX6_greatestChange : ByteArray := prog_1_method_61_code
def yX6_greatestChange : MethodName := ⟨RX6, "greatestChange", "()I"⟩
abbrev cX6_howLikely : ByteArray := prog_1_method_62_code
def yX6_howLikely : MethodName := ⟨RX6, "howLikely", "(I)I"⟩
abbrev cX6_farChoices : ByteArray := prog_1_method_63_code
def yX6_farChoices : MethodName := ⟨RX6, "farChoices", "(LWallMarks$Counted;IIIIJ)J"⟩
abbrev cX6_sisterYears : ByteArray := prog_1_method_64_code
def yX6_sisterYears : MethodName := ⟨RX6, "sisterYears", "()I"⟩
abbrev cX6_sisterOf : ByteArray := prog_1_method_65_code
def yX6_sisterOf : MethodName := ⟨RX6, "sisterOf", "(I)I"⟩
abbrev cX6_commonYears : ByteArray := prog_1_method_66_code
def yX6_commonYears : MethodName := ⟨RX6, "commonYears", "()I"⟩
abbrev cX6_ties : ByteArray := prog_1_method_67_code
def yX6_ties : MethodName := ⟨RX6, "ties", "()I"⟩
abbrev cX6_tie : ByteArray := prog_1_method_68_code
def yX6_tie : MethodName := ⟨RX6, "tie", "(II)I"⟩
abbrev cX6_filledBySums : ByteArray := prog_1_method_69_code
def yX6_filledBySums : MethodName := ⟨RX6, "filledBySums", "(I)I"⟩
abbrev cX6_filledByOne : ByteArray := prog_1_method_70_code
def yX6_filledByOne : MethodName := ⟨RX6, "filledByOne", "(IZ)I"⟩
abbrev cX6_dykeAbove : ByteArray := prog_1_method_71_code
def yX6_dykeAbove : MethodName := ⟨RX6, "dykeAbove", "(I)J"⟩
abbrev cX6_isBetter : ByteArray := prog_1_method_72_code
def yX6_isBetter : MethodName := ⟨RX6, "isBetter", "(II)Z"⟩
abbrev cX6_isSure : ByteArray := prog_1_method_73_code
def yX6_isSure : MethodName := ⟨RX6, "isSure", "(II)Z"⟩
def RX7 : String := "WallMarksModel"
def TX7 : u_T := fun k => match k with
  | 0 => ("WallMarksModel", "forms", "[I", true)
  | 1 => ("WallMarksModel", "sizes", "[I", true)
  | 2 => ("WallMarksModel", "items", "[I", true)
  | 3 => ("WallMarksModel", "moved", "[I", true)
  | 4 => ("WallMarksModel", "latest", "I", false)
  | 5 => ("WallMarksModel", "tellings", "I", false)
  | 6 => ("WallMarksModel", "toldYear", "[I", true)
  | 7 => ("WallMarksModel", "toldKind", "[I", true)
  | 8 => ("WallMarksModel", "toldLevel", "[I", true)
  | 9 => ("WallMarksModel", "toldTime", "[I", true)
  | 10 => ("WallMarksModel", "watches", "I", false)
  | 11 => ("WallMarksModel", "watchFrom", "[I", true)
  | 12 => ("WallMarksModel", "watchTo", "[I", true)
  | 13 => ("WallMarksModel", "watchLevel", "[I", true)
  | 14 => ("WallMarksModel", "settings", "[I", true)
  | 15 => ("WallMarksModel", "sisters", "[I", true)
  | 16 => ("WallMarksModel", "kinds", "[I", true)
  | 17 => ("WallMarksModel", "levels", "[I", true)
  | 18 => ("WallMarksModel", "exactMany", "I", false)
  | 19 => ("WallMarksModel", "exactYear", "[I", true)
  | 20 => ("WallMarksModel", "exactLevel", "[I", true)
  | 21 => ("WallMarksModel", "orders", "[J", true)
  | 22 => ("WallMarksModel", "text", "[I", true)
  | 23 => ("WallMarksModel", "typed", "I", false)
  | 24 => ("WallMarksModel", "at", "I", false)
  | 25 => ("WallMarksModel", "pairs", "I", false)
  | 26 => ("WallMarksModel", "pairLevel", "[I", true)
  | _ => ("WallMarksModel", "pairFlow", "[I", true)
def tyX7 : Nat → FieldType := fun k => match k with
  | 0 => .array .int
  | 1 => .array .int
  | 2 => .array .int
  | 3 => .array .int
  | 4 => .int
  | 5 => .int
  | 6 => .array .int
  | 7 => .array .int
  | 8 => .array .int
  | 9 => .array .int
  | 10 => .int
  | 11 => .array .int
  | 12 => .array .int
  | 13 => .array .int
  | 14 => .array .int
  | 15 => .array .int
  | 16 => .array .int
  | 17 => .array .int
  | 18 => .int
  | 19 => .array .int
  | 20 => .array .int
  | 21 => .array .long
  | 22 => .array .int
  | 23 => .int
  | 24 => .int
  | 25 => .int
  | 26 => .array .int
  | _ => .array .int
abbrev wsX70 : List Cond := u_ws RX7 TX7 28
theorem nmX7 : ∀ a, a < 28 → ∀ b, b < 28 → a ≠ b → (TX7 a).2.1 ≠ (TX7 b).2.1 := by decide +kernel
theorem tyX7_ok : ∀ k, k < 28 → parseFieldDescriptor (TX7 k).2.2.1 = some (tyX7 k) := by decide +kernel
abbrev cX7_init : ByteArray := prog_9_method_1_code
def yX7_init : MethodName := ⟨RX7, "<init>", "()V"⟩
abbrev cX7_in : ByteArray := prog_9_method_3_code
def yX7_in : MethodName := ⟨RX7, "in", "(JJJ)Z"⟩
abbrev cX7_no : ByteArray := prog_9_method_4_code
def yX7_no : MethodName := ⟨RX7, "no", "(I)J"⟩
abbrev cX7_isTwo : ByteArray := prog_9_method_5_code
def yX7_isTwo : MethodName := ⟨RX7, "isTwo", "(I)Z"⟩
abbrev cX7_met : ByteArray := prog_9_method_6_code
def yX7_met : MethodName := ⟨RX7, "met", "(I)I"⟩
abbrev cX7_isSheet : ByteArray := prog_9_method_7_code
def yX7_isSheet : MethodName := ⟨RX7, "isSheet", "(I)Z"⟩
abbrev cX7_sheet : ByteArray := prog_9_method_8_code
def yX7_sheet : MethodName := ⟨RX7, "sheet", "(III)I"⟩
abbrev cX7_lose : ByteArray := prog_9_method_9_code
def yX7_lose : MethodName := ⟨RX7, "lose", "(I)I"⟩
abbrev cX7_lacks : ByteArray := prog_9_method_10_code
def yX7_lacks : MethodName := ⟨RX7, "lacks", "(III)I"⟩
abbrev cX7_cut : ByteArray := prog_9_method_11_code
def yX7_cut : MethodName := ⟨RX7, "cut", "(II)I"⟩
abbrev cX7_lay : ByteArray := prog_9_method_12_code
def yX7_lay : MethodName := ⟨RX7, "lay", "(IIII)I"⟩
abbrev cX7_get : ByteArray := prog_9_method_13_code
def yX7_get : MethodName := ⟨RX7, "get", "(III)I"⟩
abbrev cX7_copy : ByteArray := prog_9_method_14_code
def yX7_copy : MethodName := ⟨RX7, "copy", "(IIIII)I"⟩
abbrev cX7_divisor : ByteArray := prog_9_method_15_code
def yX7_divisor : MethodName := ⟨RX7, "divisor", "(JJ)J"⟩
abbrev cX7_part : ByteArray := prog_9_method_16_code
def yX7_part : MethodName := ⟨RX7, "part", "(JJI)J"⟩
abbrev cX7_choices : ByteArray := prog_9_method_17_code
def yX7_choices : MethodName := ⟨RX7, "choices", "(II)J"⟩
abbrev cX7_power : ByteArray := prog_9_method_18_code
def yX7_power : MethodName := ⟨RX7, "power", "(II)J"⟩
abbrev cX7_millionths : ByteArray := prog_9_method_19_code
def yX7_millionths : MethodName := ⟨RX7, "millionths", "(JJ)I"⟩
abbrev cX7_isYear : ByteArray := prog_9_method_20_code
def yX7_isYear : MethodName := ⟨RX7, "isYear", "(I)Z"⟩
abbrev cX7_isLevel : ByteArray := prog_9_method_21_code
def yX7_isLevel : MethodName := ⟨RX7, "isLevel", "(I)Z"⟩
abbrev cX7_isEarly : ByteArray := prog_9_method_22_code
def yX7_isEarly : MethodName := ⟨RX7, "isEarly", "(I)Z"⟩
abbrev cX7_tell : ByteArray := prog_9_method_23_code
def yX7_tell : MethodName := ⟨RX7, "tell", "(IIII)I"⟩
abbrev cX7_read : ByteArray := prog_9_method_24_code
def yX7_read : MethodName := ⟨RX7, "read", "(III)I"⟩
abbrev cX7_watch : ByteArray := prog_9_method_25_code
def yX7_watch : MethodName := ⟨RX7, "watch", "(III)I"⟩
abbrev cX7_high : ByteArray := prog_9_method_26_code
def yX7_high : MethodName := ⟨RX7, "high", "(I)I"⟩
abbrev cX7_set : ByteArray := prog_9_method_27_code
def yX7_set : MethodName := ⟨RX7, "set", "(II)I"⟩
abbrev cX7_isCounted : ByteArray := prog_9_method_28_code
def yX7_isCounted : MethodName := ⟨RX7, "isCounted", "(I)Z"⟩
abbrev cX7_watchedBy : ByteArray := prog_9_method_29_code
def yX7_watchedBy : MethodName := ⟨RX7, "watchedBy", "(I)I"⟩
abbrev cX7_find : ByteArray := prog_9_method_30_code
def yX7_find : MethodName := ⟨RX7, "find", "()V"⟩
abbrev cX7_known : ByteArray := prog_9_method_31_code
def yX7_known : MethodName := ⟨RX7, "known", "(II)I"⟩
abbrev cX7_overOf : ByteArray := prog_9_method_32_code
def yX7_overOf : MethodName := ⟨RX7, "overOf", "(I)I"⟩
abbrev cX7_underOf : ByteArray := prog_9_method_33_code
def yX7_underOf : MethodName := ⟨RX7, "underOf", "(I)I"⟩
abbrev cX7_counted : ByteArray := prog_9_method_34_code
def yX7_counted : MethodName := ⟨RX7, "counted", "()I"⟩
abbrev cX7_overBy : ByteArray := prog_9_method_35_code
def yX7_overBy : MethodName := ⟨RX7, "overBy", "(II)I"⟩
abbrev cX7_over : ByteArray := prog_9_method_36_code
def yX7_over : MethodName := ⟨RX7, "over", "(II)I"⟩
abbrev cX7_rareOf : ByteArray := prog_9_method_37_code
def yX7_rareOf : MethodName := ⟨RX7, "rareOf", "(III)J"⟩
abbrev cX7_rare : ByteArray := prog_9_method_38_code
def yX7_rare : MethodName := ⟨RX7, "rare", "(III)J"⟩
abbrev cX7_soRareOf : ByteArray := prog_9_method_39_code
def yX7_soRareOf : MethodName := ⟨RX7, "soRareOf", "(I)I"⟩
abbrev cX7_isPart : ByteArray := prog_9_method_40_code
def yX7_isPart : MethodName := ⟨RX7, "isPart", "(I)Z"⟩
abbrev cX7_soRare : ByteArray := prog_9_method_41_code
def yX7_soRare : MethodName := ⟨RX7, "soRare", "(I)I"⟩
abbrev cX7_rank : ByteArray := prog_9_method_42_code
def yX7_rank : MethodName := ⟨RX7, "rank", "(I)I"⟩
abbrev cX7_isSixteenths : ByteArray := prog_9_method_43_code
def yX7_isSixteenths : MethodName := ⟨RX7, "isSixteenths", "(I)Z"⟩
abbrev cX7_goOver : ByteArray := prog_9_method_44_code
def yX7_goOver : MethodName := ⟨RX7, "goOver", "(IIII)J"⟩
abbrev cX7_again : ByteArray := prog_9_method_45_code
def yX7_again : MethodName := ⟨RX7, "again", "(IIII)J"⟩
abbrev cX7_lasts : ByteArray := prog_9_method_46_code
def yX7_lasts : MethodName := ⟨RX7, "lasts", "(II)I"⟩
abbrev cX7_next : ByteArray := prog_9_method_47_code
def yX7_next : MethodName := ⟨RX7, "next", "(IIII)J"⟩
abbrev cX7_between : ByteArray := prog_9_method_48_code
def yX7_between : MethodName := ⟨RX7, "between", "(IIII)J"⟩
abbrev cX7_shouldOf : ByteArray := prog_9_method_49_code
def yX7_shouldOf : MethodName := ⟨RX7, "shouldOf", "(I)I"⟩
abbrev cX7_recordsOf : ByteArray := prog_9_method_50_code
def yX7_recordsOf : MethodName := ⟨RX7, "recordsOf", "(I)I"⟩
abbrev cX7_records : ByteArray := prog_9_method_51_code
def yX7_records : MethodName := ⟨RX7, "records", "(I)I"⟩
abbrev cX7_sign : ByteArray := prog_9_method_52_code
def yX7_sign : MethodName := ⟨RX7, "sign", "(I)I"⟩
abbrev cX7_risesNow : ByteArray := prog_9_method_53_code
def yX7_risesNow : MethodName := ⟨RX7, "risesNow", "()I"⟩
abbrev cX7_rises : ByteArray := prog_9_method_54_code
def yX7_rises : MethodName := ⟨RX7, "rises", "()I"⟩
abbrev cX7_aheadOf : ByteArray := prog_9_method_55_code
def yX7_aheadOf : MethodName := ⟨RX7, "aheadOf", "(I)I"⟩
abbrev cX7_differs : ByteArray := prog_9_method_56_code
def yX7_differs : MethodName := ⟨RX7, "differs", "(I)J"⟩
abbrev cX7_isParted : ByteArray := prog_9_method_57_code
def yX7_isParted : MethodName := ⟨RX7, "isParted", "(I)Z"⟩
abbrev cX7_change : ByteArray := prog_9_method_58_code
def yX7_change : MethodName := ⟨RX7, "change", "(II)J"⟩
abbrev cX7_amount : ByteArray := prog_9_method_59_code
def yX7_amount : MethodName := ⟨RX7, "amount", "(J)J"⟩
abbrev cX7_changedYear : ByteArray := prog_9_method_60_code
def yX7_changedYear : MethodName := ⟨RX7, "changedYear", "()I"⟩
abbrev cX7_likelyOf : ByteArray := prog_9_method_61_code
def yX7_likelyOf : MethodName := ⟨RX7, "likelyOf", "(I)I"⟩
abbrev cX7_changedOf : ByteArray := prog_9_method_62_code
def yX7_changedOf : MethodName := ⟨RX7, "changedOf", "(I)I"⟩
abbrev cX7_changed : ByteArray := prog_9_method_63_code
def yX7_changed : MethodName := ⟨RX7, "changed", "(I)I"⟩
abbrev cX7_sister : ByteArray := prog_9_method_64_code
def yX7_sister : MethodName := ⟨RX7, "sister", "(II)I"⟩
abbrev cX7_isCommon : ByteArray := prog_9_method_65_code
def yX7_isCommon : MethodName := ⟨RX7, "isCommon", "(I)Z"⟩
abbrev cX7_commonOf : ByteArray := prog_9_method_66_code
def yX7_commonOf : MethodName := ⟨RX7, "commonOf", "(I)I"⟩
abbrev cX7_common : ByteArray := prog_9_method_67_code
def yX7_common : MethodName := ⟨RX7, "common", "(I)I"⟩
abbrev cX7_filledOf : ByteArray := prog_9_method_68_code
def yX7_filledOf : MethodName := ⟨RX7, "filledOf", "(II)I"⟩
abbrev cX7_filled : ByteArray := prog_9_method_69_code
def yX7_filled : MethodName := ⟨RX7, "filled", "(II)I"⟩
abbrev cX7_type : ByteArray := prog_9_method_70_code
def yX7_type : MethodName := ⟨RX7, "type", "(I)I"⟩
abbrev cX7_wipe : ByteArray := prog_9_method_71_code
def yX7_wipe : MethodName := ⟨RX7, "wipe", "()I"⟩
abbrev cX7_here : ByteArray := prog_9_method_72_code
def yX7_here : MethodName := ⟨RX7, "here", "()I"⟩
abbrev cX7_number : ByteArray := prog_9_method_73_code
def yX7_number : MethodName := ⟨RX7, "number", "(I)I"⟩
abbrev cX7_readsPair : ByteArray := prog_9_method_74_code
def yX7_readsPair : MethodName := ⟨RX7, "readsPair", "()Z"⟩
abbrev cX7_reads : ByteArray := prog_9_method_75_code
def yX7_reads : MethodName := ⟨RX7, "reads", "()I"⟩
abbrev cX7_fault : ByteArray := prog_9_method_76_code
def yX7_fault : MethodName := ⟨RX7, "fault", "()I"⟩
abbrev cX7_flow : ByteArray := prog_9_method_77_code
def yX7_flow : MethodName := ⟨RX7, "flow", "(II)J"⟩
abbrev cX7_costOf : ByteArray := prog_9_method_78_code
def yX7_costOf : MethodName := ⟨RX7, "costOf", "(I)J"⟩
abbrev cX7_dyke : ByteArray := prog_9_method_79_code
def yX7_dyke : MethodName := ⟨RX7, "dyke", "(II)J"⟩
abbrev cX7_bestNow : ByteArray := prog_9_method_80_code
def yX7_bestNow : MethodName := ⟨RX7, "bestNow", "()I"⟩
abbrev cX7_best : ByteArray := prog_9_method_81_code
def yX7_best : MethodName := ⟨RX7, "best", "()I"⟩
abbrev cX7_sureOf : ByteArray := prog_9_method_82_code
def yX7_sureOf : MethodName := ⟨RX7, "sureOf", "(I)I"⟩
abbrev cX7_sure : ByteArray := prog_9_method_83_code
def yX7_sure : MethodName := ⟨RX7, "sure", "(I)I"⟩
abbrev cX7_write : ByteArray := prog_9_method_84_code
def yX7_write : MethodName := ⟨RX7, "write", "(II)I"⟩
abbrev cX7_countKind : ByteArray := prog_9_method_85_code
def yX7_countKind : MethodName := ⟨RX7, "countKind", "(I)I"⟩
abbrev cX7_greatest : ByteArray := prog_9_method_86_code
def yX7_greatest : MethodName := ⟨RX7, "greatest", "()I"⟩
abbrev cX7_count : ByteArray := prog_9_method_87_code
def yX7_count : MethodName := ⟨RX7, "count", "(I)I"⟩
abbrev cX7_digest : ByteArray := prog_9_method_88_code
def yX7_digest : MethodName := ⟨RX7, "digest", "()J"⟩
def RJx8e188 : String := "java/lang/Cloneable"
def TJx8e188 : u_T := fun k => match k with
  | _ => ("", "", "", false)
def tyJx8e188 : Nat → FieldType := fun k => match k with
  | _ => .int
abbrev wsJx8e1880 : List Cond := u_ws RJx8e188 TJx8e188 0
theorem nmJx8e188 : ∀ a, a < 0 → ∀ b, b < 0 → a ≠ b → (TJx8e188 a).2.1 ≠ (TJx8e188 b).2.1 := by decide +kernel
theorem tyJx8e188_ok : ∀ k, k < 0 → parseFieldDescriptor (TJx8e188 k).2.2.1 = some (tyJx8e188 k) := by decide +kernel
def RJ9 : String := "java/lang/Math"
def TJ9 : u_T := fun k => match k with
  | _ => ("", "", "", false)
def tyJ9 : Nat → FieldType := fun k => match k with
  | _ => .int
abbrev wsJ90 : List Cond := u_ws RJ9 TJ9 0
theorem nmJ9 : ∀ a, a < 0 → ∀ b, b < 0 → a ≠ b → (TJ9 a).2.1 ≠ (TJ9 b).2.1 := by decide +kernel
theorem tyJ9_ok : ∀ k, k < 0 → parseFieldDescriptor (TJ9 k).2.2.1 = some (tyJ9 k) := by decide +kernel
abbrev cJ9_abs_067f4 : ByteArray := prog_11_method_61_code
def yJ9_abs_067f4 : MethodName := ⟨RJ9, "abs", "(J)J"⟩
abbrev cJ9_max_7cf53 : ByteArray := prog_11_method_65_code
def yJ9_max_7cf53 : MethodName := ⟨RJ9, "max", "(II)I"⟩
abbrev cJ9_max_f86c9 : ByteArray := prog_11_method_66_code
def yJ9_max_f86c9 : MethodName := ⟨RJ9, "max", "(JJ)J"⟩
abbrev cJ9_min_7cf53 : ByteArray := prog_11_method_69_code
def yJ9_min_7cf53 : MethodName := ⟨RJ9, "min", "(II)I"⟩
def RJ10 : String := "java/lang/System"
def TJ10 : u_T := fun k => match k with
  | _ => ("", "", "", false)
def tyJ10 : Nat → FieldType := fun k => match k with
  | _ => .int
abbrev wsJ100 : List Cond := u_ws RJ10 TJ10 0
theorem nmJ10 : ∀ a, a < 0 → ∀ b, b < 0 → a ≠ b → (TJ10 a).2.1 ≠ (TJ10 b).2.1 := by decide +kernel
theorem tyJ10_ok : ∀ k, k < 0 → parseFieldDescriptor (TJ10 k).2.2.1 = some (tyJ10 k) := by decide +kernel
def RJ7 : String := "java/util/Arrays"
def TJ7 : u_T := fun k => match k with
  | _ => ("", "", "", false)
def tyJ7 : Nat → FieldType := fun k => match k with
  | _ => .int
abbrev wsJ70 : List Cond := u_ws RJ7 TJ7 0
theorem nmJ7 : ∀ a, a < 0 → ∀ b, b < 0 → a ≠ b → (TJ7 a).2.1 ≠ (TJ7 b).2.1 := by decide +kernel
theorem tyJ7_ok : ∀ k, k < 0 → parseFieldDescriptor (TJ7 k).2.2.1 = some (tyJ7 k) := by decide +kernel
abbrev cJ7_fill_d0a16 : ByteArray := prog_13_method_101_code
def yJ7_fill_d0a16 : MethodName := ⟨RJ7, "fill", "([JJ)V"⟩
abbrev cJ7_fill_53178 : ByteArray := prog_13_method_103_code
def yJ7_fill_53178 : MethodName := ⟨RJ7, "fill", "([II)V"⟩
def RL : String := "WallMarksLaw"
abbrev cL_law : ByteArray := code
def yL_law : MethodName := ⟨RL, "law", "([I)Z"⟩
def wsX0_init : List Cond := .code yX0_init cX0_init 1 none :: ([.methodLink RX0 3 objectInit, .instanceMethod objectInit, .code objectInit ⟨#[0xb1]⟩ 1 none, .arrayClass .int, .fieldLink RX0 9 "WallMarks$Counted" "exactYears" "[I", .fieldLink RX0 15 "WallMarks$Counted" "exactLevels" "[I", .fieldLink RX0 18 "WallMarks$Counted" "belowLevels" "[I", .fieldLink RX0 21 "WallMarks$Counted" "exacts" "I", .fieldLink RX0 25 "WallMarks$Counted" "belows" "I", .fieldLink RX0 28 "WallMarks$Counted" "opens" "I", .fieldLink RX0 31 "WallMarks$Counted" "exactSum" "I", .fieldLink RX0 34 "WallMarks$Counted" "greatestExact" "I", .fieldLink RX0 37 "WallMarks$Counted" "records" "I", .fieldLink RX0 40 "WallMarks$Counted" "lastRecord" "I", .fieldLink RX0 43 "WallMarks$Counted" "longestWait" "I"] ++ wsX00)
def wsX0_holdAgainstRecord : List Cond := .code yX0_holdAgainstRecord cX0_holdAgainstRecord 3 none :: ([.fieldLink RX0 34 "WallMarks$Counted" "greatestExact" "I", .fieldLink RX0 40 "WallMarks$Counted" "lastRecord" "I", .fieldLink RX0 43 "WallMarks$Counted" "longestWait" "I", .methodLink RX0 62 Lib.Math.max.name, .static Lib.Math.max.name, .initialized "java/lang/Math", .code Lib.Math.max.name Lib.Math.max.code 2 (some .int), .fieldLink RX0 37 "WallMarks$Counted" "records" "I"] ++ wsX00)
def wsX0_add : List Cond := .code yX0_add cX0_add 4 none :: ([.fieldLink RX0 21 "WallMarks$Counted" "exacts" "I", .fieldLink RX0 9 "WallMarks$Counted" "exactYears" "[I", .fieldLink RX0 15 "WallMarks$Counted" "exactLevels" "[I", .fieldLink RX0 31 "WallMarks$Counted" "exactSum" "I", .fieldLink RX0 25 "WallMarks$Counted" "belows" "I", .fieldLink RX0 18 "WallMarks$Counted" "belowLevels" "[I", .fieldLink RX0 28 "WallMarks$Counted" "opens" "I", .methodLink RX0 58 yX0_holdAgainstRecord, .instanceMethod yX0_holdAgainstRecord, .selects RX0 yX0_holdAgainstRecord yX0_holdAgainstRecord, .initialized RX0, .code yX0_holdAgainstRecord cX0_holdAgainstRecord 3 none, .fieldLink RX0 34 "WallMarks$Counted" "greatestExact" "I", .fieldLink RX0 40 "WallMarks$Counted" "lastRecord" "I", .fieldLink RX0 43 "WallMarks$Counted" "longestWait" "I", .methodLink RX0 62 Lib.Math.max.name, .static Lib.Math.max.name, .initialized "java/lang/Math", .code Lib.Math.max.name Lib.Math.max.code 2 (some .int), .fieldLink RX0 37 "WallMarks$Counted" "records" "I"] ++ wsX00)
def wsX0_gather_r1 : List Cond := [Cond.fieldLink RX0 21 "WallMarks$Counted" "exacts" "I", Cond.fieldLink RX0 25 "WallMarks$Counted" "belows" "I", Cond.fieldLink RX0 28 "WallMarks$Counted" "opens" "I", Cond.fieldLink RX0 31 "WallMarks$Counted" "exactSum" "I", Cond.fieldLink RX0 34 "WallMarks$Counted" "greatestExact" "I", Cond.fieldLink RX0 37 "WallMarks$Counted" "records" "I", Cond.fieldLink RX0 40 "WallMarks$Counted" "lastRecord" "I", Cond.fieldLink RX0 43 "WallMarks$Counted" "longestWait" "I", Cond.fieldLink RX0 46 "WallMarks$Known" "kinds" "[I", Cond.fieldLink RX0 51 "WallMarks$Known" "levels" "[I", Cond.methodLink RX0 54 yX0_add, Cond.instanceMethod yX0_add, Cond.selects RX0 yX0_add yX0_add, Cond.initialized RX0, Cond.code yX0_add cX0_add 4 none, Cond.fieldLink RX0 9 "WallMarks$Counted" "exactYears" "[I", Cond.fieldLink RX0 15 "WallMarks$Counted" "exactLevels" "[I", Cond.fieldLink RX0 18 "WallMarks$Counted" "belowLevels" "[I", Cond.methodLink RX0 58 yX0_holdAgainstRecord, Cond.instanceMethod yX0_holdAgainstRecord, Cond.selects RX0 yX0_holdAgainstRecord yX0_holdAgainstRecord, Cond.code yX0_holdAgainstRecord cX0_holdAgainstRecord 3 none, Cond.methodLink RX0 62 Lib.Math.max.name, Cond.static Lib.Math.max.name]
def wsX0_gather_r2 : List Cond := [Cond.initialized "java/lang/Math", Cond.code Lib.Math.max.name Lib.Math.max.code 2 (some .int)]
def wsX0_gather : List Cond := .code yX0_gather cX0_gather 5 none :: ((wsX0_gather_r1 ++ wsX0_gather_r2) ++ wsX00 ++ wsX20)
def wsX0_all : List Cond := .code yX0_all cX0_all 1 (some .int) :: ([.fieldLink RX0 21 "WallMarks$Counted" "exacts" "I", .fieldLink RX0 25 "WallMarks$Counted" "belows" "I", .fieldLink RX0 28 "WallMarks$Counted" "opens" "I"] ++ wsX00)
def wsX0_overs : List Cond := .code yX0_overs cX0_overs 4 (some .int) :: ([.fieldLink RX0 21 "WallMarks$Counted" "exacts" "I", .fieldLink RX0 15 "WallMarks$Counted" "exactLevels" "[I"] ++ wsX00)
def wsX0_belowsUnder : List Cond := .code yX0_belowsUnder cX0_belowsUnder 4 (some .int) :: ([.fieldLink RX0 25 "WallMarks$Counted" "belows" "I", .fieldLink RX0 18 "WallMarks$Counted" "belowLevels" "[I"] ++ wsX00)
def wsX0_unders : List Cond := .code yX0_unders cX0_unders 2 (some .int) :: ([.fieldLink RX0 21 "WallMarks$Counted" "exacts" "I", .methodLink RX0 68 yX0_overs, .instanceMethod yX0_overs, .selects RX0 yX0_overs yX0_overs, .initialized RX0, .code yX0_overs cX0_overs 4 (some .int), .fieldLink RX0 15 "WallMarks$Counted" "exactLevels" "[I", .methodLink RX0 72 yX0_belowsUnder, .instanceMethod yX0_belowsUnder, .selects RX0 yX0_belowsUnder yX0_belowsUnder, .code yX0_belowsUnder cX0_belowsUnder 4 (some .int), .fieldLink RX0 25 "WallMarks$Counted" "belows" "I", .fieldLink RX0 18 "WallMarks$Counted" "belowLevels" "[I"] ++ wsX00)
def wsX0_darks : List Cond := .code yX0_darks cX0_darks 2 (some .int) :: ([.fieldLink RX0 28 "WallMarks$Counted" "opens" "I", .fieldLink RX0 25 "WallMarks$Counted" "belows" "I", .methodLink RX0 72 yX0_belowsUnder, .instanceMethod yX0_belowsUnder, .selects RX0 yX0_belowsUnder yX0_belowsUnder, .initialized RX0, .code yX0_belowsUnder cX0_belowsUnder 4 (some .int), .fieldLink RX0 18 "WallMarks$Counted" "belowLevels" "[I"] ++ wsX00)
def wsX0_rareBelow : List Cond := .code yX0_rareBelow cX0_rareBelow 2 (some .int) :: ([.fieldLink RX0 21 "WallMarks$Counted" "exacts" "I", .methodLink RX0 72 yX0_belowsUnder, .instanceMethod yX0_belowsUnder, .selects RX0 yX0_belowsUnder yX0_belowsUnder, .initialized RX0, .code yX0_belowsUnder cX0_belowsUnder 4 (some .int), .fieldLink RX0 25 "WallMarks$Counted" "belows" "I", .fieldLink RX0 18 "WallMarks$Counted" "belowLevels" "[I"] ++ wsX00)
def wsX0_steps : List Cond := .code yX0_steps cX0_steps 1 (some .int) :: ([.fieldLink RX0 21 "WallMarks$Counted" "exacts" "I", .fieldLink RX0 25 "WallMarks$Counted" "belows" "I"] ++ wsX00)
def wsX0_stepAt : List Cond := .code yX0_stepAt cX0_stepAt 2 (some .int) :: ([.fieldLink RX0 21 "WallMarks$Counted" "exacts" "I", .fieldLink RX0 15 "WallMarks$Counted" "exactLevels" "[I", .fieldLink RX0 18 "WallMarks$Counted" "belowLevels" "[I", .methodLink RX0 75 yX0_steps, .instanceMethod yX0_steps, .selects RX0 yX0_steps yX0_steps, .initialized RX0, .code yX0_steps cX0_steps 1 (some .int), .fieldLink RX0 25 "WallMarks$Counted" "belows" "I"] ++ wsX00)
def wsX0_exactsAhead : List Cond := .code yX0_exactsAhead cX0_exactsAhead 4 (some .int) :: ([.fieldLink RX0 21 "WallMarks$Counted" "exacts" "I", .fieldLink RX0 9 "WallMarks$Counted" "exactYears" "[I"] ++ wsX00)
def wsX0_sumAhead : List Cond := .code yX0_sumAhead cX0_sumAhead 4 (some .int) :: ([.fieldLink RX0 21 "WallMarks$Counted" "exacts" "I", .fieldLink RX0 9 "WallMarks$Counted" "exactYears" "[I", .fieldLink RX0 15 "WallMarks$Counted" "exactLevels" "[I"] ++ wsX00)
def wsX0_meansBelow : List Cond := .code yX0_meansBelow cX0_meansBelow 3 (some .long) :: ([.fieldLink RX0 21 "WallMarks$Counted" "exacts" "I", .methodLink RX0 79 yX0_exactsAhead, .instanceMethod yX0_exactsAhead, .selects RX0 yX0_exactsAhead yX0_exactsAhead, .initialized RX0, .code yX0_exactsAhead cX0_exactsAhead 4 (some .int), .fieldLink RX0 9 "WallMarks$Counted" "exactYears" "[I"] ++ wsX00)
def wsX0_meansApart : List Cond := .code yX0_meansApart cX0_meansApart 3 (some .long) :: ([.fieldLink RX0 31 "WallMarks$Counted" "exactSum" "I", .fieldLink RX0 21 "WallMarks$Counted" "exacts" "I"] ++ wsX00)
def wsX0_meansAbove : List Cond := .code yX0_meansAbove cX0_meansAbove 2 (some .long) :: ([.methodLink RX0 79 yX0_exactsAhead, .instanceMethod yX0_exactsAhead, .selects RX0 yX0_exactsAhead yX0_exactsAhead, .initialized RX0, .code yX0_exactsAhead cX0_exactsAhead 4 (some .int), .fieldLink RX0 21 "WallMarks$Counted" "exacts" "I", .fieldLink RX0 9 "WallMarks$Counted" "exactYears" "[I", .methodLink RX0 82 yX0_sumAhead, .instanceMethod yX0_sumAhead, .selects RX0 yX0_sumAhead yX0_sumAhead, .code yX0_sumAhead cX0_sumAhead 4 (some .int), .fieldLink RX0 15 "WallMarks$Counted" "exactLevels" "[I", .methodLink RX0 85 yX0_meansApart, .instanceMethod yX0_meansApart, .selects RX0 yX0_meansApart yX0_meansApart, .code yX0_meansApart cX0_meansApart 3 (some .long), .fieldLink RX0 31 "WallMarks$Counted" "exactSum" "I"] ++ wsX00)
def wsX1_init : List Cond := .code yX1_init cX1_init 1 none :: ([.methodLink RX1 3 objectInit, .instanceMethod objectInit, .code objectInit ⟨#[0xb1]⟩ 1 none, .arrayClass .int, .fieldLink RX1 9 "WallMarks$Flows" "bytes" "[I", .fieldLink RX1 15 "WallMarks$Flows" "levels" "[I", .fieldLink RX1 18 "WallMarks$Flows" "amounts" "[I", .fieldLink RX1 21 "WallMarks$Flows" "size" "I", .fieldLink RX1 25 "WallMarks$Flows" "pairs" "I", .fieldLink RX1 28 "WallMarks$Flows" "place" "I"] ++ wsX10)
def wsX1_hasRoom : List Cond := .code yX1_hasRoom cX1_hasRoom 1 (some .boolean) :: ([.fieldLink RX1 21 "WallMarks$Flows" "size" "I"] ++ wsX10)
def wsX1_add : List Cond := .code yX1_add cX1_add 2 none :: ([.fieldLink RX1 9 "WallMarks$Flows" "bytes" "[I", .fieldLink RX1 21 "WallMarks$Flows" "size" "I", .methodLink RX1 31 yX1_hasRoom, .instanceMethod yX1_hasRoom, .selects RX1 yX1_hasRoom yX1_hasRoom, .initialized RX1, .code yX1_hasRoom cX1_hasRoom 1 (some .boolean)] ++ wsX10)
def wsX1_passes : List Cond := .code yX1_passes cX1_passes 2 (some .boolean) :: ([.fieldLink RX1 28 "WallMarks$Flows" "place" "I", .fieldLink RX1 21 "WallMarks$Flows" "size" "I", .fieldLink RX1 9 "WallMarks$Flows" "bytes" "[I"] ++ wsX10)
def wsX1_isFigure : List Cond := .code yX1_isFigure cX1_isFigure 1 (some .boolean) :: ([.fieldLink RX1 28 "WallMarks$Flows" "place" "I", .fieldLink RX1 21 "WallMarks$Flows" "size" "I", .fieldLink RX1 9 "WallMarks$Flows" "bytes" "[I"] ++ wsX10)
def wsX1_parseNumber : List Cond := .code yX1_parseNumber cX1_parseNumber 3 (some .int) :: ([.methodLink RX1 49 Lib.Math.max.name, .static Lib.Math.max.name, .initialized "java/lang/Math", .code Lib.Math.max.name Lib.Math.max.code 2 (some .int), .fieldLink RX1 9 "WallMarks$Flows" "bytes" "[I", .fieldLink RX1 28 "WallMarks$Flows" "place" "I", .methodLink RX1 46 yX1_isFigure, .instanceMethod yX1_isFigure, .selects RX1 yX1_isFigure yX1_isFigure, .initialized RX1, .code yX1_isFigure cX1_isFigure 1 (some .boolean), .fieldLink RX1 21 "WallMarks$Flows" "size" "I"] ++ wsX10)
def wsX1_parsePair : List Cond := .code yX1_parsePair cX1_parsePair 4 (some .int) :: ([.fieldLink RX1 28 "WallMarks$Flows" "place" "I", .fieldLink RX1 25 "WallMarks$Flows" "pairs" "I", .fieldLink RX1 15 "WallMarks$Flows" "levels" "[I", .fieldLink RX1 18 "WallMarks$Flows" "amounts" "[I", .methodLink RX1 43 yX1_parseNumber, .instanceMethod yX1_parseNumber, .selects RX1 yX1_parseNumber yX1_parseNumber, .initialized RX1, .code yX1_parseNumber cX1_parseNumber 3 (some .int), .methodLink RX1 49 Lib.Math.max.name, .static Lib.Math.max.name, .initialized "java/lang/Math", .code Lib.Math.max.name Lib.Math.max.code 2 (some .int), .fieldLink RX1 9 "WallMarks$Flows" "bytes" "[I", .methodLink RX1 46 yX1_isFigure, .instanceMethod yX1_isFigure, .selects RX1 yX1_isFigure yX1_isFigure, .code yX1_isFigure cX1_isFigure 1 (some .boolean), .fieldLink RX1 21 "WallMarks$Flows" "size" "I", .methodLink RX1 35 yX1_passes, .instanceMethod yX1_passes, .selects RX1 yX1_passes yX1_passes, .code yX1_passes cX1_passes 2 (some .boolean)] ++ wsX10)
def wsX1_parse_r1 : List Cond := [Cond.fieldLink RX1 28 "WallMarks$Flows" "place" "I", Cond.fieldLink RX1 25 "WallMarks$Flows" "pairs" "I", Cond.fieldLink RX1 21 "WallMarks$Flows" "size" "I", Cond.methodLink RX1 35 yX1_passes, Cond.instanceMethod yX1_passes, Cond.selects RX1 yX1_passes yX1_passes, Cond.initialized RX1, Cond.code yX1_passes cX1_passes 2 (some .boolean), Cond.fieldLink RX1 9 "WallMarks$Flows" "bytes" "[I", Cond.methodLink RX1 39 yX1_parsePair, Cond.instanceMethod yX1_parsePair, Cond.selects RX1 yX1_parsePair yX1_parsePair, Cond.code yX1_parsePair cX1_parsePair 4 (some .int), Cond.fieldLink RX1 15 "WallMarks$Flows" "levels" "[I", Cond.fieldLink RX1 18 "WallMarks$Flows" "amounts" "[I", Cond.methodLink RX1 43 yX1_parseNumber, Cond.instanceMethod yX1_parseNumber, Cond.selects RX1 yX1_parseNumber yX1_parseNumber, Cond.code yX1_parseNumber cX1_parseNumber 3 (some .int), Cond.methodLink RX1 49 Lib.Math.max.name, Cond.static Lib.Math.max.name, Cond.initialized "java/lang/Math", Cond.code Lib.Math.max.name Lib.Math.max.code 2 (some .int), Cond.methodLink RX1 46 yX1_isFigure]
def wsX1_parse_r2 : List Cond := [Cond.instanceMethod yX1_isFigure, Cond.selects RX1 yX1_isFigure yX1_isFigure, Cond.code yX1_isFigure cX1_isFigure 1 (some .boolean)]
def wsX1_parse : List Cond := .code yX1_parse cX1_parse 2 (some .int) :: ((wsX1_parse_r1 ++ wsX1_parse_r2) ++ wsX10)
def wsX1_pairBeside : List Cond := .code yX1_pairBeside cX1_pairBeside 3 (some .int) :: ([.fieldLink RX1 25 "WallMarks$Flows" "pairs" "I", .fieldLink RX1 15 "WallMarks$Flows" "levels" "[I"] ++ wsX10)
def wsX1_lineBelow : List Cond := .code yX1_lineBelow cX1_lineBelow 2 (some .long) :: ([.fieldLink RX1 15 "WallMarks$Flows" "levels" "[I"] ++ wsX10)
def wsX1_lineAbove : List Cond := .code yX1_lineAbove cX1_lineAbove 5 (some .long) :: ([.fieldLink RX1 18 "WallMarks$Flows" "amounts" "[I", .fieldLink RX1 15 "WallMarks$Flows" "levels" "[I", .methodLink RX1 59 Lib.MathLoose.max_long.x, .static Lib.MathLoose.max_long.x, .initialized "java/lang/Math", .code Lib.MathLoose.max_long.x Lib.MathLoose.max_long.code 4 (some .long), .methodLink RX1 55 yX1_lineBelow, .instanceMethod yX1_lineBelow, .selects RX1 yX1_lineBelow yX1_lineBelow, .initialized RX1, .code yX1_lineBelow cX1_lineBelow 2 (some .long)] ++ wsX10)
def wsX2_init : List Cond := .code yX2_init cX2_init 1 none :: ([.methodLink RX2 3 objectInit, .instanceMethod objectInit, .code objectInit ⟨#[0xb1]⟩ 1 none, .arrayClass .int, .fieldLink RX2 9 "WallMarks$Known" "kinds" "[I", .fieldLink RX2 15 "WallMarks$Known" "levels" "[I"] ++ wsX20)
def wsJ7_fill_53178 : List Cond := .code yJ7_fill_53178 cJ7_fill_53178 4 none :: ([])
def wsX2_forget : List Cond := .code yX2_forget cX2_forget 1 none :: ([.fieldLink RX2 9 "WallMarks$Known" "kinds" "[I", .fieldLink RX2 15 "WallMarks$Known" "levels" "[I", .methodLink RX2 18 yJ7_fill_53178, .static yJ7_fill_53178, .initialized RJ7, .code yJ7_fill_53178 cJ7_fill_53178 4 none] ++ wsX20)
def wsX6_isYear : List Cond := .code yX6_isYear cX6_isYear 1 (some .boolean) :: ([])
def wsX2_put : List Cond := .code yX2_put cX2_put 4 none :: ([.fieldLink RX2 9 "WallMarks$Known" "kinds" "[I", .fieldLink RX2 15 "WallMarks$Known" "levels" "[I", .static yX6_isYear, .initialized RX6, .code yX6_isYear cX6_isYear 1 (some .boolean)] ++ wsX20)
def wsX3_init : List Cond := .code yX3_init cX3_init 1 none :: ([.methodLink RX3 3 objectInit, .instanceMethod objectInit, .code objectInit ⟨#[0xb1]⟩ 1 none, .arrayClass .int, .fieldLink RX3 9 "WallMarks$Sheet" "items" "[I", .fieldLink RX3 15 "WallMarks$Sheet" "lost" "Z", .fieldLink RX3 19 "WallMarks$Sheet" "form" "I", .fieldLink RX3 23 "WallMarks$Sheet" "size" "I"] ++ wsX30)
def wsX3_renew : List Cond := .code yX3_renew cX3_renew 3 none :: ([.fieldLink RX3 9 "WallMarks$Sheet" "items" "[I", .fieldLink RX3 15 "WallMarks$Sheet" "lost" "Z", .fieldLink RX3 19 "WallMarks$Sheet" "form" "I", .fieldLink RX3 23 "WallMarks$Sheet" "size" "I", .methodLink RX3 26 yJ7_fill_53178, .static yJ7_fill_53178, .initialized RJ7, .code yJ7_fill_53178 cJ7_fill_53178 4 none] ++ wsX30)
def wsX3_holds : List Cond := .code yX3_holds cX3_holds 3 (some .boolean) :: ([.fieldLink RX3 23 "WallMarks$Sheet" "size" "I"] ++ wsX30)
def wsX3_itemAt : List Cond := .code yX3_itemAt cX3_itemAt 2 (some .int) :: ([.fieldLink RX3 9 "WallMarks$Sheet" "items" "[I", .methodLink RX3 32 yX3_holds, .instanceMethod yX3_holds, .selects RX3 yX3_holds yX3_holds, .initialized RX3, .code yX3_holds cX3_holds 3 (some .boolean), .fieldLink RX3 23 "WallMarks$Sheet" "size" "I"] ++ wsX30)
def wsX3_narrowed : List Cond := .code yX3_narrowed cX3_narrowed 2 (some .int) :: ([.fieldLink RX3 19 "WallMarks$Sheet" "form" "I"] ++ wsX30)
def wsX3_put : List Cond := .code yX3_put cX3_put 3 none :: ([.fieldLink RX3 9 "WallMarks$Sheet" "items" "[I", .methodLink RX3 32 yX3_holds, .instanceMethod yX3_holds, .selects RX3 yX3_holds yX3_holds, .initialized RX3, .code yX3_holds cX3_holds 3 (some .boolean), .fieldLink RX3 23 "WallMarks$Sheet" "size" "I", .methodLink RX3 36 yX3_narrowed, .instanceMethod yX3_narrowed, .selects RX3 yX3_narrowed yX3_narrowed, .code yX3_narrowed cX3_narrowed 2 (some .int), .fieldLink RX3 19 "WallMarks$Sheet" "form" "I"] ++ wsX30)
def wsX4_init : List Cond := .code yX4_init cX4_init 1 none :: ([.methodLink RX4 3 objectInit, .instanceMethod objectInit, .code objectInit ⟨#[0xb1]⟩ 1 none, .arrayClass .int, .fieldLink RX4 9 "WallMarks$Tellings" "years" "[I", .fieldLink RX4 15 "WallMarks$Tellings" "kinds" "[I", .fieldLink RX4 18 "WallMarks$Tellings" "levels" "[I", .fieldLink RX4 21 "WallMarks$Tellings" "times" "[I", .fieldLink RX4 24 "WallMarks$Tellings" "size" "I", .fieldLink RX4 28 "WallMarks$Tellings" "lastTime" "I"] ++ wsX40)
def wsX4_hasRoom : List Cond := .code yX4_hasRoom cX4_hasRoom 1 (some .boolean) :: ([.fieldLink RX4 24 "WallMarks$Tellings" "size" "I"] ++ wsX40)
def wsX4_add : List Cond := .code yX4_add cX4_add 5 none :: ([.fieldLink RX4 9 "WallMarks$Tellings" "years" "[I", .fieldLink RX4 24 "WallMarks$Tellings" "size" "I", .fieldLink RX4 15 "WallMarks$Tellings" "kinds" "[I", .fieldLink RX4 18 "WallMarks$Tellings" "levels" "[I", .fieldLink RX4 21 "WallMarks$Tellings" "times" "[I", .fieldLink RX4 28 "WallMarks$Tellings" "lastTime" "I", .methodLink RX4 31 yX4_hasRoom, .instanceMethod yX4_hasRoom, .selects RX4 yX4_hasRoom yX4_hasRoom, .initialized RX4, .code yX4_hasRoom cX4_hasRoom 1 (some .boolean)] ++ wsX40)
def wsX5_init : List Cond := .code yX5_init cX5_init 1 none :: ([.methodLink RX5 3 objectInit, .instanceMethod objectInit, .code objectInit ⟨#[0xb1]⟩ 1 none, .arrayClass .int, .fieldLink RX5 9 "WallMarks$Watches" "froms" "[I", .fieldLink RX5 15 "WallMarks$Watches" "tos" "[I", .fieldLink RX5 18 "WallMarks$Watches" "levels" "[I", .fieldLink RX5 21 "WallMarks$Watches" "size" "I"] ++ wsX50)
def wsX5_hasRoom : List Cond := .code yX5_hasRoom cX5_hasRoom 1 (some .boolean) :: ([.fieldLink RX5 21 "WallMarks$Watches" "size" "I"] ++ wsX50)
def wsX5_add : List Cond := .code yX5_add cX5_add 4 none :: ([.fieldLink RX5 9 "WallMarks$Watches" "froms" "[I", .fieldLink RX5 21 "WallMarks$Watches" "size" "I", .fieldLink RX5 15 "WallMarks$Watches" "tos" "[I", .fieldLink RX5 18 "WallMarks$Watches" "levels" "[I", .methodLink RX5 25 yX5_hasRoom, .instanceMethod yX5_hasRoom, .selects RX5 yX5_hasRoom yX5_hasRoom, .initialized RX5, .code yX5_hasRoom cX5_hasRoom 1 (some .boolean)] ++ wsX50)
def wsX5_leastAt : List Cond := .code yX5_leastAt cX5_leastAt 5 (some .int) :: ([.fieldLink RX5 21 "WallMarks$Watches" "size" "I", .fieldLink RX5 9 "WallMarks$Watches" "froms" "[I", .fieldLink RX5 15 "WallMarks$Watches" "tos" "[I", .fieldLink RX5 18 "WallMarks$Watches" "levels" "[I"] ++ wsX50)
def wsX6_settle_r1 : List Cond := [Cond.fieldLink RX6 26 "WallMarks" "knowledge" "LWallMarks$Known;", Cond.fieldLink RX6 10 "WallMarks" "tellings" "LWallMarks$Tellings;", Cond.fieldLink RX6 102 "WallMarks$Tellings" "size" "I", Cond.fieldLink RX6 373 "WallMarks$Tellings" "times" "[I", Cond.fieldLink RX6 46 "WallMarks" "settings" "[I", Cond.fieldLink RX6 376 "WallMarks$Tellings" "years" "[I", Cond.fieldLink RX6 379 "WallMarks$Tellings" "kinds" "[I", Cond.fieldLink RX6 380 "WallMarks$Tellings" "levels" "[I", Cond.fieldLink RX6 19 "WallMarks" "watches" "LWallMarks$Watches;", Cond.fieldLink RX6 137 "WallMarks$Known" "kinds" "[I", Cond.fieldLink RX6 33 "WallMarks" "counted" "LWallMarks$Counted;", Cond.methodLink RX6 370 yX2_forget, Cond.instanceMethod yX2_forget, Cond.selects RX2 yX2_forget yX2_forget, Cond.initialized RX2, Cond.code yX2_forget cX2_forget 1 none, Cond.fieldLink RX2 9 "WallMarks$Known" "kinds" "[I", Cond.fieldLink RX2 15 "WallMarks$Known" "levels" "[I", Cond.methodLink RX2 18 yJ7_fill_53178, Cond.static yJ7_fill_53178, Cond.initialized RJ7, Cond.code yJ7_fill_53178 cJ7_fill_53178 4 none, Cond.methodLink RX6 381 yX2_put, Cond.instanceMethod yX2_put]
def wsX6_settle_r2 : List Cond := [Cond.selects RX2 yX2_put yX2_put, Cond.code yX2_put cX2_put 4 none, Cond.static yX6_isYear, Cond.initialized RX6, Cond.code yX6_isYear cX6_isYear 1 (some .boolean), Cond.methodLink RX6 383 yX5_leastAt, Cond.instanceMethod yX5_leastAt, Cond.selects RX5 yX5_leastAt yX5_leastAt, Cond.initialized RX5, Cond.code yX5_leastAt cX5_leastAt 5 (some .int), Cond.fieldLink RX5 21 "WallMarks$Watches" "size" "I", Cond.fieldLink RX5 9 "WallMarks$Watches" "froms" "[I", Cond.fieldLink RX5 15 "WallMarks$Watches" "tos" "[I", Cond.fieldLink RX5 18 "WallMarks$Watches" "levels" "[I", Cond.methodLink RX6 386 yX0_gather, Cond.instanceMethod yX0_gather, Cond.selects RX0 yX0_gather yX0_gather, Cond.initialized RX0, Cond.code yX0_gather cX0_gather 5 none, Cond.fieldLink RX0 21 "WallMarks$Counted" "exacts" "I", Cond.fieldLink RX0 25 "WallMarks$Counted" "belows" "I", Cond.fieldLink RX0 28 "WallMarks$Counted" "opens" "I", Cond.fieldLink RX0 31 "WallMarks$Counted" "exactSum" "I", Cond.fieldLink RX0 34 "WallMarks$Counted" "greatestExact" "I"]
def wsX6_settle_r3 : List Cond := [Cond.fieldLink RX0 37 "WallMarks$Counted" "records" "I", Cond.fieldLink RX0 40 "WallMarks$Counted" "lastRecord" "I", Cond.fieldLink RX0 43 "WallMarks$Counted" "longestWait" "I", Cond.fieldLink RX0 46 "WallMarks$Known" "kinds" "[I", Cond.fieldLink RX0 51 "WallMarks$Known" "levels" "[I", Cond.methodLink RX0 54 yX0_add, Cond.instanceMethod yX0_add, Cond.selects RX0 yX0_add yX0_add, Cond.code yX0_add cX0_add 4 none, Cond.fieldLink RX0 9 "WallMarks$Counted" "exactYears" "[I", Cond.fieldLink RX0 15 "WallMarks$Counted" "exactLevels" "[I", Cond.fieldLink RX0 18 "WallMarks$Counted" "belowLevels" "[I", Cond.methodLink RX0 58 yX0_holdAgainstRecord, Cond.instanceMethod yX0_holdAgainstRecord, Cond.selects RX0 yX0_holdAgainstRecord yX0_holdAgainstRecord, Cond.code yX0_holdAgainstRecord cX0_holdAgainstRecord 3 none, Cond.methodLink RX0 62 Lib.Math.max.name, Cond.static Lib.Math.max.name, Cond.initialized "java/lang/Math", Cond.code Lib.Math.max.name Lib.Math.max.code 2 (some .int)]
def wsX6_settle : List Cond := .code yX6_settle cX6_settle 3 none :: ((wsX6_settle_r1 ++ (wsX6_settle_r2 ++ wsX6_settle_r3)) ++ wsX60 ++ wsX40 ++ wsX20 ++ wsX50 ++ wsX00)
def wsX6_init_r1 : List Cond := [Cond.methodLink RX6 1 objectInit, Cond.instanceMethod objectInit, Cond.code objectInit ⟨#[0xb1]⟩ 1 none, Cond.classLink RX6 7 RX4, Cond.instantiable RX4 6, Cond.initialized RX4, Cond.fieldLink RX6 10 "WallMarks" "tellings" "LWallMarks$Tellings;", Cond.classLink RX6 16 RX5, Cond.instantiable RX5 4, Cond.initialized RX5, Cond.fieldLink RX6 19 "WallMarks" "watches" "LWallMarks$Watches;", Cond.classLink RX6 23 RX2, Cond.instantiable RX2 2, Cond.initialized RX2, Cond.fieldLink RX6 26 "WallMarks" "knowledge" "LWallMarks$Known;", Cond.classLink RX6 30 RX0, Cond.instantiable RX0 11, Cond.initialized RX0, Cond.fieldLink RX6 33 "WallMarks" "counted" "LWallMarks$Counted;", Cond.fieldLink RX6 37 "WallMarks" "FIRST_SETTINGS" "[I", Cond.methodLink RX6 41 ⟨"[I", "clone", "()Ljava/lang/Object;"⟩, Cond.sameMethod "[I" "java/lang/Object" "clone" "()Ljava/lang/Object;", Cond.native ⟨"java/lang/Object", "clone", "()Ljava/lang/Object;"⟩, Cond.instanceMethod ⟨"java/lang/Object", "clone", "()Ljava/lang/Object;"⟩]
def wsX6_init_r2 : List Cond := [Cond.selects "[I" ⟨"[I", "clone", "()Ljava/lang/Object;"⟩ ⟨"java/lang/Object", "clone", "()Ljava/lang/Object;"⟩, Cond.classLink RX6 42 "[I", Cond.fieldLink RX6 46 "WallMarks" "settings" "[I", Cond.arrayClass .int, Cond.fieldLink RX6 49 "WallMarks" "sisterLevels" "[I", Cond.classLink RX6 58 RX1, Cond.instantiable RX1 6, Cond.initialized RX1, Cond.fieldLink RX6 61 "WallMarks" "flows" "LWallMarks$Flows;", Cond.classLink RX6 65 RX3, Cond.fieldLink RX6 67 "WallMarks" "sheets" "[LWallMarks$Sheet;", Cond.instantiable RX3 4, Cond.initialized RX3, Cond.arrayClass .long, Cond.fieldLink RX6 72 "WallMarks" "orders" "[J", Cond.fieldLink RX6 76 "WallMarks" "finding" "I", Cond.instanceMethod yX4_init, Cond.code yX4_init cX4_init 1 none, Cond.methodLink RX4 3 objectInit, Cond.fieldLink RX4 9 "WallMarks$Tellings" "years" "[I", Cond.fieldLink RX4 15 "WallMarks$Tellings" "kinds" "[I", Cond.fieldLink RX4 18 "WallMarks$Tellings" "levels" "[I", Cond.fieldLink RX4 21 "WallMarks$Tellings" "times" "[I", Cond.fieldLink RX4 24 "WallMarks$Tellings" "size" "I"]
def wsX6_init_r3 : List Cond := [Cond.fieldLink RX4 28 "WallMarks$Tellings" "lastTime" "I", Cond.instanceMethod yX5_init, Cond.code yX5_init cX5_init 1 none, Cond.methodLink RX5 3 objectInit, Cond.fieldLink RX5 9 "WallMarks$Watches" "froms" "[I", Cond.fieldLink RX5 15 "WallMarks$Watches" "tos" "[I", Cond.fieldLink RX5 18 "WallMarks$Watches" "levels" "[I", Cond.fieldLink RX5 21 "WallMarks$Watches" "size" "I", Cond.instanceMethod yX2_init, Cond.code yX2_init cX2_init 1 none, Cond.methodLink RX2 3 objectInit, Cond.fieldLink RX2 9 "WallMarks$Known" "kinds" "[I", Cond.fieldLink RX2 15 "WallMarks$Known" "levels" "[I", Cond.instanceMethod yX0_init, Cond.code yX0_init cX0_init 1 none, Cond.methodLink RX0 3 objectInit, Cond.fieldLink RX0 9 "WallMarks$Counted" "exactYears" "[I", Cond.fieldLink RX0 15 "WallMarks$Counted" "exactLevels" "[I", Cond.fieldLink RX0 18 "WallMarks$Counted" "belowLevels" "[I", Cond.fieldLink RX0 21 "WallMarks$Counted" "exacts" "I", Cond.fieldLink RX0 25 "WallMarks$Counted" "belows" "I", Cond.fieldLink RX0 28 "WallMarks$Counted" "opens" "I", Cond.fieldLink RX0 31 "WallMarks$Counted" "exactSum" "I", Cond.fieldLink RX0 34 "WallMarks$Counted" "greatestExact" "I"]
def wsX6_init_r4 : List Cond := [Cond.fieldLink RX0 37 "WallMarks$Counted" "records" "I", Cond.fieldLink RX0 40 "WallMarks$Counted" "lastRecord" "I", Cond.fieldLink RX0 43 "WallMarks$Counted" "longestWait" "I", Cond.methodLink RX6 52 yJ7_fill_53178, Cond.static yJ7_fill_53178, Cond.initialized RJ7, Cond.code yJ7_fill_53178 cJ7_fill_53178 4 none, Cond.instanceMethod yX1_init, Cond.code yX1_init cX1_init 1 none, Cond.methodLink RX1 3 objectInit, Cond.fieldLink RX1 9 "WallMarks$Flows" "bytes" "[I", Cond.fieldLink RX1 15 "WallMarks$Flows" "levels" "[I", Cond.fieldLink RX1 18 "WallMarks$Flows" "amounts" "[I", Cond.fieldLink RX1 21 "WallMarks$Flows" "size" "I", Cond.fieldLink RX1 25 "WallMarks$Flows" "pairs" "I", Cond.fieldLink RX1 28 "WallMarks$Flows" "place" "I", Cond.instanceMethod yX3_init, Cond.code yX3_init cX3_init 1 none, Cond.methodLink RX3 3 objectInit, Cond.fieldLink RX3 9 "WallMarks$Sheet" "items" "[I", Cond.fieldLink RX3 15 "WallMarks$Sheet" "lost" "Z", Cond.fieldLink RX3 19 "WallMarks$Sheet" "form" "I", Cond.fieldLink RX3 23 "WallMarks$Sheet" "size" "I", Cond.methodLink RX6 80 yX6_settle]
def wsX6_init_r5 : List Cond := [Cond.instanceMethod yX6_settle, Cond.selects RX6 yX6_settle yX6_settle, Cond.initialized RX6, Cond.code yX6_settle cX6_settle 3 none, Cond.fieldLink RX6 102 "WallMarks$Tellings" "size" "I", Cond.fieldLink RX6 373 "WallMarks$Tellings" "times" "[I", Cond.fieldLink RX6 376 "WallMarks$Tellings" "years" "[I", Cond.fieldLink RX6 379 "WallMarks$Tellings" "kinds" "[I", Cond.fieldLink RX6 380 "WallMarks$Tellings" "levels" "[I", Cond.fieldLink RX6 137 "WallMarks$Known" "kinds" "[I", Cond.methodLink RX6 370 yX2_forget, Cond.instanceMethod yX2_forget, Cond.selects RX2 yX2_forget yX2_forget, Cond.code yX2_forget cX2_forget 1 none, Cond.methodLink RX2 18 yJ7_fill_53178, Cond.methodLink RX6 381 yX2_put, Cond.instanceMethod yX2_put, Cond.selects RX2 yX2_put yX2_put, Cond.code yX2_put cX2_put 4 none, Cond.static yX6_isYear, Cond.code yX6_isYear cX6_isYear 1 (some .boolean), Cond.methodLink RX6 383 yX5_leastAt, Cond.instanceMethod yX5_leastAt, Cond.selects RX5 yX5_leastAt yX5_leastAt]
def wsX6_init_r6 : List Cond := [Cond.code yX5_leastAt cX5_leastAt 5 (some .int), Cond.methodLink RX6 386 yX0_gather, Cond.instanceMethod yX0_gather, Cond.selects RX0 yX0_gather yX0_gather, Cond.code yX0_gather cX0_gather 5 none, Cond.fieldLink RX0 46 "WallMarks$Known" "kinds" "[I", Cond.fieldLink RX0 51 "WallMarks$Known" "levels" "[I", Cond.methodLink RX0 54 yX0_add, Cond.instanceMethod yX0_add, Cond.selects RX0 yX0_add yX0_add, Cond.code yX0_add cX0_add 4 none, Cond.methodLink RX0 58 yX0_holdAgainstRecord, Cond.instanceMethod yX0_holdAgainstRecord, Cond.selects RX0 yX0_holdAgainstRecord yX0_holdAgainstRecord, Cond.code yX0_holdAgainstRecord cX0_holdAgainstRecord 3 none, Cond.methodLink RX0 62 Lib.Math.max.name, Cond.static Lib.Math.max.name, Cond.initialized "java/lang/Math", Cond.code Lib.Math.max.name Lib.Math.max.code 2 (some .int)]
def wsX6_init : List Cond := .code yX6_init cX6_init 2 none :: ((wsX6_init_r1 ++ (wsX6_init_r2 ++ (wsX6_init_r3 ++ (wsX6_init_r4 ++ (wsX6_init_r5 ++ wsX6_init_r6))))) ++ wsX40 ++ wsX60 ++ wsX50 ++ wsX20 ++ wsX00 ++ wsX10 ++ wsX30)
def wsX6_isLevel : List Cond := .code yX6_isLevel cX6_isLevel 1 (some .boolean) :: ([])
def wsX6_mayBeTold : List Cond := .code yX6_mayBeTold cX6_mayBeTold 2 (some .boolean) :: ([.methodLink RX6 120 yX6_isLevel, .static yX6_isLevel, .initialized RX6, .code yX6_isLevel cX6_isLevel 1 (some .boolean)])
def wsX6_isTimeToTell : List Cond := .code yX6_isTimeToTell cX6_isTimeToTell 2 (some .boolean) :: ([.fieldLink RX6 10 "WallMarks" "tellings" "LWallMarks$Tellings;", .fieldLink RX6 365 "WallMarks$Tellings" "lastTime" "I"] ++ wsX60 ++ wsX40)
def wsX6_tell_r1 : List Cond := [Cond.fieldLink RX6 10 "WallMarks" "tellings" "LWallMarks$Tellings;", Cond.fieldLink RX6 102 "WallMarks$Tellings" "size" "I", Cond.methodLink RX6 83 yX6_isYear, Cond.static yX6_isYear, Cond.initialized RX6, Cond.code yX6_isYear cX6_isYear 1 (some .boolean), Cond.methodLink RX6 87 yX6_mayBeTold, Cond.static yX6_mayBeTold, Cond.code yX6_mayBeTold cX6_mayBeTold 2 (some .boolean), Cond.methodLink RX6 120 yX6_isLevel, Cond.static yX6_isLevel, Cond.code yX6_isLevel cX6_isLevel 1 (some .boolean), Cond.methodLink RX6 91 yX6_isTimeToTell, Cond.instanceMethod yX6_isTimeToTell, Cond.selects RX6 yX6_isTimeToTell yX6_isTimeToTell, Cond.code yX6_isTimeToTell cX6_isTimeToTell 2 (some .boolean), Cond.fieldLink RX6 365 "WallMarks$Tellings" "lastTime" "I", Cond.methodLink RX6 94 yX4_hasRoom, Cond.instanceMethod yX4_hasRoom, Cond.selects RX4 yX4_hasRoom yX4_hasRoom, Cond.initialized RX4, Cond.code yX4_hasRoom cX4_hasRoom 1 (some .boolean), Cond.fieldLink RX4 24 "WallMarks$Tellings" "size" "I", Cond.methodLink RX6 98 yX4_add]
def wsX6_tell_r2 : List Cond := [Cond.instanceMethod yX4_add, Cond.selects RX4 yX4_add yX4_add, Cond.code yX4_add cX4_add 5 none, Cond.fieldLink RX4 9 "WallMarks$Tellings" "years" "[I", Cond.fieldLink RX4 15 "WallMarks$Tellings" "kinds" "[I", Cond.fieldLink RX4 18 "WallMarks$Tellings" "levels" "[I", Cond.fieldLink RX4 21 "WallMarks$Tellings" "times" "[I", Cond.fieldLink RX4 28 "WallMarks$Tellings" "lastTime" "I", Cond.methodLink RX4 31 yX4_hasRoom, Cond.methodLink RX6 80 yX6_settle, Cond.instanceMethod yX6_settle, Cond.selects RX6 yX6_settle yX6_settle, Cond.code yX6_settle cX6_settle 3 none, Cond.fieldLink RX6 26 "WallMarks" "knowledge" "LWallMarks$Known;", Cond.fieldLink RX6 373 "WallMarks$Tellings" "times" "[I", Cond.fieldLink RX6 46 "WallMarks" "settings" "[I", Cond.fieldLink RX6 376 "WallMarks$Tellings" "years" "[I", Cond.fieldLink RX6 379 "WallMarks$Tellings" "kinds" "[I", Cond.fieldLink RX6 380 "WallMarks$Tellings" "levels" "[I", Cond.fieldLink RX6 19 "WallMarks" "watches" "LWallMarks$Watches;", Cond.fieldLink RX6 137 "WallMarks$Known" "kinds" "[I", Cond.fieldLink RX6 33 "WallMarks" "counted" "LWallMarks$Counted;", Cond.methodLink RX6 370 yX2_forget, Cond.instanceMethod yX2_forget]
def wsX6_tell_r3 : List Cond := [Cond.selects RX2 yX2_forget yX2_forget, Cond.initialized RX2, Cond.code yX2_forget cX2_forget 1 none, Cond.fieldLink RX2 9 "WallMarks$Known" "kinds" "[I", Cond.fieldLink RX2 15 "WallMarks$Known" "levels" "[I", Cond.methodLink RX2 18 yJ7_fill_53178, Cond.static yJ7_fill_53178, Cond.initialized RJ7, Cond.code yJ7_fill_53178 cJ7_fill_53178 4 none, Cond.methodLink RX6 381 yX2_put, Cond.instanceMethod yX2_put, Cond.selects RX2 yX2_put yX2_put, Cond.code yX2_put cX2_put 4 none, Cond.methodLink RX6 383 yX5_leastAt, Cond.instanceMethod yX5_leastAt, Cond.selects RX5 yX5_leastAt yX5_leastAt, Cond.initialized RX5, Cond.code yX5_leastAt cX5_leastAt 5 (some .int), Cond.fieldLink RX5 21 "WallMarks$Watches" "size" "I", Cond.fieldLink RX5 9 "WallMarks$Watches" "froms" "[I", Cond.fieldLink RX5 15 "WallMarks$Watches" "tos" "[I", Cond.fieldLink RX5 18 "WallMarks$Watches" "levels" "[I", Cond.methodLink RX6 386 yX0_gather, Cond.instanceMethod yX0_gather]
def wsX6_tell_r4 : List Cond := [Cond.selects RX0 yX0_gather yX0_gather, Cond.initialized RX0, Cond.code yX0_gather cX0_gather 5 none, Cond.fieldLink RX0 21 "WallMarks$Counted" "exacts" "I", Cond.fieldLink RX0 25 "WallMarks$Counted" "belows" "I", Cond.fieldLink RX0 28 "WallMarks$Counted" "opens" "I", Cond.fieldLink RX0 31 "WallMarks$Counted" "exactSum" "I", Cond.fieldLink RX0 34 "WallMarks$Counted" "greatestExact" "I", Cond.fieldLink RX0 37 "WallMarks$Counted" "records" "I", Cond.fieldLink RX0 40 "WallMarks$Counted" "lastRecord" "I", Cond.fieldLink RX0 43 "WallMarks$Counted" "longestWait" "I", Cond.fieldLink RX0 46 "WallMarks$Known" "kinds" "[I", Cond.fieldLink RX0 51 "WallMarks$Known" "levels" "[I", Cond.methodLink RX0 54 yX0_add, Cond.instanceMethod yX0_add, Cond.selects RX0 yX0_add yX0_add, Cond.code yX0_add cX0_add 4 none, Cond.fieldLink RX0 9 "WallMarks$Counted" "exactYears" "[I", Cond.fieldLink RX0 15 "WallMarks$Counted" "exactLevels" "[I", Cond.fieldLink RX0 18 "WallMarks$Counted" "belowLevels" "[I", Cond.methodLink RX0 58 yX0_holdAgainstRecord, Cond.instanceMethod yX0_holdAgainstRecord, Cond.selects RX0 yX0_holdAgainstRecord yX0_holdAgainstRecord, Cond.code yX0_holdAgainstRecord cX0_holdAgainstRecord 3 none]
def wsX6_tell_r5 : List Cond := [Cond.methodLink RX0 62 Lib.Math.max.name, Cond.static Lib.Math.max.name, Cond.initialized "java/lang/Math", Cond.code Lib.Math.max.name Lib.Math.max.code 2 (some .int)]
def wsX6_tell : List Cond := .code yX6_tell cX6_tell 5 (some .int) :: ((wsX6_tell_r1 ++ (wsX6_tell_r2 ++ (wsX6_tell_r3 ++ (wsX6_tell_r4 ++ wsX6_tell_r5)))) ++ wsX60 ++ wsX40 ++ wsX20 ++ wsX50 ++ wsX00)
def wsX6_isSheet : List Cond := .code yX6_isSheet cX6_isSheet 1 (some .boolean) :: ([])
def wsX6_found : List Cond := .code yX6_found cX6_found 2 (some .int) :: ([.fieldLink RX6 76 "WallMarks" "finding" "I"] ++ wsX60)
def wsX6_read_r1 : List Cond := [Cond.fieldLink RX6 67 "WallMarks" "sheets" "[LWallMarks$Sheet;", Cond.fieldLink RX6 108 "WallMarks$Sheet" "lost" "Z", Cond.fieldLink RX6 116 "WallMarks$Sheet" "size" "I", Cond.fieldLink RX6 10 "WallMarks" "tellings" "LWallMarks$Tellings;", Cond.methodLink RX6 105 yX6_isSheet, Cond.static yX6_isSheet, Cond.initialized RX6, Cond.code yX6_isSheet cX6_isSheet 1 (some .boolean), Cond.methodLink RX6 83 yX6_isYear, Cond.static yX6_isYear, Cond.code yX6_isYear cX6_isYear 1 (some .boolean), Cond.methodLink RX6 91 yX6_isTimeToTell, Cond.instanceMethod yX6_isTimeToTell, Cond.selects RX6 yX6_isTimeToTell yX6_isTimeToTell, Cond.code yX6_isTimeToTell cX6_isTimeToTell 2 (some .boolean), Cond.fieldLink RX6 365 "WallMarks$Tellings" "lastTime" "I", Cond.methodLink RX6 112 yX6_found, Cond.instanceMethod yX6_found, Cond.selects RX6 yX6_found yX6_found, Cond.code yX6_found cX6_found 2 (some .int), Cond.fieldLink RX6 76 "WallMarks" "finding" "I", Cond.methodLink RX6 94 yX4_hasRoom, Cond.instanceMethod yX4_hasRoom, Cond.selects RX4 yX4_hasRoom yX4_hasRoom]
def wsX6_read_r2 : List Cond := [Cond.initialized RX4, Cond.code yX4_hasRoom cX4_hasRoom 1 (some .boolean), Cond.fieldLink RX4 24 "WallMarks$Tellings" "size" "I", Cond.methodLink RX6 117 yX3_itemAt, Cond.instanceMethod yX3_itemAt, Cond.selects RX3 yX3_itemAt yX3_itemAt, Cond.initialized RX3, Cond.code yX3_itemAt cX3_itemAt 2 (some .int), Cond.fieldLink RX3 9 "WallMarks$Sheet" "items" "[I", Cond.methodLink RX3 32 yX3_holds, Cond.instanceMethod yX3_holds, Cond.selects RX3 yX3_holds yX3_holds, Cond.code yX3_holds cX3_holds 3 (some .boolean), Cond.fieldLink RX3 23 "WallMarks$Sheet" "size" "I", Cond.methodLink RX6 120 yX6_isLevel, Cond.static yX6_isLevel, Cond.code yX6_isLevel cX6_isLevel 1 (some .boolean), Cond.methodLink RX6 98 yX4_add, Cond.instanceMethod yX4_add, Cond.selects RX4 yX4_add yX4_add, Cond.code yX4_add cX4_add 5 none, Cond.fieldLink RX4 9 "WallMarks$Tellings" "years" "[I", Cond.fieldLink RX4 15 "WallMarks$Tellings" "kinds" "[I", Cond.fieldLink RX4 18 "WallMarks$Tellings" "levels" "[I"]
def wsX6_read_r3 : List Cond := [Cond.fieldLink RX4 21 "WallMarks$Tellings" "times" "[I", Cond.fieldLink RX4 28 "WallMarks$Tellings" "lastTime" "I", Cond.methodLink RX4 31 yX4_hasRoom, Cond.methodLink RX6 80 yX6_settle, Cond.instanceMethod yX6_settle, Cond.selects RX6 yX6_settle yX6_settle, Cond.code yX6_settle cX6_settle 3 none, Cond.fieldLink RX6 26 "WallMarks" "knowledge" "LWallMarks$Known;", Cond.fieldLink RX6 102 "WallMarks$Tellings" "size" "I", Cond.fieldLink RX6 373 "WallMarks$Tellings" "times" "[I", Cond.fieldLink RX6 46 "WallMarks" "settings" "[I", Cond.fieldLink RX6 376 "WallMarks$Tellings" "years" "[I", Cond.fieldLink RX6 379 "WallMarks$Tellings" "kinds" "[I", Cond.fieldLink RX6 380 "WallMarks$Tellings" "levels" "[I", Cond.fieldLink RX6 19 "WallMarks" "watches" "LWallMarks$Watches;", Cond.fieldLink RX6 137 "WallMarks$Known" "kinds" "[I", Cond.fieldLink RX6 33 "WallMarks" "counted" "LWallMarks$Counted;", Cond.methodLink RX6 370 yX2_forget, Cond.instanceMethod yX2_forget, Cond.selects RX2 yX2_forget yX2_forget, Cond.initialized RX2, Cond.code yX2_forget cX2_forget 1 none, Cond.fieldLink RX2 9 "WallMarks$Known" "kinds" "[I", Cond.fieldLink RX2 15 "WallMarks$Known" "levels" "[I"]
def wsX6_read_r4 : List Cond := [Cond.methodLink RX2 18 yJ7_fill_53178, Cond.static yJ7_fill_53178, Cond.initialized RJ7, Cond.code yJ7_fill_53178 cJ7_fill_53178 4 none, Cond.methodLink RX6 381 yX2_put, Cond.instanceMethod yX2_put, Cond.selects RX2 yX2_put yX2_put, Cond.code yX2_put cX2_put 4 none, Cond.methodLink RX6 383 yX5_leastAt, Cond.instanceMethod yX5_leastAt, Cond.selects RX5 yX5_leastAt yX5_leastAt, Cond.initialized RX5, Cond.code yX5_leastAt cX5_leastAt 5 (some .int), Cond.fieldLink RX5 21 "WallMarks$Watches" "size" "I", Cond.fieldLink RX5 9 "WallMarks$Watches" "froms" "[I", Cond.fieldLink RX5 15 "WallMarks$Watches" "tos" "[I", Cond.fieldLink RX5 18 "WallMarks$Watches" "levels" "[I", Cond.methodLink RX6 386 yX0_gather, Cond.instanceMethod yX0_gather, Cond.selects RX0 yX0_gather yX0_gather, Cond.initialized RX0, Cond.code yX0_gather cX0_gather 5 none, Cond.fieldLink RX0 21 "WallMarks$Counted" "exacts" "I", Cond.fieldLink RX0 25 "WallMarks$Counted" "belows" "I"]
def wsX6_read_r5 : List Cond := [Cond.fieldLink RX0 28 "WallMarks$Counted" "opens" "I", Cond.fieldLink RX0 31 "WallMarks$Counted" "exactSum" "I", Cond.fieldLink RX0 34 "WallMarks$Counted" "greatestExact" "I", Cond.fieldLink RX0 37 "WallMarks$Counted" "records" "I", Cond.fieldLink RX0 40 "WallMarks$Counted" "lastRecord" "I", Cond.fieldLink RX0 43 "WallMarks$Counted" "longestWait" "I", Cond.fieldLink RX0 46 "WallMarks$Known" "kinds" "[I", Cond.fieldLink RX0 51 "WallMarks$Known" "levels" "[I", Cond.methodLink RX0 54 yX0_add, Cond.instanceMethod yX0_add, Cond.selects RX0 yX0_add yX0_add, Cond.code yX0_add cX0_add 4 none, Cond.fieldLink RX0 9 "WallMarks$Counted" "exactYears" "[I", Cond.fieldLink RX0 15 "WallMarks$Counted" "exactLevels" "[I", Cond.fieldLink RX0 18 "WallMarks$Counted" "belowLevels" "[I", Cond.methodLink RX0 58 yX0_holdAgainstRecord, Cond.instanceMethod yX0_holdAgainstRecord, Cond.selects RX0 yX0_holdAgainstRecord yX0_holdAgainstRecord, Cond.code yX0_holdAgainstRecord cX0_holdAgainstRecord 3 none, Cond.methodLink RX0 62 Lib.Math.max.name, Cond.static Lib.Math.max.name, Cond.initialized "java/lang/Math", Cond.code Lib.Math.max.name Lib.Math.max.code 2 (some .int)]
def wsX6_read : List Cond := .code yX6_read cX6_read 6 (some .int) :: ((wsX6_read_r1 ++ (wsX6_read_r2 ++ (wsX6_read_r3 ++ (wsX6_read_r4 ++ wsX6_read_r5)))) ++ wsX60 ++ wsX30 ++ wsX40 ++ wsX20 ++ wsX50 ++ wsX00)
def wsX6_watch_r1 : List Cond := [Cond.fieldLink RX6 19 "WallMarks" "watches" "LWallMarks$Watches;", Cond.fieldLink RX6 127 "WallMarks$Watches" "size" "I", Cond.methodLink RX6 83 yX6_isYear, Cond.static yX6_isYear, Cond.initialized RX6, Cond.code yX6_isYear cX6_isYear 1 (some .boolean), Cond.methodLink RX6 120 yX6_isLevel, Cond.static yX6_isLevel, Cond.code yX6_isLevel cX6_isLevel 1 (some .boolean), Cond.methodLink RX6 123 yX5_hasRoom, Cond.instanceMethod yX5_hasRoom, Cond.selects RX5 yX5_hasRoom yX5_hasRoom, Cond.initialized RX5, Cond.code yX5_hasRoom cX5_hasRoom 1 (some .boolean), Cond.fieldLink RX5 21 "WallMarks$Watches" "size" "I", Cond.methodLink RX6 124 yX5_add, Cond.instanceMethod yX5_add, Cond.selects RX5 yX5_add yX5_add, Cond.code yX5_add cX5_add 4 none, Cond.fieldLink RX5 9 "WallMarks$Watches" "froms" "[I", Cond.fieldLink RX5 15 "WallMarks$Watches" "tos" "[I", Cond.fieldLink RX5 18 "WallMarks$Watches" "levels" "[I", Cond.methodLink RX5 25 yX5_hasRoom, Cond.methodLink RX6 80 yX6_settle]
def wsX6_watch_r2 : List Cond := [Cond.instanceMethod yX6_settle, Cond.selects RX6 yX6_settle yX6_settle, Cond.code yX6_settle cX6_settle 3 none, Cond.fieldLink RX6 26 "WallMarks" "knowledge" "LWallMarks$Known;", Cond.fieldLink RX6 10 "WallMarks" "tellings" "LWallMarks$Tellings;", Cond.fieldLink RX6 102 "WallMarks$Tellings" "size" "I", Cond.fieldLink RX6 373 "WallMarks$Tellings" "times" "[I", Cond.fieldLink RX6 46 "WallMarks" "settings" "[I", Cond.fieldLink RX6 376 "WallMarks$Tellings" "years" "[I", Cond.fieldLink RX6 379 "WallMarks$Tellings" "kinds" "[I", Cond.fieldLink RX6 380 "WallMarks$Tellings" "levels" "[I", Cond.fieldLink RX6 137 "WallMarks$Known" "kinds" "[I", Cond.fieldLink RX6 33 "WallMarks" "counted" "LWallMarks$Counted;", Cond.methodLink RX6 370 yX2_forget, Cond.instanceMethod yX2_forget, Cond.selects RX2 yX2_forget yX2_forget, Cond.initialized RX2, Cond.code yX2_forget cX2_forget 1 none, Cond.fieldLink RX2 9 "WallMarks$Known" "kinds" "[I", Cond.fieldLink RX2 15 "WallMarks$Known" "levels" "[I", Cond.methodLink RX2 18 yJ7_fill_53178, Cond.static yJ7_fill_53178, Cond.initialized RJ7, Cond.code yJ7_fill_53178 cJ7_fill_53178 4 none]
def wsX6_watch_r3 : List Cond := [Cond.methodLink RX6 381 yX2_put, Cond.instanceMethod yX2_put, Cond.selects RX2 yX2_put yX2_put, Cond.code yX2_put cX2_put 4 none, Cond.methodLink RX6 383 yX5_leastAt, Cond.instanceMethod yX5_leastAt, Cond.selects RX5 yX5_leastAt yX5_leastAt, Cond.code yX5_leastAt cX5_leastAt 5 (some .int), Cond.methodLink RX6 386 yX0_gather, Cond.instanceMethod yX0_gather, Cond.selects RX0 yX0_gather yX0_gather, Cond.initialized RX0, Cond.code yX0_gather cX0_gather 5 none, Cond.fieldLink RX0 21 "WallMarks$Counted" "exacts" "I", Cond.fieldLink RX0 25 "WallMarks$Counted" "belows" "I", Cond.fieldLink RX0 28 "WallMarks$Counted" "opens" "I", Cond.fieldLink RX0 31 "WallMarks$Counted" "exactSum" "I", Cond.fieldLink RX0 34 "WallMarks$Counted" "greatestExact" "I", Cond.fieldLink RX0 37 "WallMarks$Counted" "records" "I", Cond.fieldLink RX0 40 "WallMarks$Counted" "lastRecord" "I", Cond.fieldLink RX0 43 "WallMarks$Counted" "longestWait" "I", Cond.fieldLink RX0 46 "WallMarks$Known" "kinds" "[I", Cond.fieldLink RX0 51 "WallMarks$Known" "levels" "[I", Cond.methodLink RX0 54 yX0_add]
def wsX6_watch_r4 : List Cond := [Cond.instanceMethod yX0_add, Cond.selects RX0 yX0_add yX0_add, Cond.code yX0_add cX0_add 4 none, Cond.fieldLink RX0 9 "WallMarks$Counted" "exactYears" "[I", Cond.fieldLink RX0 15 "WallMarks$Counted" "exactLevels" "[I", Cond.fieldLink RX0 18 "WallMarks$Counted" "belowLevels" "[I", Cond.methodLink RX0 58 yX0_holdAgainstRecord, Cond.instanceMethod yX0_holdAgainstRecord, Cond.selects RX0 yX0_holdAgainstRecord yX0_holdAgainstRecord, Cond.code yX0_holdAgainstRecord cX0_holdAgainstRecord 3 none, Cond.methodLink RX0 62 Lib.Math.max.name, Cond.static Lib.Math.max.name, Cond.initialized "java/lang/Math", Cond.code Lib.Math.max.name Lib.Math.max.code 2 (some .int)]
def wsX6_watch : List Cond := .code yX6_watch cX6_watch 4 (some .int) :: ((wsX6_watch_r1 ++ (wsX6_watch_r2 ++ (wsX6_watch_r3 ++ wsX6_watch_r4))) ++ wsX60 ++ wsX50 ++ wsX40 ++ wsX20 ++ wsX00)
def wsX6_set_r1 : List Cond := [Cond.fieldLink RX6 128 "WallMarks" "LEAST_SETTINGS" "[I", Cond.fieldLink RX6 131 "WallMarks" "GREATEST_SETTINGS" "[I", Cond.fieldLink RX6 46 "WallMarks" "settings" "[I", Cond.methodLink RX6 80 yX6_settle, Cond.instanceMethod yX6_settle, Cond.selects RX6 yX6_settle yX6_settle, Cond.initialized RX6, Cond.code yX6_settle cX6_settle 3 none, Cond.fieldLink RX6 26 "WallMarks" "knowledge" "LWallMarks$Known;", Cond.fieldLink RX6 10 "WallMarks" "tellings" "LWallMarks$Tellings;", Cond.fieldLink RX6 102 "WallMarks$Tellings" "size" "I", Cond.fieldLink RX6 373 "WallMarks$Tellings" "times" "[I", Cond.fieldLink RX6 376 "WallMarks$Tellings" "years" "[I", Cond.fieldLink RX6 379 "WallMarks$Tellings" "kinds" "[I", Cond.fieldLink RX6 380 "WallMarks$Tellings" "levels" "[I", Cond.fieldLink RX6 19 "WallMarks" "watches" "LWallMarks$Watches;", Cond.fieldLink RX6 137 "WallMarks$Known" "kinds" "[I", Cond.fieldLink RX6 33 "WallMarks" "counted" "LWallMarks$Counted;", Cond.methodLink RX6 370 yX2_forget, Cond.instanceMethod yX2_forget, Cond.selects RX2 yX2_forget yX2_forget, Cond.initialized RX2, Cond.code yX2_forget cX2_forget 1 none, Cond.fieldLink RX2 9 "WallMarks$Known" "kinds" "[I"]
def wsX6_set_r2 : List Cond := [Cond.fieldLink RX2 15 "WallMarks$Known" "levels" "[I", Cond.methodLink RX2 18 yJ7_fill_53178, Cond.static yJ7_fill_53178, Cond.initialized RJ7, Cond.code yJ7_fill_53178 cJ7_fill_53178 4 none, Cond.methodLink RX6 381 yX2_put, Cond.instanceMethod yX2_put, Cond.selects RX2 yX2_put yX2_put, Cond.code yX2_put cX2_put 4 none, Cond.static yX6_isYear, Cond.code yX6_isYear cX6_isYear 1 (some .boolean), Cond.methodLink RX6 383 yX5_leastAt, Cond.instanceMethod yX5_leastAt, Cond.selects RX5 yX5_leastAt yX5_leastAt, Cond.initialized RX5, Cond.code yX5_leastAt cX5_leastAt 5 (some .int), Cond.fieldLink RX5 21 "WallMarks$Watches" "size" "I", Cond.fieldLink RX5 9 "WallMarks$Watches" "froms" "[I", Cond.fieldLink RX5 15 "WallMarks$Watches" "tos" "[I", Cond.fieldLink RX5 18 "WallMarks$Watches" "levels" "[I", Cond.methodLink RX6 386 yX0_gather, Cond.instanceMethod yX0_gather, Cond.selects RX0 yX0_gather yX0_gather, Cond.initialized RX0]
def wsX6_set_r3 : List Cond := [Cond.code yX0_gather cX0_gather 5 none, Cond.fieldLink RX0 21 "WallMarks$Counted" "exacts" "I", Cond.fieldLink RX0 25 "WallMarks$Counted" "belows" "I", Cond.fieldLink RX0 28 "WallMarks$Counted" "opens" "I", Cond.fieldLink RX0 31 "WallMarks$Counted" "exactSum" "I", Cond.fieldLink RX0 34 "WallMarks$Counted" "greatestExact" "I", Cond.fieldLink RX0 37 "WallMarks$Counted" "records" "I", Cond.fieldLink RX0 40 "WallMarks$Counted" "lastRecord" "I", Cond.fieldLink RX0 43 "WallMarks$Counted" "longestWait" "I", Cond.fieldLink RX0 46 "WallMarks$Known" "kinds" "[I", Cond.fieldLink RX0 51 "WallMarks$Known" "levels" "[I", Cond.methodLink RX0 54 yX0_add, Cond.instanceMethod yX0_add, Cond.selects RX0 yX0_add yX0_add, Cond.code yX0_add cX0_add 4 none, Cond.fieldLink RX0 9 "WallMarks$Counted" "exactYears" "[I", Cond.fieldLink RX0 15 "WallMarks$Counted" "exactLevels" "[I", Cond.fieldLink RX0 18 "WallMarks$Counted" "belowLevels" "[I", Cond.methodLink RX0 58 yX0_holdAgainstRecord, Cond.instanceMethod yX0_holdAgainstRecord, Cond.selects RX0 yX0_holdAgainstRecord yX0_holdAgainstRecord, Cond.code yX0_holdAgainstRecord cX0_holdAgainstRecord 3 none, Cond.methodLink RX0 62 Lib.Math.max.name, Cond.static Lib.Math.max.name]
def wsX6_set_r4 : List Cond := [Cond.initialized "java/lang/Math", Cond.code Lib.Math.max.name Lib.Math.max.code 2 (some .int)]
def wsX6_set : List Cond := .code yX6_set cX6_set 4 (some .int) :: ((wsX6_set_r1 ++ (wsX6_set_r2 ++ (wsX6_set_r3 ++ wsX6_set_r4))) ++ wsX60 ++ wsX40 ++ wsX20 ++ wsX50 ++ wsX00)
def wsX6_isEither : List Cond := .code yX6_isEither cX6_isEither 1 (some .boolean) :: ([])
def wsX6_known : List Cond := .code yX6_known cX6_known 3 (some .int) :: ([.fieldLink RX6 26 "WallMarks" "knowledge" "LWallMarks$Known;", .fieldLink RX6 137 "WallMarks$Known" "kinds" "[I", .fieldLink RX6 140 "WallMarks$Known" "levels" "[I", .methodLink RX6 83 yX6_isYear, .static yX6_isYear, .initialized RX6, .code yX6_isYear cX6_isYear 1 (some .boolean), .methodLink RX6 134 yX6_isEither, .static yX6_isEither, .code yX6_isEither cX6_isEither 1 (some .boolean)] ++ wsX60 ++ wsX20)
def wsX6_over_r1 : List Cond := [Cond.fieldLink RX6 33 "WallMarks" "counted" "LWallMarks$Counted;", Cond.methodLink RX6 120 yX6_isLevel, Cond.static yX6_isLevel, Cond.initialized RX6, Cond.code yX6_isLevel cX6_isLevel 1 (some .boolean), Cond.methodLink RX6 143 yX0_overs, Cond.instanceMethod yX0_overs, Cond.selects RX0 yX0_overs yX0_overs, Cond.initialized RX0, Cond.code yX0_overs cX0_overs 4 (some .int), Cond.fieldLink RX0 21 "WallMarks$Counted" "exacts" "I", Cond.fieldLink RX0 15 "WallMarks$Counted" "exactLevels" "[I", Cond.methodLink RX6 146 yX0_unders, Cond.instanceMethod yX0_unders, Cond.selects RX0 yX0_unders yX0_unders, Cond.code yX0_unders cX0_unders 2 (some .int), Cond.methodLink RX0 68 yX0_overs, Cond.methodLink RX0 72 yX0_belowsUnder, Cond.instanceMethod yX0_belowsUnder, Cond.selects RX0 yX0_belowsUnder yX0_belowsUnder, Cond.code yX0_belowsUnder cX0_belowsUnder 4 (some .int), Cond.fieldLink RX0 25 "WallMarks$Counted" "belows" "I", Cond.fieldLink RX0 18 "WallMarks$Counted" "belowLevels" "[I", Cond.methodLink RX6 149 yX0_darks]
def wsX6_over_r2 : List Cond := [Cond.instanceMethod yX0_darks, Cond.selects RX0 yX0_darks yX0_darks, Cond.code yX0_darks cX0_darks 2 (some .int), Cond.fieldLink RX0 28 "WallMarks$Counted" "opens" "I"]
def wsX6_over : List Cond := .code yX6_over cX6_over 3 (some .int) :: ((wsX6_over_r1 ++ wsX6_over_r2) ++ wsX60 ++ wsX00)
def wsX6_longRefusal : List Cond := .code yX6_longRefusal cX6_longRefusal 1 (some .long) :: ([.constantLong RX6 368 (-9223372036854775808)])
def wsX6_commonDivisor : List Cond := .code yX6_commonDivisor cX6_commonDivisor 11 (some .long) :: ([])
def wsX6_fraction : List Cond := .code yX6_fraction cX6_fraction 7 (some .long) :: ([.methodLink RX6 390 Lib.MathLoose.abs_long.x, .static Lib.MathLoose.abs_long.x, .initialized "java/lang/Math", .code Lib.MathLoose.abs_long.x Lib.MathLoose.abs_long.code 2 (some .long), .methodLink RX6 394 yX6_commonDivisor, .static yX6_commonDivisor, .initialized RX6, .code yX6_commonDivisor cX6_commonDivisor 11 (some .long)])
def wsX6_rare_r1 : List Cond := [Cond.fieldLink RX6 33 "WallMarks" "counted" "LWallMarks$Counted;", Cond.methodLink RX6 120 yX6_isLevel, Cond.static yX6_isLevel, Cond.initialized RX6, Cond.code yX6_isLevel cX6_isLevel 1 (some .boolean), Cond.methodLink RX6 134 yX6_isEither, Cond.static yX6_isEither, Cond.code yX6_isEither cX6_isEither 1 (some .boolean), Cond.methodLink RX6 152 yX6_longRefusal, Cond.static yX6_longRefusal, Cond.code yX6_longRefusal cX6_longRefusal 1 (some .long), Cond.constantLong RX6 368 (-9223372036854775808), Cond.methodLink RX6 143 yX0_overs, Cond.instanceMethod yX0_overs, Cond.selects RX0 yX0_overs yX0_overs, Cond.initialized RX0, Cond.code yX0_overs cX0_overs 4 (some .int), Cond.fieldLink RX0 21 "WallMarks$Counted" "exacts" "I", Cond.fieldLink RX0 15 "WallMarks$Counted" "exactLevels" "[I", Cond.methodLink RX6 156 yX0_rareBelow, Cond.instanceMethod yX0_rareBelow, Cond.selects RX0 yX0_rareBelow yX0_rareBelow, Cond.code yX0_rareBelow cX0_rareBelow 2 (some .int), Cond.methodLink RX0 72 yX0_belowsUnder]
def wsX6_rare_r2 : List Cond := [Cond.instanceMethod yX0_belowsUnder, Cond.selects RX0 yX0_belowsUnder yX0_belowsUnder, Cond.code yX0_belowsUnder cX0_belowsUnder 4 (some .int), Cond.fieldLink RX0 25 "WallMarks$Counted" "belows" "I", Cond.fieldLink RX0 18 "WallMarks$Counted" "belowLevels" "[I", Cond.methodLink RX6 159 yX6_fraction, Cond.static yX6_fraction, Cond.code yX6_fraction cX6_fraction 7 (some .long), Cond.methodLink RX6 390 Lib.MathLoose.abs_long.x, Cond.static Lib.MathLoose.abs_long.x, Cond.initialized "java/lang/Math", Cond.code Lib.MathLoose.abs_long.x Lib.MathLoose.abs_long.code 2 (some .long), Cond.methodLink RX6 394 yX6_commonDivisor, Cond.static yX6_commonDivisor, Cond.code yX6_commonDivisor cX6_commonDivisor 11 (some .long), Cond.methodLink RX6 163 yX0_all, Cond.instanceMethod yX0_all, Cond.selects RX0 yX0_all yX0_all, Cond.code yX0_all cX0_all 1 (some .int), Cond.fieldLink RX0 28 "WallMarks$Counted" "opens" "I", Cond.methodLink RX6 149 yX0_darks, Cond.instanceMethod yX0_darks, Cond.selects RX0 yX0_darks yX0_darks, Cond.code yX0_darks cX0_darks 2 (some .int)]
def wsX6_rare : List Cond := .code yX6_rare cX6_rare 5 (some .long) :: ((wsX6_rare_r1 ++ wsX6_rare_r2) ++ wsX60 ++ wsX00)
def wsX6_isHundredths : List Cond := .code yX6_isHundredths cX6_isHundredths 1 (some .boolean) :: ([])
def wsX6_soRare : List Cond := .code yX6_soRare cX6_soRare 5 (some .int) :: ([.fieldLink RX6 33 "WallMarks" "counted" "LWallMarks$Counted;", .fieldLink RX6 170 "WallMarks$Counted" "exacts" "I", .fieldLink RX6 173 "WallMarks$Counted" "exactLevels" "[I", .methodLink RX6 167 yX6_isHundredths, .static yX6_isHundredths, .initialized RX6, .code yX6_isHundredths cX6_isHundredths 1 (some .boolean), .methodLink RX6 143 yX0_overs, .instanceMethod yX0_overs, .selects RX0 yX0_overs yX0_overs, .initialized RX0, .code yX0_overs cX0_overs 4 (some .int), .fieldLink RX0 21 "WallMarks$Counted" "exacts" "I", .fieldLink RX0 15 "WallMarks$Counted" "exactLevels" "[I", .methodLink RX6 156 yX0_rareBelow, .instanceMethod yX0_rareBelow, .selects RX0 yX0_rareBelow yX0_rareBelow, .code yX0_rareBelow cX0_rareBelow 2 (some .int), .methodLink RX0 72 yX0_belowsUnder, .instanceMethod yX0_belowsUnder, .selects RX0 yX0_belowsUnder yX0_belowsUnder, .code yX0_belowsUnder cX0_belowsUnder 4 (some .int), .fieldLink RX0 25 "WallMarks$Counted" "belows" "I", .fieldLink RX0 18 "WallMarks$Counted" "belowLevels" "[I"] ++ wsX60 ++ wsX00)
def wsX6_counts : List Cond := .code yX6_counts cX6_counts 2 (some .boolean) :: ([.fieldLink RX6 46 "WallMarks" "settings" "[I"] ++ wsX60)
def wsX6_rank : List Cond := .code yX6_rank cX6_rank 2 (some .int) :: ([.fieldLink RX6 26 "WallMarks" "knowledge" "LWallMarks$Known;", .fieldLink RX6 137 "WallMarks$Known" "kinds" "[I", .fieldLink RX6 33 "WallMarks" "counted" "LWallMarks$Counted;", .fieldLink RX6 140 "WallMarks$Known" "levels" "[I", .methodLink RX6 83 yX6_isYear, .static yX6_isYear, .initialized RX6, .code yX6_isYear cX6_isYear 1 (some .boolean), .methodLink RX6 176 yX6_counts, .instanceMethod yX6_counts, .selects RX6 yX6_counts yX6_counts, .code yX6_counts cX6_counts 2 (some .boolean), .fieldLink RX6 46 "WallMarks" "settings" "[I", .methodLink RX6 143 yX0_overs, .instanceMethod yX0_overs, .selects RX0 yX0_overs yX0_overs, .initialized RX0, .code yX0_overs cX0_overs 4 (some .int), .fieldLink RX0 21 "WallMarks$Counted" "exacts" "I", .fieldLink RX0 15 "WallMarks$Counted" "exactLevels" "[I"] ++ wsX60 ++ wsX20 ++ wsX00)
def wsX6_isSixteenths : List Cond := .code yX6_isSixteenths cX6_isSixteenths 1 (some .boolean) :: ([])
def wsX6_choices : List Cond := .code yX6_choices cX6_choices 5 (some .long) :: ([])
def wsX6_power : List Cond := .code yX6_power cX6_power 6 (some .long) :: ([])
def wsX6_timesOver : List Cond := .code yX6_timesOver cX6_timesOver 7 (some .long) :: ([.methodLink RX6 196 yX6_choices, .static yX6_choices, .initialized RX6, .code yX6_choices cX6_choices 5 (some .long), .methodLink RX6 188 yX6_power, .static yX6_power, .code yX6_power cX6_power 6 (some .long)])
def wsX6_again_r1 : List Cond := [Cond.constantLong RX6 186 (16), Cond.methodLink RX6 179 yX6_isSixteenths, Cond.static yX6_isSixteenths, Cond.initialized RX6, Cond.code yX6_isSixteenths cX6_isSixteenths 1 (some .boolean), Cond.methodLink RX6 134 yX6_isEither, Cond.static yX6_isEither, Cond.code yX6_isEither cX6_isEither 1 (some .boolean), Cond.methodLink RX6 152 yX6_longRefusal, Cond.static yX6_longRefusal, Cond.code yX6_longRefusal cX6_longRefusal 1 (some .long), Cond.constantLong RX6 368 (-9223372036854775808), Cond.methodLink RX6 182 yX6_timesOver, Cond.static yX6_timesOver, Cond.code yX6_timesOver cX6_timesOver 7 (some .long), Cond.methodLink RX6 196 yX6_choices, Cond.static yX6_choices, Cond.code yX6_choices cX6_choices 5 (some .long), Cond.methodLink RX6 188 yX6_power, Cond.static yX6_power, Cond.code yX6_power cX6_power 6 (some .long), Cond.methodLink RX6 159 yX6_fraction, Cond.static yX6_fraction, Cond.code yX6_fraction cX6_fraction 7 (some .long)]
def wsX6_again_r2 : List Cond := [Cond.methodLink RX6 390 Lib.MathLoose.abs_long.x, Cond.static Lib.MathLoose.abs_long.x, Cond.initialized "java/lang/Math", Cond.code Lib.MathLoose.abs_long.x Lib.MathLoose.abs_long.code 2 (some .long), Cond.methodLink RX6 394 yX6_commonDivisor, Cond.static yX6_commonDivisor, Cond.code yX6_commonDivisor cX6_commonDivisor 11 (some .long)]
def wsX6_again : List Cond := .code yX6_again cX6_again 5 (some .long) :: ((wsX6_again_r1 ++ wsX6_again_r2))
def wsX6_staysWithin : List Cond := .code yX6_staysWithin cX6_staysWithin 5 (some .boolean) :: ([.constantLong RX6 186 (16), .methodLink RX6 188 yX6_power, .static yX6_power, .initialized RX6, .code yX6_power cX6_power 6 (some .long)])
def wsX6_lasts : List Cond := .code yX6_lasts cX6_lasts 5 (some .int) :: ([.methodLink RX6 179 yX6_isSixteenths, .static yX6_isSixteenths, .initialized RX6, .code yX6_isSixteenths cX6_isSixteenths 1 (some .boolean), .methodLink RX6 192 yX6_staysWithin, .static yX6_staysWithin, .code yX6_staysWithin cX6_staysWithin 5 (some .boolean), .constantLong RX6 186 (16), .methodLink RX6 188 yX6_power, .static yX6_power, .code yX6_power cX6_power 6 (some .long)])
def wsX6_next : List Cond := .code yX6_next cX6_next 8 (some .long) :: ([.fieldLink RX6 33 "WallMarks" "counted" "LWallMarks$Counted;", .fieldLink RX6 170 "WallMarks$Counted" "exacts" "I", .methodLink RX6 134 yX6_isEither, .static yX6_isEither, .initialized RX6, .code yX6_isEither cX6_isEither 1 (some .boolean), .methodLink RX6 152 yX6_longRefusal, .static yX6_longRefusal, .code yX6_longRefusal cX6_longRefusal 1 (some .long), .constantLong RX6 368 (-9223372036854775808), .methodLink RX6 196 yX6_choices, .static yX6_choices, .code yX6_choices cX6_choices 5 (some .long), .methodLink RX6 159 yX6_fraction, .static yX6_fraction, .code yX6_fraction cX6_fraction 7 (some .long), .methodLink RX6 390 Lib.MathLoose.abs_long.x, .static Lib.MathLoose.abs_long.x, .initialized "java/lang/Math", .code Lib.MathLoose.abs_long.x Lib.MathLoose.abs_long.code 2 (some .long), .methodLink RX6 394 yX6_commonDivisor, .static yX6_commonDivisor, .code yX6_commonDivisor cX6_commonDivisor 11 (some .long)] ++ wsX60 ++ wsX00)
def wsX6_between_r1 : List Cond := [Cond.fieldLink RX6 33 "WallMarks" "counted" "LWallMarks$Counted;", Cond.fieldLink RX6 170 "WallMarks$Counted" "exacts" "I", Cond.constantLong RX6 186 (16), Cond.methodLink RX6 179 yX6_isSixteenths, Cond.static yX6_isSixteenths, Cond.initialized RX6, Cond.code yX6_isSixteenths cX6_isSixteenths 1 (some .boolean), Cond.methodLink RX6 134 yX6_isEither, Cond.static yX6_isEither, Cond.code yX6_isEither cX6_isEither 1 (some .boolean), Cond.methodLink RX6 152 yX6_longRefusal, Cond.static yX6_longRefusal, Cond.code yX6_longRefusal cX6_longRefusal 1 (some .long), Cond.constantLong RX6 368 (-9223372036854775808), Cond.methodLink RX6 182 yX6_timesOver, Cond.static yX6_timesOver, Cond.code yX6_timesOver cX6_timesOver 7 (some .long), Cond.methodLink RX6 196 yX6_choices, Cond.static yX6_choices, Cond.code yX6_choices cX6_choices 5 (some .long), Cond.methodLink RX6 188 yX6_power, Cond.static yX6_power, Cond.code yX6_power cX6_power 6 (some .long), Cond.methodLink RX6 159 yX6_fraction]
def wsX6_between_r2 : List Cond := [Cond.static yX6_fraction, Cond.code yX6_fraction cX6_fraction 7 (some .long), Cond.methodLink RX6 390 Lib.MathLoose.abs_long.x, Cond.static Lib.MathLoose.abs_long.x, Cond.initialized "java/lang/Math", Cond.code Lib.MathLoose.abs_long.x Lib.MathLoose.abs_long.code 2 (some .long), Cond.methodLink RX6 394 yX6_commonDivisor, Cond.static yX6_commonDivisor, Cond.code yX6_commonDivisor cX6_commonDivisor 11 (some .long)]
def wsX6_between : List Cond := .code yX6_between cX6_between 6 (some .long) :: ((wsX6_between_r1 ++ wsX6_between_r2) ++ wsX60 ++ wsX00)
def wsJ7_fill_d0a16 : List Cond := .code yJ7_fill_d0a16 cJ7_fill_d0a16 5 none :: ([])
def wsX6_orderByRecords : List Cond := .code yX6_orderByRecords cX6_orderByRecords 4 none :: ([.fieldLink RX6 72 "WallMarks" "orders" "[J", .methodLink RX6 404 yJ7_fill_d0a16, .static yJ7_fill_d0a16, .initialized RJ7, .code yJ7_fill_d0a16 cJ7_fill_d0a16 5 none] ++ wsX60)
def wsX6_should : List Cond := .code yX6_should cX6_should 7 (some .int) :: ([.fieldLink RX6 33 "WallMarks" "counted" "LWallMarks$Counted;", .fieldLink RX6 170 "WallMarks$Counted" "exacts" "I", .fieldLink RX6 72 "WallMarks" "orders" "[J", .fieldLink RX6 203 "WallMarks$Counted" "records" "I", .constantLong RX6 402 (1000000), .methodLink RX6 399 yX6_orderByRecords, .instanceMethod yX6_orderByRecords, .selects RX6 yX6_orderByRecords yX6_orderByRecords, .initialized RX6, .code yX6_orderByRecords cX6_orderByRecords 4 none, .methodLink RX6 404 yJ7_fill_d0a16, .static yJ7_fill_d0a16, .initialized RJ7, .code yJ7_fill_d0a16 cJ7_fill_d0a16 5 none] ++ wsX60 ++ wsX00)
def wsX6_records : List Cond := .code yX6_records cX6_records 2 (some .int) :: ([.fieldLink RX6 33 "WallMarks" "counted" "LWallMarks$Counted;", .fieldLink RX6 170 "WallMarks$Counted" "exacts" "I", .fieldLink RX6 203 "WallMarks$Counted" "records" "I", .fieldLink RX6 206 "WallMarks$Counted" "lastRecord" "I", .fieldLink RX6 209 "WallMarks$Counted" "longestWait" "I", .methodLink RX6 200 yX6_should, .instanceMethod yX6_should, .selects RX6 yX6_should yX6_should, .initialized RX6, .code yX6_should cX6_should 7 (some .int), .fieldLink RX6 72 "WallMarks" "orders" "[J", .constantLong RX6 402 (1000000), .methodLink RX6 399 yX6_orderByRecords, .instanceMethod yX6_orderByRecords, .selects RX6 yX6_orderByRecords yX6_orderByRecords, .code yX6_orderByRecords cX6_orderByRecords 4 none, .methodLink RX6 404 yJ7_fill_d0a16, .static yJ7_fill_d0a16, .initialized RJ7, .code yJ7_fill_d0a16 cJ7_fill_d0a16 5 none] ++ wsX60 ++ wsX00)
def wsX6_direction : List Cond := .code yX6_direction cX6_direction 2 (some .int) :: ([])
def wsX6_rises : List Cond := .code yX6_rises cX6_rises 4 (some .int) :: ([.fieldLink RX6 33 "WallMarks" "counted" "LWallMarks$Counted;", .fieldLink RX6 170 "WallMarks$Counted" "exacts" "I", .fieldLink RX6 173 "WallMarks$Counted" "exactLevels" "[I", .methodLink RX6 212 yX6_direction, .static yX6_direction, .initialized RX6, .code yX6_direction cX6_direction 2 (some .int)] ++ wsX60 ++ wsX00)
def wsX6_change_r1 : List Cond := [Cond.fieldLink RX6 33 "WallMarks" "counted" "LWallMarks$Counted;", Cond.methodLink RX6 83 yX6_isYear, Cond.static yX6_isYear, Cond.initialized RX6, Cond.code yX6_isYear cX6_isYear 1 (some .boolean), Cond.methodLink RX6 134 yX6_isEither, Cond.static yX6_isEither, Cond.code yX6_isEither cX6_isEither 1 (some .boolean), Cond.methodLink RX6 152 yX6_longRefusal, Cond.static yX6_longRefusal, Cond.code yX6_longRefusal cX6_longRefusal 1 (some .long), Cond.constantLong RX6 368 (-9223372036854775808), Cond.methodLink RX6 216 yX0_meansBelow, Cond.instanceMethod yX0_meansBelow, Cond.selects RX0 yX0_meansBelow yX0_meansBelow, Cond.initialized RX0, Cond.code yX0_meansBelow cX0_meansBelow 3 (some .long), Cond.fieldLink RX0 21 "WallMarks$Counted" "exacts" "I", Cond.methodLink RX0 79 yX0_exactsAhead, Cond.instanceMethod yX0_exactsAhead, Cond.selects RX0 yX0_exactsAhead yX0_exactsAhead, Cond.code yX0_exactsAhead cX0_exactsAhead 4 (some .int), Cond.fieldLink RX0 9 "WallMarks$Counted" "exactYears" "[I", Cond.methodLink RX6 219 yX0_meansAbove]
def wsX6_change_r2 : List Cond := [Cond.instanceMethod yX0_meansAbove, Cond.selects RX0 yX0_meansAbove yX0_meansAbove, Cond.code yX0_meansAbove cX0_meansAbove 2 (some .long), Cond.methodLink RX0 82 yX0_sumAhead, Cond.instanceMethod yX0_sumAhead, Cond.selects RX0 yX0_sumAhead yX0_sumAhead, Cond.code yX0_sumAhead cX0_sumAhead 4 (some .int), Cond.fieldLink RX0 15 "WallMarks$Counted" "exactLevels" "[I", Cond.methodLink RX0 85 yX0_meansApart, Cond.instanceMethod yX0_meansApart, Cond.selects RX0 yX0_meansApart yX0_meansApart, Cond.code yX0_meansApart cX0_meansApart 3 (some .long), Cond.fieldLink RX0 31 "WallMarks$Counted" "exactSum" "I", Cond.methodLink RX6 159 yX6_fraction, Cond.static yX6_fraction, Cond.code yX6_fraction cX6_fraction 7 (some .long), Cond.methodLink RX6 390 Lib.MathLoose.abs_long.x, Cond.static Lib.MathLoose.abs_long.x, Cond.initialized "java/lang/Math", Cond.code Lib.MathLoose.abs_long.x Lib.MathLoose.abs_long.code 2 (some .long), Cond.methodLink RX6 394 yX6_commonDivisor, Cond.static yX6_commonDivisor, Cond.code yX6_commonDivisor cX6_commonDivisor 11 (some .long)]
def wsX6_change : List Cond := .code yX6_change cX6_change 5 (some .long) :: ((wsX6_change_r1 ++ wsX6_change_r2) ++ wsX60 ++ wsX00)
def wsX6_greatestChange_r1 : List Cond := [Cond.fieldLink RX6 33 "WallMarks" "counted" "LWallMarks$Counted;", Cond.methodLink RX6 390 Lib.MathLoose.abs_long.x, Cond.static Lib.MathLoose.abs_long.x, Cond.initialized "java/lang/Math", Cond.code Lib.MathLoose.abs_long.x Lib.MathLoose.abs_long.code 2 (some .long), Cond.methodLink RX6 216 yX0_meansBelow, Cond.instanceMethod yX0_meansBelow, Cond.selects RX0 yX0_meansBelow yX0_meansBelow, Cond.initialized RX0, Cond.code yX0_meansBelow cX0_meansBelow 3 (some .long), Cond.fieldLink RX0 21 "WallMarks$Counted" "exacts" "I", Cond.methodLink RX0 79 yX0_exactsAhead, Cond.instanceMethod yX0_exactsAhead, Cond.selects RX0 yX0_exactsAhead yX0_exactsAhead, Cond.code yX0_exactsAhead cX0_exactsAhead 4 (some .int), Cond.fieldLink RX0 9 "WallMarks$Counted" "exactYears" "[I", Cond.methodLink RX6 219 yX0_meansAbove, Cond.instanceMethod yX0_meansAbove, Cond.selects RX0 yX0_meansAbove yX0_meansAbove, Cond.code yX0_meansAbove cX0_meansAbove 2 (some .long), Cond.methodLink RX0 82 yX0_sumAhead, Cond.instanceMethod yX0_sumAhead, Cond.selects RX0 yX0_sumAhead yX0_sumAhead, Cond.code yX0_sumAhead cX0_sumAhead 4 (some .int)]
def wsX6_greatestChange_r2 : List Cond := [Cond.fieldLink RX0 15 "WallMarks$Counted" "exactLevels" "[I", Cond.methodLink RX0 85 yX0_meansApart, Cond.instanceMethod yX0_meansApart, Cond.selects RX0 yX0_meansApart yX0_meansApart, Cond.code yX0_meansApart cX0_meansApart 3 (some .long), Cond.fieldLink RX0 31 "WallMarks$Counted" "exactSum" "I"]
def wsX6_greatestChange : List Cond := .code yX6_greatestChange cX6_greatestChange 11 (some .int) :: ((wsX6_greatestChange_r1 ++ wsX6_greatestChange_r2) ++ wsX60 ++ wsX00)
def wsX6_farChoices : List Cond := .code yX6_farChoices cX6_farChoices 7 (some .long) :: ([.methodLink RX6 390 Lib.MathLoose.abs_long.x, .static Lib.MathLoose.abs_long.x, .initialized "java/lang/Math", .code Lib.MathLoose.abs_long.x Lib.MathLoose.abs_long.code 2 (some .long), .fieldLink RX6 170 "WallMarks$Counted" "exacts" "I", .fieldLink RX6 173 "WallMarks$Counted" "exactLevels" "[I", .methodLink RX6 414 yX0_meansApart, .instanceMethod yX0_meansApart, .selects RX0 yX0_meansApart yX0_meansApart, .initialized RX0, .code yX0_meansApart cX0_meansApart 3 (some .long), .fieldLink RX0 31 "WallMarks$Counted" "exactSum" "I", .fieldLink RX0 21 "WallMarks$Counted" "exacts" "I", .methodLink RX6 410 yX6_farChoices, .static yX6_farChoices, .initialized RX6] ++ wsX00)
def wsX6_howLikely_r1 : List Cond := [Cond.fieldLink RX6 33 "WallMarks" "counted" "LWallMarks$Counted;", Cond.methodLink RX6 390 Lib.MathLoose.abs_long.x, Cond.static Lib.MathLoose.abs_long.x, Cond.initialized "java/lang/Math", Cond.code Lib.MathLoose.abs_long.x Lib.MathLoose.abs_long.code 2 (some .long), Cond.fieldLink RX6 170 "WallMarks$Counted" "exacts" "I", Cond.constantLong RX6 402 (1000000), Cond.methodLink RX6 407 yX0_exactsAhead, Cond.instanceMethod yX0_exactsAhead, Cond.selects RX0 yX0_exactsAhead yX0_exactsAhead, Cond.initialized RX0, Cond.code yX0_exactsAhead cX0_exactsAhead 4 (some .int), Cond.fieldLink RX0 21 "WallMarks$Counted" "exacts" "I", Cond.fieldLink RX0 9 "WallMarks$Counted" "exactYears" "[I", Cond.methodLink RX6 219 yX0_meansAbove, Cond.instanceMethod yX0_meansAbove, Cond.selects RX0 yX0_meansAbove yX0_meansAbove, Cond.code yX0_meansAbove cX0_meansAbove 2 (some .long), Cond.methodLink RX0 79 yX0_exactsAhead, Cond.methodLink RX0 82 yX0_sumAhead, Cond.instanceMethod yX0_sumAhead, Cond.selects RX0 yX0_sumAhead yX0_sumAhead, Cond.code yX0_sumAhead cX0_sumAhead 4 (some .int), Cond.fieldLink RX0 15 "WallMarks$Counted" "exactLevels" "[I"]
def wsX6_howLikely_r2 : List Cond := [Cond.methodLink RX0 85 yX0_meansApart, Cond.instanceMethod yX0_meansApart, Cond.selects RX0 yX0_meansApart yX0_meansApart, Cond.code yX0_meansApart cX0_meansApart 3 (some .long), Cond.fieldLink RX0 31 "WallMarks$Counted" "exactSum" "I", Cond.methodLink RX6 196 yX6_choices, Cond.static yX6_choices, Cond.initialized RX6, Cond.code yX6_choices cX6_choices 5 (some .long), Cond.methodLink RX6 410 yX6_farChoices, Cond.static yX6_farChoices, Cond.code yX6_farChoices cX6_farChoices 7 (some .long), Cond.fieldLink RX6 173 "WallMarks$Counted" "exactLevels" "[I", Cond.methodLink RX6 414 yX0_meansApart]
def wsX6_howLikely : List Cond := .code yX6_howLikely cX6_howLikely 7 (some .int) :: ((wsX6_howLikely_r1 ++ wsX6_howLikely_r2) ++ wsX60 ++ wsX00)
def wsX6_changed_r1 : List Cond := [Cond.fieldLink RX6 33 "WallMarks" "counted" "LWallMarks$Counted;", Cond.fieldLink RX6 170 "WallMarks$Counted" "exacts" "I", Cond.methodLink RX6 134 yX6_isEither, Cond.static yX6_isEither, Cond.initialized RX6, Cond.code yX6_isEither cX6_isEither 1 (some .boolean), Cond.methodLink RX6 222 yX6_greatestChange, Cond.instanceMethod yX6_greatestChange, Cond.selects RX6 yX6_greatestChange yX6_greatestChange, Cond.code yX6_greatestChange cX6_greatestChange 11 (some .int), Cond.methodLink RX6 390 Lib.MathLoose.abs_long.x, Cond.static Lib.MathLoose.abs_long.x, Cond.initialized "java/lang/Math", Cond.code Lib.MathLoose.abs_long.x Lib.MathLoose.abs_long.code 2 (some .long), Cond.methodLink RX6 216 yX0_meansBelow, Cond.instanceMethod yX0_meansBelow, Cond.selects RX0 yX0_meansBelow yX0_meansBelow, Cond.initialized RX0, Cond.code yX0_meansBelow cX0_meansBelow 3 (some .long), Cond.fieldLink RX0 21 "WallMarks$Counted" "exacts" "I", Cond.methodLink RX0 79 yX0_exactsAhead, Cond.instanceMethod yX0_exactsAhead, Cond.selects RX0 yX0_exactsAhead yX0_exactsAhead, Cond.code yX0_exactsAhead cX0_exactsAhead 4 (some .int)]
def wsX6_changed_r2 : List Cond := [Cond.fieldLink RX0 9 "WallMarks$Counted" "exactYears" "[I", Cond.methodLink RX6 219 yX0_meansAbove, Cond.instanceMethod yX0_meansAbove, Cond.selects RX0 yX0_meansAbove yX0_meansAbove, Cond.code yX0_meansAbove cX0_meansAbove 2 (some .long), Cond.methodLink RX0 82 yX0_sumAhead, Cond.instanceMethod yX0_sumAhead, Cond.selects RX0 yX0_sumAhead yX0_sumAhead, Cond.code yX0_sumAhead cX0_sumAhead 4 (some .int), Cond.fieldLink RX0 15 "WallMarks$Counted" "exactLevels" "[I", Cond.methodLink RX0 85 yX0_meansApart, Cond.instanceMethod yX0_meansApart, Cond.selects RX0 yX0_meansApart yX0_meansApart, Cond.code yX0_meansApart cX0_meansApart 3 (some .long), Cond.fieldLink RX0 31 "WallMarks$Counted" "exactSum" "I", Cond.methodLink RX6 225 yX6_howLikely, Cond.instanceMethod yX6_howLikely, Cond.selects RX6 yX6_howLikely yX6_howLikely, Cond.code yX6_howLikely cX6_howLikely 7 (some .int), Cond.constantLong RX6 402 (1000000), Cond.methodLink RX6 407 yX0_exactsAhead, Cond.methodLink RX6 196 yX6_choices, Cond.static yX6_choices, Cond.code yX6_choices cX6_choices 5 (some .long)]
def wsX6_changed_r3 : List Cond := [Cond.methodLink RX6 410 yX6_farChoices, Cond.static yX6_farChoices, Cond.code yX6_farChoices cX6_farChoices 7 (some .long), Cond.fieldLink RX6 173 "WallMarks$Counted" "exactLevels" "[I", Cond.methodLink RX6 414 yX0_meansApart]
def wsX6_changed : List Cond := .code yX6_changed cX6_changed 3 (some .int) :: ((wsX6_changed_r1 ++ (wsX6_changed_r2 ++ wsX6_changed_r3)) ++ wsX60 ++ wsX00)
def wsX6_sister : List Cond := .code yX6_sister cX6_sister 4 (some .int) :: ([.fieldLink RX6 49 "WallMarks" "sisterLevels" "[I", .methodLink RX6 83 yX6_isYear, .static yX6_isYear, .initialized RX6, .code yX6_isYear cX6_isYear 1 (some .boolean), .methodLink RX6 120 yX6_isLevel, .static yX6_isLevel, .code yX6_isLevel cX6_isLevel 1 (some .boolean)] ++ wsX60)
def wsX6_sisterOf : List Cond := .code yX6_sisterOf cX6_sisterOf 2 (some .int) :: ([.fieldLink RX6 49 "WallMarks" "sisterLevels" "[I", .fieldLink RX6 33 "WallMarks" "counted" "LWallMarks$Counted;", .fieldLink RX6 417 "WallMarks$Counted" "exactYears" "[I"] ++ wsX60 ++ wsX00)
def wsX6_commonYears : List Cond := .code yX6_commonYears cX6_commonYears 3 (some .int) :: ([.fieldLink RX6 33 "WallMarks" "counted" "LWallMarks$Counted;", .fieldLink RX6 170 "WallMarks$Counted" "exacts" "I", .methodLink RX6 420 yX6_sisterOf, .instanceMethod yX6_sisterOf, .selects RX6 yX6_sisterOf yX6_sisterOf, .initialized RX6, .code yX6_sisterOf cX6_sisterOf 2 (some .int), .fieldLink RX6 49 "WallMarks" "sisterLevels" "[I", .fieldLink RX6 417 "WallMarks$Counted" "exactYears" "[I"] ++ wsX60 ++ wsX00)
def wsX6_tie : List Cond := .code yX6_tie cX6_tie 3 (some .int) :: ([.fieldLink RX6 33 "WallMarks" "counted" "LWallMarks$Counted;", .fieldLink RX6 173 "WallMarks$Counted" "exactLevels" "[I", .methodLink RX6 420 yX6_sisterOf, .instanceMethod yX6_sisterOf, .selects RX6 yX6_sisterOf yX6_sisterOf, .initialized RX6, .code yX6_sisterOf cX6_sisterOf 2 (some .int), .fieldLink RX6 49 "WallMarks" "sisterLevels" "[I", .fieldLink RX6 417 "WallMarks$Counted" "exactYears" "[I", .methodLink RX6 212 yX6_direction, .static yX6_direction, .code yX6_direction cX6_direction 2 (some .int)] ++ wsX60 ++ wsX00)
def wsX6_ties : List Cond := .code yX6_ties cX6_ties 4 (some .int) :: ([.fieldLink RX6 33 "WallMarks" "counted" "LWallMarks$Counted;", .fieldLink RX6 170 "WallMarks$Counted" "exacts" "I", .methodLink RX6 423 yX6_tie, .instanceMethod yX6_tie, .selects RX6 yX6_tie yX6_tie, .initialized RX6, .code yX6_tie cX6_tie 3 (some .int), .fieldLink RX6 173 "WallMarks$Counted" "exactLevels" "[I", .methodLink RX6 420 yX6_sisterOf, .instanceMethod yX6_sisterOf, .selects RX6 yX6_sisterOf yX6_sisterOf, .code yX6_sisterOf cX6_sisterOf 2 (some .int), .fieldLink RX6 49 "WallMarks" "sisterLevels" "[I", .fieldLink RX6 417 "WallMarks$Counted" "exactYears" "[I", .methodLink RX6 212 yX6_direction, .static yX6_direction, .code yX6_direction cX6_direction 2 (some .int)] ++ wsX60 ++ wsX00)
def wsX6_common_r1 : List Cond := [Cond.methodLink RX6 134 yX6_isEither, Cond.static yX6_isEither, Cond.initialized RX6, Cond.code yX6_isEither cX6_isEither 1 (some .boolean), Cond.methodLink RX6 228 yX6_commonYears, Cond.instanceMethod yX6_commonYears, Cond.selects RX6 yX6_commonYears yX6_commonYears, Cond.code yX6_commonYears cX6_commonYears 3 (some .int), Cond.fieldLink RX6 33 "WallMarks" "counted" "LWallMarks$Counted;", Cond.fieldLink RX6 170 "WallMarks$Counted" "exacts" "I", Cond.methodLink RX6 420 yX6_sisterOf, Cond.instanceMethod yX6_sisterOf, Cond.selects RX6 yX6_sisterOf yX6_sisterOf, Cond.code yX6_sisterOf cX6_sisterOf 2 (some .int), Cond.fieldLink RX6 49 "WallMarks" "sisterLevels" "[I", Cond.fieldLink RX6 417 "WallMarks$Counted" "exactYears" "[I", Cond.methodLink RX6 231 yX6_ties, Cond.instanceMethod yX6_ties, Cond.selects RX6 yX6_ties yX6_ties, Cond.code yX6_ties cX6_ties 4 (some .int), Cond.methodLink RX6 423 yX6_tie, Cond.instanceMethod yX6_tie, Cond.selects RX6 yX6_tie yX6_tie, Cond.code yX6_tie cX6_tie 3 (some .int)]
def wsX6_common_r2 : List Cond := [Cond.fieldLink RX6 173 "WallMarks$Counted" "exactLevels" "[I", Cond.methodLink RX6 212 yX6_direction, Cond.static yX6_direction, Cond.code yX6_direction cX6_direction 2 (some .int)]
def wsX6_common : List Cond := .code yX6_common cX6_common 2 (some .int) :: ((wsX6_common_r1 ++ wsX6_common_r2) ++ wsX60 ++ wsX00)
def wsX6_filledBySums : List Cond := .code yX6_filledBySums cX6_filledBySums 5 (some .int) :: ([.fieldLink RX6 33 "WallMarks" "counted" "LWallMarks$Counted;", .fieldLink RX6 170 "WallMarks$Counted" "exacts" "I", .fieldLink RX6 173 "WallMarks$Counted" "exactLevels" "[I", .methodLink RX6 420 yX6_sisterOf, .instanceMethod yX6_sisterOf, .selects RX6 yX6_sisterOf yX6_sisterOf, .initialized RX6, .code yX6_sisterOf cX6_sisterOf 2 (some .int), .fieldLink RX6 49 "WallMarks" "sisterLevels" "[I", .fieldLink RX6 417 "WallMarks$Counted" "exactYears" "[I"] ++ wsX60 ++ wsX00)
def wsX6_filledByOne : List Cond := .code yX6_filledByOne cX6_filledByOne 7 (some .int) :: ([.fieldLink RX6 33 "WallMarks" "counted" "LWallMarks$Counted;", .fieldLink RX6 170 "WallMarks$Counted" "exacts" "I", .fieldLink RX6 173 "WallMarks$Counted" "exactLevels" "[I", .methodLink RX6 420 yX6_sisterOf, .instanceMethod yX6_sisterOf, .selects RX6 yX6_sisterOf yX6_sisterOf, .initialized RX6, .code yX6_sisterOf cX6_sisterOf 2 (some .int), .fieldLink RX6 49 "WallMarks" "sisterLevels" "[I", .fieldLink RX6 417 "WallMarks$Counted" "exactYears" "[I"] ++ wsX60 ++ wsX00)
def wsX6_filled : List Cond := .code yX6_filled cX6_filled 4 (some .int) :: ([.fieldLink RX6 49 "WallMarks" "sisterLevels" "[I", .fieldLink RX6 26 "WallMarks" "knowledge" "LWallMarks$Known;", .fieldLink RX6 137 "WallMarks$Known" "kinds" "[I", .methodLink RX6 83 yX6_isYear, .static yX6_isYear, .initialized RX6, .code yX6_isYear cX6_isYear 1 (some .boolean), .methodLink RX6 234 yX6_filledBySums, .instanceMethod yX6_filledBySums, .selects RX6 yX6_filledBySums yX6_filledBySums, .code yX6_filledBySums cX6_filledBySums 5 (some .int), .fieldLink RX6 33 "WallMarks" "counted" "LWallMarks$Counted;", .fieldLink RX6 170 "WallMarks$Counted" "exacts" "I", .fieldLink RX6 173 "WallMarks$Counted" "exactLevels" "[I", .methodLink RX6 420 yX6_sisterOf, .instanceMethod yX6_sisterOf, .selects RX6 yX6_sisterOf yX6_sisterOf, .code yX6_sisterOf cX6_sisterOf 2 (some .int), .fieldLink RX6 417 "WallMarks$Counted" "exactYears" "[I", .methodLink RX6 237 yX6_filledByOne, .instanceMethod yX6_filledByOne, .selects RX6 yX6_filledByOne yX6_filledByOne, .code yX6_filledByOne cX6_filledByOne 7 (some .int)] ++ wsX60 ++ wsX20 ++ wsX00)
def wsX6_type : List Cond := .code yX6_type cX6_type 2 (some .int) :: ([.fieldLink RX6 61 "WallMarks" "flows" "LWallMarks$Flows;", .fieldLink RX6 245 "WallMarks$Flows" "size" "I", .methodLink RX6 241 yX1_hasRoom, .instanceMethod yX1_hasRoom, .selects RX1 yX1_hasRoom yX1_hasRoom, .initialized RX1, .code yX1_hasRoom cX1_hasRoom 1 (some .boolean), .fieldLink RX1 21 "WallMarks$Flows" "size" "I", .methodLink RX6 242 yX1_add, .instanceMethod yX1_add, .selects RX1 yX1_add yX1_add, .code yX1_add cX1_add 2 none, .fieldLink RX1 9 "WallMarks$Flows" "bytes" "[I", .methodLink RX1 31 yX1_hasRoom] ++ wsX60 ++ wsX10)
def wsX6_wipe : List Cond := .code yX6_wipe cX6_wipe 2 (some .int) :: ([.fieldLink RX6 61 "WallMarks" "flows" "LWallMarks$Flows;", .fieldLink RX6 245 "WallMarks$Flows" "size" "I"] ++ wsX60 ++ wsX10)
def wsX6_fault_r1 : List Cond := [Cond.fieldLink RX6 61 "WallMarks" "flows" "LWallMarks$Flows;", Cond.methodLink RX6 246 yX1_parse, Cond.instanceMethod yX1_parse, Cond.selects RX1 yX1_parse yX1_parse, Cond.initialized RX1, Cond.code yX1_parse cX1_parse 2 (some .int), Cond.fieldLink RX1 28 "WallMarks$Flows" "place" "I", Cond.fieldLink RX1 25 "WallMarks$Flows" "pairs" "I", Cond.fieldLink RX1 21 "WallMarks$Flows" "size" "I", Cond.methodLink RX1 35 yX1_passes, Cond.instanceMethod yX1_passes, Cond.selects RX1 yX1_passes yX1_passes, Cond.code yX1_passes cX1_passes 2 (some .boolean), Cond.fieldLink RX1 9 "WallMarks$Flows" "bytes" "[I", Cond.methodLink RX1 39 yX1_parsePair, Cond.instanceMethod yX1_parsePair, Cond.selects RX1 yX1_parsePair yX1_parsePair, Cond.code yX1_parsePair cX1_parsePair 4 (some .int), Cond.fieldLink RX1 15 "WallMarks$Flows" "levels" "[I", Cond.fieldLink RX1 18 "WallMarks$Flows" "amounts" "[I", Cond.methodLink RX1 43 yX1_parseNumber, Cond.instanceMethod yX1_parseNumber, Cond.selects RX1 yX1_parseNumber yX1_parseNumber, Cond.code yX1_parseNumber cX1_parseNumber 3 (some .int)]
def wsX6_fault_r2 : List Cond := [Cond.methodLink RX1 49 Lib.Math.max.name, Cond.static Lib.Math.max.name, Cond.initialized "java/lang/Math", Cond.code Lib.Math.max.name Lib.Math.max.code 2 (some .int), Cond.methodLink RX1 46 yX1_isFigure, Cond.instanceMethod yX1_isFigure, Cond.selects RX1 yX1_isFigure yX1_isFigure, Cond.code yX1_isFigure cX1_isFigure 1 (some .boolean)]
def wsX6_fault : List Cond := .code yX6_fault cX6_fault 1 (some .int) :: ((wsX6_fault_r1 ++ wsX6_fault_r2) ++ wsX60 ++ wsX10)
def wsX6_flow_r1 : List Cond := [Cond.fieldLink RX6 61 "WallMarks" "flows" "LWallMarks$Flows;", Cond.methodLink RX6 120 yX6_isLevel, Cond.static yX6_isLevel, Cond.initialized RX6, Cond.code yX6_isLevel cX6_isLevel 1 (some .boolean), Cond.methodLink RX6 134 yX6_isEither, Cond.static yX6_isEither, Cond.code yX6_isEither cX6_isEither 1 (some .boolean), Cond.methodLink RX6 152 yX6_longRefusal, Cond.static yX6_longRefusal, Cond.code yX6_longRefusal cX6_longRefusal 1 (some .long), Cond.constantLong RX6 368 (-9223372036854775808), Cond.methodLink RX6 246 yX1_parse, Cond.instanceMethod yX1_parse, Cond.selects RX1 yX1_parse yX1_parse, Cond.initialized RX1, Cond.code yX1_parse cX1_parse 2 (some .int), Cond.fieldLink RX1 28 "WallMarks$Flows" "place" "I", Cond.fieldLink RX1 25 "WallMarks$Flows" "pairs" "I", Cond.fieldLink RX1 21 "WallMarks$Flows" "size" "I", Cond.methodLink RX1 35 yX1_passes, Cond.instanceMethod yX1_passes, Cond.selects RX1 yX1_passes yX1_passes, Cond.code yX1_passes cX1_passes 2 (some .boolean)]
def wsX6_flow_r2 : List Cond := [Cond.fieldLink RX1 9 "WallMarks$Flows" "bytes" "[I", Cond.methodLink RX1 39 yX1_parsePair, Cond.instanceMethod yX1_parsePair, Cond.selects RX1 yX1_parsePair yX1_parsePair, Cond.code yX1_parsePair cX1_parsePair 4 (some .int), Cond.fieldLink RX1 15 "WallMarks$Flows" "levels" "[I", Cond.fieldLink RX1 18 "WallMarks$Flows" "amounts" "[I", Cond.methodLink RX1 43 yX1_parseNumber, Cond.instanceMethod yX1_parseNumber, Cond.selects RX1 yX1_parseNumber yX1_parseNumber, Cond.code yX1_parseNumber cX1_parseNumber 3 (some .int), Cond.methodLink RX1 49 Lib.Math.max.name, Cond.static Lib.Math.max.name, Cond.initialized "java/lang/Math", Cond.code Lib.Math.max.name Lib.Math.max.code 2 (some .int), Cond.methodLink RX1 46 yX1_isFigure, Cond.instanceMethod yX1_isFigure, Cond.selects RX1 yX1_isFigure yX1_isFigure, Cond.code yX1_isFigure cX1_isFigure 1 (some .boolean), Cond.methodLink RX6 249 yX1_pairBeside, Cond.instanceMethod yX1_pairBeside, Cond.selects RX1 yX1_pairBeside yX1_pairBeside, Cond.code yX1_pairBeside cX1_pairBeside 3 (some .int), Cond.methodLink RX6 252 yX1_lineAbove]
def wsX6_flow_r3 : List Cond := [Cond.instanceMethod yX1_lineAbove, Cond.selects RX1 yX1_lineAbove yX1_lineAbove, Cond.code yX1_lineAbove cX1_lineAbove 5 (some .long), Cond.methodLink RX1 59 Lib.MathLoose.max_long.x, Cond.static Lib.MathLoose.max_long.x, Cond.code Lib.MathLoose.max_long.x Lib.MathLoose.max_long.code 4 (some .long), Cond.methodLink RX1 55 yX1_lineBelow, Cond.instanceMethod yX1_lineBelow, Cond.selects RX1 yX1_lineBelow yX1_lineBelow, Cond.code yX1_lineBelow cX1_lineBelow 2 (some .long), Cond.methodLink RX6 255 yX1_lineBelow, Cond.methodLink RX6 159 yX6_fraction, Cond.static yX6_fraction, Cond.code yX6_fraction cX6_fraction 7 (some .long), Cond.methodLink RX6 390 Lib.MathLoose.abs_long.x, Cond.static Lib.MathLoose.abs_long.x, Cond.code Lib.MathLoose.abs_long.x Lib.MathLoose.abs_long.code 2 (some .long), Cond.methodLink RX6 394 yX6_commonDivisor, Cond.static yX6_commonDivisor, Cond.code yX6_commonDivisor cX6_commonDivisor 11 (some .long)]
def wsX6_flow : List Cond := .code yX6_flow cX6_flow 4 (some .long) :: ((wsX6_flow_r1 ++ (wsX6_flow_r2 ++ wsX6_flow_r3)) ++ wsX60 ++ wsX10)
def wsX6_dykeAbove : List Cond := .code yX6_dykeAbove cX6_dykeAbove 4 (some .long) :: ([.fieldLink RX6 46 "WallMarks" "settings" "[I", .fieldLink RX6 33 "WallMarks" "counted" "LWallMarks$Counted;", .methodLink RX6 156 yX0_rareBelow, .instanceMethod yX0_rareBelow, .selects RX0 yX0_rareBelow yX0_rareBelow, .initialized RX0, .code yX0_rareBelow cX0_rareBelow 2 (some .int), .fieldLink RX0 21 "WallMarks$Counted" "exacts" "I", .methodLink RX0 72 yX0_belowsUnder, .instanceMethod yX0_belowsUnder, .selects RX0 yX0_belowsUnder yX0_belowsUnder, .code yX0_belowsUnder cX0_belowsUnder 4 (some .int), .fieldLink RX0 25 "WallMarks$Counted" "belows" "I", .fieldLink RX0 18 "WallMarks$Counted" "belowLevels" "[I", .methodLink RX6 143 yX0_overs, .instanceMethod yX0_overs, .selects RX0 yX0_overs yX0_overs, .code yX0_overs cX0_overs 4 (some .int), .fieldLink RX0 15 "WallMarks$Counted" "exactLevels" "[I"] ++ wsX60 ++ wsX00)
def wsX6_dyke_r1 : List Cond := [Cond.fieldLink RX6 33 "WallMarks" "counted" "LWallMarks$Counted;", Cond.methodLink RX6 120 yX6_isLevel, Cond.static yX6_isLevel, Cond.initialized RX6, Cond.code yX6_isLevel cX6_isLevel 1 (some .boolean), Cond.methodLink RX6 134 yX6_isEither, Cond.static yX6_isEither, Cond.code yX6_isEither cX6_isEither 1 (some .boolean), Cond.methodLink RX6 152 yX6_longRefusal, Cond.static yX6_longRefusal, Cond.code yX6_longRefusal cX6_longRefusal 1 (some .long), Cond.constantLong RX6 368 (-9223372036854775808), Cond.methodLink RX6 258 yX6_dykeAbove, Cond.instanceMethod yX6_dykeAbove, Cond.selects RX6 yX6_dykeAbove yX6_dykeAbove, Cond.code yX6_dykeAbove cX6_dykeAbove 4 (some .long), Cond.fieldLink RX6 46 "WallMarks" "settings" "[I", Cond.methodLink RX6 156 yX0_rareBelow, Cond.instanceMethod yX0_rareBelow, Cond.selects RX0 yX0_rareBelow yX0_rareBelow, Cond.initialized RX0, Cond.code yX0_rareBelow cX0_rareBelow 2 (some .int), Cond.fieldLink RX0 21 "WallMarks$Counted" "exacts" "I", Cond.methodLink RX0 72 yX0_belowsUnder]
def wsX6_dyke_r2 : List Cond := [Cond.instanceMethod yX0_belowsUnder, Cond.selects RX0 yX0_belowsUnder yX0_belowsUnder, Cond.code yX0_belowsUnder cX0_belowsUnder 4 (some .int), Cond.fieldLink RX0 25 "WallMarks$Counted" "belows" "I", Cond.fieldLink RX0 18 "WallMarks$Counted" "belowLevels" "[I", Cond.methodLink RX6 143 yX0_overs, Cond.instanceMethod yX0_overs, Cond.selects RX0 yX0_overs yX0_overs, Cond.code yX0_overs cX0_overs 4 (some .int), Cond.fieldLink RX0 15 "WallMarks$Counted" "exactLevels" "[I", Cond.methodLink RX6 159 yX6_fraction, Cond.static yX6_fraction, Cond.code yX6_fraction cX6_fraction 7 (some .long), Cond.methodLink RX6 390 Lib.MathLoose.abs_long.x, Cond.static Lib.MathLoose.abs_long.x, Cond.initialized "java/lang/Math", Cond.code Lib.MathLoose.abs_long.x Lib.MathLoose.abs_long.code 2 (some .long), Cond.methodLink RX6 394 yX6_commonDivisor, Cond.static yX6_commonDivisor, Cond.code yX6_commonDivisor cX6_commonDivisor 11 (some .long)]
def wsX6_dyke : List Cond := .code yX6_dyke cX6_dyke 3 (some .long) :: ((wsX6_dyke_r1 ++ wsX6_dyke_r2) ++ wsX60 ++ wsX00)
def wsX6_isBetter : List Cond := .code yX6_isBetter cX6_isBetter 7 (some .boolean) :: ([.fieldLink RX6 33 "WallMarks" "counted" "LWallMarks$Counted;", .methodLink RX6 258 yX6_dykeAbove, .instanceMethod yX6_dykeAbove, .selects RX6 yX6_dykeAbove yX6_dykeAbove, .initialized RX6, .code yX6_dykeAbove cX6_dykeAbove 4 (some .long), .fieldLink RX6 46 "WallMarks" "settings" "[I", .methodLink RX6 156 yX0_rareBelow, .instanceMethod yX0_rareBelow, .selects RX0 yX0_rareBelow yX0_rareBelow, .initialized RX0, .code yX0_rareBelow cX0_rareBelow 2 (some .int), .fieldLink RX0 21 "WallMarks$Counted" "exacts" "I", .methodLink RX0 72 yX0_belowsUnder, .instanceMethod yX0_belowsUnder, .selects RX0 yX0_belowsUnder yX0_belowsUnder, .code yX0_belowsUnder cX0_belowsUnder 4 (some .int), .fieldLink RX0 25 "WallMarks$Counted" "belows" "I", .fieldLink RX0 18 "WallMarks$Counted" "belowLevels" "[I", .methodLink RX6 143 yX0_overs, .instanceMethod yX0_overs, .selects RX0 yX0_overs yX0_overs, .code yX0_overs cX0_overs 4 (some .int), .fieldLink RX0 15 "WallMarks$Counted" "exactLevels" "[I"] ++ wsX60 ++ wsX00)
def wsX6_best_r1 : List Cond := [Cond.fieldLink RX6 33 "WallMarks" "counted" "LWallMarks$Counted;", Cond.methodLink RX6 261 yX0_steps, Cond.instanceMethod yX0_steps, Cond.selects RX0 yX0_steps yX0_steps, Cond.initialized RX0, Cond.code yX0_steps cX0_steps 1 (some .int), Cond.fieldLink RX0 21 "WallMarks$Counted" "exacts" "I", Cond.fieldLink RX0 25 "WallMarks$Counted" "belows" "I", Cond.methodLink RX6 264 yX0_stepAt, Cond.instanceMethod yX0_stepAt, Cond.selects RX0 yX0_stepAt yX0_stepAt, Cond.code yX0_stepAt cX0_stepAt 2 (some .int), Cond.fieldLink RX0 15 "WallMarks$Counted" "exactLevels" "[I", Cond.fieldLink RX0 18 "WallMarks$Counted" "belowLevels" "[I", Cond.methodLink RX0 75 yX0_steps, Cond.methodLink RX6 267 yX6_isBetter, Cond.instanceMethod yX6_isBetter, Cond.selects RX6 yX6_isBetter yX6_isBetter, Cond.initialized RX6, Cond.code yX6_isBetter cX6_isBetter 7 (some .boolean), Cond.methodLink RX6 258 yX6_dykeAbove, Cond.instanceMethod yX6_dykeAbove, Cond.selects RX6 yX6_dykeAbove yX6_dykeAbove, Cond.code yX6_dykeAbove cX6_dykeAbove 4 (some .long)]
def wsX6_best_r2 : List Cond := [Cond.fieldLink RX6 46 "WallMarks" "settings" "[I", Cond.methodLink RX6 156 yX0_rareBelow, Cond.instanceMethod yX0_rareBelow, Cond.selects RX0 yX0_rareBelow yX0_rareBelow, Cond.code yX0_rareBelow cX0_rareBelow 2 (some .int), Cond.methodLink RX0 72 yX0_belowsUnder, Cond.instanceMethod yX0_belowsUnder, Cond.selects RX0 yX0_belowsUnder yX0_belowsUnder, Cond.code yX0_belowsUnder cX0_belowsUnder 4 (some .int), Cond.methodLink RX6 143 yX0_overs, Cond.instanceMethod yX0_overs, Cond.selects RX0 yX0_overs yX0_overs, Cond.code yX0_overs cX0_overs 4 (some .int)]
def wsX6_best : List Cond := .code yX6_best cX6_best 4 (some .int) :: ((wsX6_best_r1 ++ wsX6_best_r2) ++ wsX60 ++ wsX00)
def wsX6_isSure : List Cond := .code yX6_isSure cX6_isSure 4 (some .boolean) :: ([.fieldLink RX6 33 "WallMarks" "counted" "LWallMarks$Counted;", .methodLink RX6 143 yX0_overs, .instanceMethod yX0_overs, .selects RX0 yX0_overs yX0_overs, .initialized RX0, .code yX0_overs cX0_overs 4 (some .int), .fieldLink RX0 21 "WallMarks$Counted" "exacts" "I", .fieldLink RX0 15 "WallMarks$Counted" "exactLevels" "[I", .methodLink RX6 149 yX0_darks, .instanceMethod yX0_darks, .selects RX0 yX0_darks yX0_darks, .code yX0_darks cX0_darks 2 (some .int), .fieldLink RX0 28 "WallMarks$Counted" "opens" "I", .fieldLink RX0 25 "WallMarks$Counted" "belows" "I", .methodLink RX0 72 yX0_belowsUnder, .instanceMethod yX0_belowsUnder, .selects RX0 yX0_belowsUnder yX0_belowsUnder, .code yX0_belowsUnder cX0_belowsUnder 4 (some .int), .fieldLink RX0 18 "WallMarks$Counted" "belowLevels" "[I", .methodLink RX6 163 yX0_all, .instanceMethod yX0_all, .selects RX0 yX0_all yX0_all, .code yX0_all cX0_all 1 (some .int)] ++ wsX60 ++ wsX00)
def wsX6_sure_r1 : List Cond := [Cond.fieldLink RX6 33 "WallMarks" "counted" "LWallMarks$Counted;", Cond.methodLink RX6 167 yX6_isHundredths, Cond.static yX6_isHundredths, Cond.initialized RX6, Cond.code yX6_isHundredths cX6_isHundredths 1 (some .boolean), Cond.methodLink RX6 270 yX6_isSure, Cond.instanceMethod yX6_isSure, Cond.selects RX6 yX6_isSure yX6_isSure, Cond.code yX6_isSure cX6_isSure 4 (some .boolean), Cond.methodLink RX6 143 yX0_overs, Cond.instanceMethod yX0_overs, Cond.selects RX0 yX0_overs yX0_overs, Cond.initialized RX0, Cond.code yX0_overs cX0_overs 4 (some .int), Cond.fieldLink RX0 21 "WallMarks$Counted" "exacts" "I", Cond.fieldLink RX0 15 "WallMarks$Counted" "exactLevels" "[I", Cond.methodLink RX6 149 yX0_darks, Cond.instanceMethod yX0_darks, Cond.selects RX0 yX0_darks yX0_darks, Cond.code yX0_darks cX0_darks 2 (some .int), Cond.fieldLink RX0 28 "WallMarks$Counted" "opens" "I", Cond.fieldLink RX0 25 "WallMarks$Counted" "belows" "I", Cond.methodLink RX0 72 yX0_belowsUnder, Cond.instanceMethod yX0_belowsUnder]
def wsX6_sure_r2 : List Cond := [Cond.selects RX0 yX0_belowsUnder yX0_belowsUnder, Cond.code yX0_belowsUnder cX0_belowsUnder 4 (some .int), Cond.fieldLink RX0 18 "WallMarks$Counted" "belowLevels" "[I", Cond.methodLink RX6 163 yX0_all, Cond.instanceMethod yX0_all, Cond.selects RX0 yX0_all yX0_all, Cond.code yX0_all cX0_all 1 (some .int), Cond.methodLink RX6 261 yX0_steps, Cond.instanceMethod yX0_steps, Cond.selects RX0 yX0_steps yX0_steps, Cond.code yX0_steps cX0_steps 1 (some .int), Cond.methodLink RX6 264 yX0_stepAt, Cond.instanceMethod yX0_stepAt, Cond.selects RX0 yX0_stepAt yX0_stepAt, Cond.code yX0_stepAt cX0_stepAt 2 (some .int), Cond.methodLink RX0 75 yX0_steps]
def wsX6_sure : List Cond := .code yX6_sure cX6_sure 5 (some .int) :: ((wsX6_sure_r1 ++ wsX6_sure_r2) ++ wsX60 ++ wsX00)
def wsX6_isForm : List Cond := .code yX6_isForm cX6_isForm 1 (some .boolean) :: ([])
def wsX6_sheet_r1 : List Cond := [Cond.fieldLink RX6 67 "WallMarks" "sheets" "[LWallMarks$Sheet;", Cond.methodLink RX6 105 yX6_isSheet, Cond.static yX6_isSheet, Cond.initialized RX6, Cond.code yX6_isSheet cX6_isSheet 1 (some .boolean), Cond.methodLink RX6 273 yX6_isForm, Cond.static yX6_isForm, Cond.code yX6_isForm cX6_isForm 1 (some .boolean), Cond.methodLink RX6 112 yX6_found, Cond.instanceMethod yX6_found, Cond.selects RX6 yX6_found yX6_found, Cond.code yX6_found cX6_found 2 (some .int), Cond.fieldLink RX6 76 "WallMarks" "finding" "I", Cond.methodLink RX6 276 yX3_renew, Cond.instanceMethod yX3_renew, Cond.selects RX3 yX3_renew yX3_renew, Cond.initialized RX3, Cond.code yX3_renew cX3_renew 3 none, Cond.fieldLink RX3 9 "WallMarks$Sheet" "items" "[I", Cond.fieldLink RX3 15 "WallMarks$Sheet" "lost" "Z", Cond.fieldLink RX3 19 "WallMarks$Sheet" "form" "I", Cond.fieldLink RX3 23 "WallMarks$Sheet" "size" "I", Cond.methodLink RX3 26 yJ7_fill_53178, Cond.static yJ7_fill_53178]
def wsX6_sheet_r2 : List Cond := [Cond.initialized RJ7, Cond.code yJ7_fill_53178 cJ7_fill_53178 4 none]
def wsX6_sheet : List Cond := .code yX6_sheet cX6_sheet 4 (some .int) :: ((wsX6_sheet_r1 ++ wsX6_sheet_r2) ++ wsX60 ++ wsX30)
def wsX6_lose : List Cond := .code yX6_lose cX6_lose 3 (some .int) :: ([.fieldLink RX6 67 "WallMarks" "sheets" "[LWallMarks$Sheet;", .fieldLink RX6 108 "WallMarks$Sheet" "lost" "Z", .fieldLink RX6 116 "WallMarks$Sheet" "size" "I", .methodLink RX6 105 yX6_isSheet, .static yX6_isSheet, .initialized RX6, .code yX6_isSheet cX6_isSheet 1 (some .boolean), .methodLink RX6 112 yX6_found, .instanceMethod yX6_found, .selects RX6 yX6_found yX6_found, .code yX6_found cX6_found 2 (some .int), .fieldLink RX6 76 "WallMarks" "finding" "I"] ++ wsX60 ++ wsX30)
def wsX6_findingAt : List Cond := .code yX6_findingAt cX6_findingAt 3 (some .int) :: ([.fieldLink RX6 108 "WallMarks$Sheet" "lost" "Z", .fieldLink RX6 288 "WallMarks$Sheet" "form" "I", .methodLink RX6 291 yX3_holds, .instanceMethod yX3_holds, .selects RX3 yX3_holds yX3_holds, .initialized RX3, .code yX3_holds cX3_holds 3 (some .boolean), .fieldLink RX3 23 "WallMarks$Sheet" "size" "I"] ++ wsX30)
def wsX6_lay_r1 : List Cond := [Cond.fieldLink RX6 67 "WallMarks" "sheets" "[LWallMarks$Sheet;", Cond.methodLink RX6 105 yX6_isSheet, Cond.static yX6_isSheet, Cond.initialized RX6, Cond.code yX6_isSheet cX6_isSheet 1 (some .boolean), Cond.methodLink RX6 273 yX6_isForm, Cond.static yX6_isForm, Cond.code yX6_isForm cX6_isForm 1 (some .boolean), Cond.methodLink RX6 280 yX6_findingAt, Cond.static yX6_findingAt, Cond.code yX6_findingAt cX6_findingAt 3 (some .int), Cond.fieldLink RX6 108 "WallMarks$Sheet" "lost" "Z", Cond.fieldLink RX6 288 "WallMarks$Sheet" "form" "I", Cond.methodLink RX6 291 yX3_holds, Cond.instanceMethod yX3_holds, Cond.selects RX3 yX3_holds yX3_holds, Cond.initialized RX3, Cond.code yX3_holds cX3_holds 3 (some .boolean), Cond.fieldLink RX3 23 "WallMarks$Sheet" "size" "I", Cond.methodLink RX6 112 yX6_found, Cond.instanceMethod yX6_found, Cond.selects RX6 yX6_found yX6_found, Cond.code yX6_found cX6_found 2 (some .int), Cond.fieldLink RX6 76 "WallMarks" "finding" "I"]
def wsX6_lay_r2 : List Cond := [Cond.methodLink RX6 284 yX3_put, Cond.instanceMethod yX3_put, Cond.selects RX3 yX3_put yX3_put, Cond.code yX3_put cX3_put 3 none, Cond.fieldLink RX3 9 "WallMarks$Sheet" "items" "[I", Cond.methodLink RX3 32 yX3_holds, Cond.methodLink RX3 36 yX3_narrowed, Cond.instanceMethod yX3_narrowed, Cond.selects RX3 yX3_narrowed yX3_narrowed, Cond.code yX3_narrowed cX3_narrowed 2 (some .int), Cond.fieldLink RX3 19 "WallMarks$Sheet" "form" "I"]
def wsX6_lay : List Cond := .code yX6_lay cX6_lay 6 (some .int) :: ((wsX6_lay_r1 ++ wsX6_lay_r2) ++ wsX60 ++ wsX30)
def wsX6_get_r1 : List Cond := [Cond.constant RX6 287 (-2147483648), Cond.fieldLink RX6 67 "WallMarks" "sheets" "[LWallMarks$Sheet;", Cond.methodLink RX6 105 yX6_isSheet, Cond.static yX6_isSheet, Cond.initialized RX6, Cond.code yX6_isSheet cX6_isSheet 1 (some .boolean), Cond.methodLink RX6 273 yX6_isForm, Cond.static yX6_isForm, Cond.code yX6_isForm cX6_isForm 1 (some .boolean), Cond.methodLink RX6 280 yX6_findingAt, Cond.static yX6_findingAt, Cond.code yX6_findingAt cX6_findingAt 3 (some .int), Cond.fieldLink RX6 108 "WallMarks$Sheet" "lost" "Z", Cond.fieldLink RX6 288 "WallMarks$Sheet" "form" "I", Cond.methodLink RX6 291 yX3_holds, Cond.instanceMethod yX3_holds, Cond.selects RX3 yX3_holds yX3_holds, Cond.initialized RX3, Cond.code yX3_holds cX3_holds 3 (some .boolean), Cond.fieldLink RX3 23 "WallMarks$Sheet" "size" "I", Cond.methodLink RX6 112 yX6_found, Cond.instanceMethod yX6_found, Cond.selects RX6 yX6_found yX6_found, Cond.code yX6_found cX6_found 2 (some .int)]
def wsX6_get_r2 : List Cond := [Cond.fieldLink RX6 76 "WallMarks" "finding" "I", Cond.methodLink RX6 117 yX3_itemAt, Cond.instanceMethod yX3_itemAt, Cond.selects RX3 yX3_itemAt yX3_itemAt, Cond.code yX3_itemAt cX3_itemAt 2 (some .int), Cond.fieldLink RX3 9 "WallMarks$Sheet" "items" "[I", Cond.methodLink RX3 32 yX3_holds]
def wsX6_get : List Cond := .code yX6_get cX6_get 5 (some .int) :: ((wsX6_get_r1 ++ wsX6_get_r2) ++ wsX60 ++ wsX30)
def wsX6_copy : List Cond := .code yX6_copy cX6_copy 8 (some .int) :: ([.fieldLink RX6 67 "WallMarks" "sheets" "[LWallMarks$Sheet;", .fieldLink RX6 108 "WallMarks$Sheet" "lost" "Z", .fieldLink RX6 288 "WallMarks$Sheet" "form" "I", .fieldLink RX6 294 "WallMarks$Sheet" "items" "[I", .methodLink RX6 297 arraycopyName, .native arraycopyName, .static arraycopyName, .initialized "java/lang/System", .methodLink RX6 105 yX6_isSheet, .static yX6_isSheet, .initialized RX6, .code yX6_isSheet cX6_isSheet 1 (some .boolean), .methodLink RX6 112 yX6_found, .instanceMethod yX6_found, .selects RX6 yX6_found yX6_found, .code yX6_found cX6_found 2 (some .int), .fieldLink RX6 76 "WallMarks" "finding" "I", .methodLink RX6 291 yX3_holds, .instanceMethod yX3_holds, .selects RX3 yX3_holds yX3_holds, .initialized RX3, .code yX3_holds cX3_holds 3 (some .boolean), .fieldLink RX3 23 "WallMarks$Sheet" "size" "I"] ++ wsX60 ++ wsX30)
def wsX6_write_r1 : List Cond := [Cond.fieldLink RX6 67 "WallMarks" "sheets" "[LWallMarks$Sheet;", Cond.fieldLink RX6 108 "WallMarks$Sheet" "lost" "Z", Cond.fieldLink RX6 116 "WallMarks$Sheet" "size" "I", Cond.methodLink RX6 303 Lib.Math.min.name, Cond.static Lib.Math.min.name, Cond.initialized "java/lang/Math", Cond.code Lib.Math.min.name Lib.Math.min.code 2 (some .int), Cond.fieldLink RX6 26 "WallMarks" "knowledge" "LWallMarks$Known;", Cond.fieldLink RX6 137 "WallMarks$Known" "kinds" "[I", Cond.fieldLink RX6 140 "WallMarks$Known" "levels" "[I", Cond.methodLink RX6 83 yX6_isYear, Cond.static yX6_isYear, Cond.initialized RX6, Cond.code yX6_isYear cX6_isYear 1 (some .boolean), Cond.methodLink RX6 105 yX6_isSheet, Cond.static yX6_isSheet, Cond.code yX6_isSheet cX6_isSheet 1 (some .boolean), Cond.methodLink RX6 112 yX6_found, Cond.instanceMethod yX6_found, Cond.selects RX6 yX6_found yX6_found, Cond.code yX6_found cX6_found 2 (some .int), Cond.fieldLink RX6 76 "WallMarks" "finding" "I", Cond.methodLink RX6 284 yX3_put, Cond.instanceMethod yX3_put]
def wsX6_write_r2 : List Cond := [Cond.selects RX3 yX3_put yX3_put, Cond.initialized RX3, Cond.code yX3_put cX3_put 3 none, Cond.fieldLink RX3 9 "WallMarks$Sheet" "items" "[I", Cond.methodLink RX3 32 yX3_holds, Cond.instanceMethod yX3_holds, Cond.selects RX3 yX3_holds yX3_holds, Cond.code yX3_holds cX3_holds 3 (some .boolean), Cond.fieldLink RX3 23 "WallMarks$Sheet" "size" "I", Cond.methodLink RX3 36 yX3_narrowed, Cond.instanceMethod yX3_narrowed, Cond.selects RX3 yX3_narrowed yX3_narrowed, Cond.code yX3_narrowed cX3_narrowed 2 (some .int), Cond.fieldLink RX3 19 "WallMarks$Sheet" "form" "I"]
def wsX6_write : List Cond := .code yX6_write cX6_write 7 (some .int) :: ((wsX6_write_r1 ++ wsX6_write_r2) ++ wsX60 ++ wsX30 ++ wsX20)
def wsX6_sisterYears : List Cond := .code yX6_sisterYears cX6_sisterYears 3 (some .int) :: ([.fieldLink RX6 49 "WallMarks" "sisterLevels" "[I"] ++ wsX60)
def wsX6_count : List Cond := .code yX6_count cX6_count 2 (some .int) :: ([.fieldLink RX6 10 "WallMarks" "tellings" "LWallMarks$Tellings;", .fieldLink RX6 102 "WallMarks$Tellings" "size" "I", .fieldLink RX6 19 "WallMarks" "watches" "LWallMarks$Watches;", .fieldLink RX6 127 "WallMarks$Watches" "size" "I", .fieldLink RX6 33 "WallMarks" "counted" "LWallMarks$Counted;", .fieldLink RX6 170 "WallMarks$Counted" "exacts" "I", .fieldLink RX6 308 "WallMarks$Counted" "belows" "I", .fieldLink RX6 311 "WallMarks$Counted" "opens" "I", .fieldLink RX6 314 "WallMarks$Counted" "greatestExact" "I", .fieldLink RX6 61 "WallMarks" "flows" "LWallMarks$Flows;", .fieldLink RX6 245 "WallMarks$Flows" "size" "I", .fieldLink RX6 76 "WallMarks" "finding" "I", .methodLink RX6 317 yX6_sisterYears, .instanceMethod yX6_sisterYears, .selects RX6 yX6_sisterYears yX6_sisterYears, .initialized RX6, .code yX6_sisterYears cX6_sisterYears 3 (some .int), .fieldLink RX6 49 "WallMarks" "sisterLevels" "[I"] ++ wsX60 ++ wsX40 ++ wsX50 ++ wsX00 ++ wsX10)
def wsX6_mixed : List Cond := .code yX6_mixed cX6_mixed 4 (some .long) :: ([.constantLong RX6 397 (31)])
def wsX6_digest_r1 : List Cond := [Cond.constantLong RX6 320 (17), Cond.methodLink RX6 322 yX6_count, Cond.instanceMethod yX6_count, Cond.selects RX6 yX6_count yX6_count, Cond.initialized RX6, Cond.code yX6_count cX6_count 2 (some .int), Cond.fieldLink RX6 10 "WallMarks" "tellings" "LWallMarks$Tellings;", Cond.fieldLink RX6 102 "WallMarks$Tellings" "size" "I", Cond.fieldLink RX6 19 "WallMarks" "watches" "LWallMarks$Watches;", Cond.fieldLink RX6 127 "WallMarks$Watches" "size" "I", Cond.fieldLink RX6 33 "WallMarks" "counted" "LWallMarks$Counted;", Cond.fieldLink RX6 170 "WallMarks$Counted" "exacts" "I", Cond.fieldLink RX6 308 "WallMarks$Counted" "belows" "I", Cond.fieldLink RX6 311 "WallMarks$Counted" "opens" "I", Cond.fieldLink RX6 314 "WallMarks$Counted" "greatestExact" "I", Cond.fieldLink RX6 61 "WallMarks" "flows" "LWallMarks$Flows;", Cond.fieldLink RX6 245 "WallMarks$Flows" "size" "I", Cond.fieldLink RX6 76 "WallMarks" "finding" "I", Cond.methodLink RX6 317 yX6_sisterYears, Cond.instanceMethod yX6_sisterYears, Cond.selects RX6 yX6_sisterYears yX6_sisterYears, Cond.code yX6_sisterYears cX6_sisterYears 3 (some .int), Cond.fieldLink RX6 49 "WallMarks" "sisterLevels" "[I", Cond.methodLink RX6 325 yX6_mixed]
def wsX6_digest_r2 : List Cond := [Cond.static yX6_mixed, Cond.code yX6_mixed cX6_mixed 4 (some .long), Cond.constantLong RX6 397 (31), Cond.methodLink RX6 329 yX6_known, Cond.instanceMethod yX6_known, Cond.selects RX6 yX6_known yX6_known, Cond.code yX6_known cX6_known 3 (some .int), Cond.fieldLink RX6 26 "WallMarks" "knowledge" "LWallMarks$Known;", Cond.fieldLink RX6 137 "WallMarks$Known" "kinds" "[I", Cond.fieldLink RX6 140 "WallMarks$Known" "levels" "[I", Cond.methodLink RX6 83 yX6_isYear, Cond.static yX6_isYear, Cond.code yX6_isYear cX6_isYear 1 (some .boolean), Cond.methodLink RX6 134 yX6_isEither, Cond.static yX6_isEither, Cond.code yX6_isEither cX6_isEither 1 (some .boolean), Cond.methodLink RX6 332 yX6_filled, Cond.instanceMethod yX6_filled, Cond.selects RX6 yX6_filled yX6_filled, Cond.code yX6_filled cX6_filled 4 (some .int), Cond.methodLink RX6 234 yX6_filledBySums, Cond.instanceMethod yX6_filledBySums, Cond.selects RX6 yX6_filledBySums yX6_filledBySums, Cond.code yX6_filledBySums cX6_filledBySums 5 (some .int)]
def wsX6_digest_r3 : List Cond := [Cond.fieldLink RX6 173 "WallMarks$Counted" "exactLevels" "[I", Cond.methodLink RX6 420 yX6_sisterOf, Cond.instanceMethod yX6_sisterOf, Cond.selects RX6 yX6_sisterOf yX6_sisterOf, Cond.code yX6_sisterOf cX6_sisterOf 2 (some .int), Cond.fieldLink RX6 417 "WallMarks$Counted" "exactYears" "[I", Cond.methodLink RX6 237 yX6_filledByOne, Cond.instanceMethod yX6_filledByOne, Cond.selects RX6 yX6_filledByOne yX6_filledByOne, Cond.code yX6_filledByOne cX6_filledByOne 7 (some .int), Cond.methodLink RX6 335 yX6_over, Cond.instanceMethod yX6_over, Cond.selects RX6 yX6_over yX6_over, Cond.code yX6_over cX6_over 3 (some .int), Cond.methodLink RX6 120 yX6_isLevel, Cond.static yX6_isLevel, Cond.code yX6_isLevel cX6_isLevel 1 (some .boolean), Cond.methodLink RX6 143 yX0_overs, Cond.instanceMethod yX0_overs, Cond.selects RX0 yX0_overs yX0_overs, Cond.initialized RX0, Cond.code yX0_overs cX0_overs 4 (some .int), Cond.fieldLink RX0 21 "WallMarks$Counted" "exacts" "I", Cond.fieldLink RX0 15 "WallMarks$Counted" "exactLevels" "[I"]
def wsX6_digest_r4 : List Cond := [Cond.methodLink RX6 146 yX0_unders, Cond.instanceMethod yX0_unders, Cond.selects RX0 yX0_unders yX0_unders, Cond.code yX0_unders cX0_unders 2 (some .int), Cond.methodLink RX0 68 yX0_overs, Cond.methodLink RX0 72 yX0_belowsUnder, Cond.instanceMethod yX0_belowsUnder, Cond.selects RX0 yX0_belowsUnder yX0_belowsUnder, Cond.code yX0_belowsUnder cX0_belowsUnder 4 (some .int), Cond.fieldLink RX0 25 "WallMarks$Counted" "belows" "I", Cond.fieldLink RX0 18 "WallMarks$Counted" "belowLevels" "[I", Cond.methodLink RX6 149 yX0_darks, Cond.instanceMethod yX0_darks, Cond.selects RX0 yX0_darks yX0_darks, Cond.code yX0_darks cX0_darks 2 (some .int), Cond.fieldLink RX0 28 "WallMarks$Counted" "opens" "I", Cond.methodLink RX6 338 yX6_rare, Cond.instanceMethod yX6_rare, Cond.selects RX6 yX6_rare yX6_rare, Cond.code yX6_rare cX6_rare 5 (some .long), Cond.methodLink RX6 152 yX6_longRefusal, Cond.static yX6_longRefusal, Cond.code yX6_longRefusal cX6_longRefusal 1 (some .long), Cond.constantLong RX6 368 (-9223372036854775808)]
def wsX6_digest_r5 : List Cond := [Cond.methodLink RX6 156 yX0_rareBelow, Cond.instanceMethod yX0_rareBelow, Cond.selects RX0 yX0_rareBelow yX0_rareBelow, Cond.code yX0_rareBelow cX0_rareBelow 2 (some .int), Cond.methodLink RX6 159 yX6_fraction, Cond.static yX6_fraction, Cond.code yX6_fraction cX6_fraction 7 (some .long), Cond.methodLink RX6 390 Lib.MathLoose.abs_long.x, Cond.static Lib.MathLoose.abs_long.x, Cond.initialized "java/lang/Math", Cond.code Lib.MathLoose.abs_long.x Lib.MathLoose.abs_long.code 2 (some .long), Cond.methodLink RX6 394 yX6_commonDivisor, Cond.static yX6_commonDivisor, Cond.code yX6_commonDivisor cX6_commonDivisor 11 (some .long), Cond.methodLink RX6 163 yX0_all, Cond.instanceMethod yX0_all, Cond.selects RX0 yX0_all yX0_all, Cond.code yX0_all cX0_all 1 (some .int), Cond.methodLink RX6 342 yX6_soRare, Cond.instanceMethod yX6_soRare, Cond.selects RX6 yX6_soRare yX6_soRare, Cond.code yX6_soRare cX6_soRare 5 (some .int), Cond.methodLink RX6 167 yX6_isHundredths, Cond.static yX6_isHundredths]
def wsX6_digest_r6 : List Cond := [Cond.code yX6_isHundredths cX6_isHundredths 1 (some .boolean), Cond.methodLink RX6 345 yX6_records, Cond.instanceMethod yX6_records, Cond.selects RX6 yX6_records yX6_records, Cond.code yX6_records cX6_records 2 (some .int), Cond.fieldLink RX6 203 "WallMarks$Counted" "records" "I", Cond.fieldLink RX6 206 "WallMarks$Counted" "lastRecord" "I", Cond.fieldLink RX6 209 "WallMarks$Counted" "longestWait" "I", Cond.methodLink RX6 200 yX6_should, Cond.instanceMethod yX6_should, Cond.selects RX6 yX6_should yX6_should, Cond.code yX6_should cX6_should 7 (some .int), Cond.fieldLink RX6 72 "WallMarks" "orders" "[J", Cond.constantLong RX6 402 (1000000), Cond.methodLink RX6 399 yX6_orderByRecords, Cond.instanceMethod yX6_orderByRecords, Cond.selects RX6 yX6_orderByRecords yX6_orderByRecords, Cond.code yX6_orderByRecords cX6_orderByRecords 4 none, Cond.methodLink RX6 404 yJ7_fill_d0a16, Cond.static yJ7_fill_d0a16, Cond.initialized RJ7, Cond.code yJ7_fill_d0a16 cJ7_fill_d0a16 5 none, Cond.methodLink RX6 347 yX6_rises, Cond.instanceMethod yX6_rises]
def wsX6_digest_r7 : List Cond := [Cond.selects RX6 yX6_rises yX6_rises, Cond.code yX6_rises cX6_rises 4 (some .int), Cond.methodLink RX6 212 yX6_direction, Cond.static yX6_direction, Cond.code yX6_direction cX6_direction 2 (some .int), Cond.methodLink RX6 350 yX6_changed, Cond.instanceMethod yX6_changed, Cond.selects RX6 yX6_changed yX6_changed, Cond.code yX6_changed cX6_changed 3 (some .int), Cond.methodLink RX6 222 yX6_greatestChange, Cond.instanceMethod yX6_greatestChange, Cond.selects RX6 yX6_greatestChange yX6_greatestChange, Cond.code yX6_greatestChange cX6_greatestChange 11 (some .int), Cond.methodLink RX6 216 yX0_meansBelow, Cond.instanceMethod yX0_meansBelow, Cond.selects RX0 yX0_meansBelow yX0_meansBelow, Cond.code yX0_meansBelow cX0_meansBelow 3 (some .long), Cond.methodLink RX0 79 yX0_exactsAhead, Cond.instanceMethod yX0_exactsAhead, Cond.selects RX0 yX0_exactsAhead yX0_exactsAhead, Cond.code yX0_exactsAhead cX0_exactsAhead 4 (some .int), Cond.fieldLink RX0 9 "WallMarks$Counted" "exactYears" "[I", Cond.methodLink RX6 219 yX0_meansAbove, Cond.instanceMethod yX0_meansAbove]
def wsX6_digest_r8 : List Cond := [Cond.selects RX0 yX0_meansAbove yX0_meansAbove, Cond.code yX0_meansAbove cX0_meansAbove 2 (some .long), Cond.methodLink RX0 82 yX0_sumAhead, Cond.instanceMethod yX0_sumAhead, Cond.selects RX0 yX0_sumAhead yX0_sumAhead, Cond.code yX0_sumAhead cX0_sumAhead 4 (some .int), Cond.methodLink RX0 85 yX0_meansApart, Cond.instanceMethod yX0_meansApart, Cond.selects RX0 yX0_meansApart yX0_meansApart, Cond.code yX0_meansApart cX0_meansApart 3 (some .long), Cond.fieldLink RX0 31 "WallMarks$Counted" "exactSum" "I", Cond.methodLink RX6 225 yX6_howLikely, Cond.instanceMethod yX6_howLikely, Cond.selects RX6 yX6_howLikely yX6_howLikely, Cond.code yX6_howLikely cX6_howLikely 7 (some .int), Cond.methodLink RX6 407 yX0_exactsAhead, Cond.methodLink RX6 196 yX6_choices, Cond.static yX6_choices, Cond.code yX6_choices cX6_choices 5 (some .long), Cond.methodLink RX6 410 yX6_farChoices, Cond.static yX6_farChoices, Cond.code yX6_farChoices cX6_farChoices 7 (some .long), Cond.methodLink RX6 414 yX0_meansApart, Cond.methodLink RX6 353 yX6_common]
def wsX6_digest_r9 : List Cond := [Cond.instanceMethod yX6_common, Cond.selects RX6 yX6_common yX6_common, Cond.code yX6_common cX6_common 2 (some .int), Cond.methodLink RX6 228 yX6_commonYears, Cond.instanceMethod yX6_commonYears, Cond.selects RX6 yX6_commonYears yX6_commonYears, Cond.code yX6_commonYears cX6_commonYears 3 (some .int), Cond.methodLink RX6 231 yX6_ties, Cond.instanceMethod yX6_ties, Cond.selects RX6 yX6_ties yX6_ties, Cond.code yX6_ties cX6_ties 4 (some .int), Cond.methodLink RX6 423 yX6_tie, Cond.instanceMethod yX6_tie, Cond.selects RX6 yX6_tie yX6_tie, Cond.code yX6_tie cX6_tie 3 (some .int), Cond.methodLink RX6 356 yX6_fault, Cond.instanceMethod yX6_fault, Cond.selects RX6 yX6_fault yX6_fault, Cond.code yX6_fault cX6_fault 1 (some .int), Cond.methodLink RX6 246 yX1_parse, Cond.instanceMethod yX1_parse, Cond.selects RX1 yX1_parse yX1_parse, Cond.initialized RX1, Cond.code yX1_parse cX1_parse 2 (some .int)]
def wsX6_digest_r10 : List Cond := [Cond.fieldLink RX1 28 "WallMarks$Flows" "place" "I", Cond.fieldLink RX1 25 "WallMarks$Flows" "pairs" "I", Cond.fieldLink RX1 21 "WallMarks$Flows" "size" "I", Cond.methodLink RX1 35 yX1_passes, Cond.instanceMethod yX1_passes, Cond.selects RX1 yX1_passes yX1_passes, Cond.code yX1_passes cX1_passes 2 (some .boolean), Cond.fieldLink RX1 9 "WallMarks$Flows" "bytes" "[I", Cond.methodLink RX1 39 yX1_parsePair, Cond.instanceMethod yX1_parsePair, Cond.selects RX1 yX1_parsePair yX1_parsePair, Cond.code yX1_parsePair cX1_parsePair 4 (some .int), Cond.fieldLink RX1 15 "WallMarks$Flows" "levels" "[I", Cond.fieldLink RX1 18 "WallMarks$Flows" "amounts" "[I", Cond.methodLink RX1 43 yX1_parseNumber, Cond.instanceMethod yX1_parseNumber, Cond.selects RX1 yX1_parseNumber yX1_parseNumber, Cond.code yX1_parseNumber cX1_parseNumber 3 (some .int), Cond.methodLink RX1 49 Lib.Math.max.name, Cond.static Lib.Math.max.name, Cond.code Lib.Math.max.name Lib.Math.max.code 2 (some .int), Cond.methodLink RX1 46 yX1_isFigure, Cond.instanceMethod yX1_isFigure, Cond.selects RX1 yX1_isFigure yX1_isFigure]
def wsX6_digest_r11 : List Cond := [Cond.code yX1_isFigure cX1_isFigure 1 (some .boolean), Cond.methodLink RX6 359 yX6_best, Cond.instanceMethod yX6_best, Cond.selects RX6 yX6_best yX6_best, Cond.code yX6_best cX6_best 4 (some .int), Cond.methodLink RX6 261 yX0_steps, Cond.instanceMethod yX0_steps, Cond.selects RX0 yX0_steps yX0_steps, Cond.code yX0_steps cX0_steps 1 (some .int), Cond.methodLink RX6 264 yX0_stepAt, Cond.instanceMethod yX0_stepAt, Cond.selects RX0 yX0_stepAt yX0_stepAt, Cond.code yX0_stepAt cX0_stepAt 2 (some .int), Cond.methodLink RX0 75 yX0_steps, Cond.methodLink RX6 267 yX6_isBetter, Cond.instanceMethod yX6_isBetter, Cond.selects RX6 yX6_isBetter yX6_isBetter, Cond.code yX6_isBetter cX6_isBetter 7 (some .boolean), Cond.methodLink RX6 258 yX6_dykeAbove, Cond.instanceMethod yX6_dykeAbove, Cond.selects RX6 yX6_dykeAbove yX6_dykeAbove, Cond.code yX6_dykeAbove cX6_dykeAbove 4 (some .long), Cond.fieldLink RX6 46 "WallMarks" "settings" "[I", Cond.methodLink RX6 362 yX6_sure]
def wsX6_digest_r12 : List Cond := [Cond.instanceMethod yX6_sure, Cond.selects RX6 yX6_sure yX6_sure, Cond.code yX6_sure cX6_sure 5 (some .int), Cond.methodLink RX6 270 yX6_isSure, Cond.instanceMethod yX6_isSure, Cond.selects RX6 yX6_isSure yX6_isSure, Cond.code yX6_isSure cX6_isSure 4 (some .boolean)]
def wsX6_digest : List Cond := .code yX6_digest cX6_digest 5 (some .long) :: ((wsX6_digest_r1 ++ (wsX6_digest_r2 ++ (wsX6_digest_r3 ++ (wsX6_digest_r4 ++ (wsX6_digest_r5 ++ (wsX6_digest_r6 ++ (wsX6_digest_r7 ++ (wsX6_digest_r8 ++ (wsX6_digest_r9 ++ (wsX6_digest_r10 ++ (wsX6_digest_r11 ++ wsX6_digest_r12))))))))))) ++ wsX60 ++ wsX40 ++ wsX50 ++ wsX00 ++ wsX10 ++ wsX20)
def wsX7_init_r1 : List Cond := [Cond.methodLink RX7 1 objectInit, Cond.instanceMethod objectInit, Cond.code objectInit ⟨#[0xb1]⟩ 1 none, Cond.arrayClass .int, Cond.fieldLink RX7 7 "WallMarksModel" "forms" "[I", Cond.fieldLink RX7 13 "WallMarksModel" "sizes" "[I", Cond.fieldLink RX7 16 "WallMarksModel" "items" "[I", Cond.fieldLink RX7 19 "WallMarksModel" "moved" "[I", Cond.fieldLink RX7 22 "WallMarksModel" "toldYear" "[I", Cond.fieldLink RX7 25 "WallMarksModel" "toldKind" "[I", Cond.fieldLink RX7 28 "WallMarksModel" "toldLevel" "[I", Cond.fieldLink RX7 31 "WallMarksModel" "toldTime" "[I", Cond.fieldLink RX7 34 "WallMarksModel" "watchFrom" "[I", Cond.fieldLink RX7 37 "WallMarksModel" "watchTo" "[I", Cond.fieldLink RX7 40 "WallMarksModel" "watchLevel" "[I", Cond.fieldLink RX7 43 "WallMarksModel" "settings" "[I", Cond.fieldLink RX7 46 "WallMarksModel" "sisters" "[I", Cond.fieldLink RX7 49 "WallMarksModel" "kinds" "[I", Cond.fieldLink RX7 52 "WallMarksModel" "levels" "[I", Cond.fieldLink RX7 55 "WallMarksModel" "exactYear" "[I", Cond.fieldLink RX7 58 "WallMarksModel" "exactLevel" "[I", Cond.arrayClass .long, Cond.fieldLink RX7 61 "WallMarksModel" "orders" "[J", Cond.fieldLink RX7 65 "WallMarksModel" "text" "[I"]
def wsX7_init_r2 : List Cond := [Cond.fieldLink RX7 68 "WallMarksModel" "pairLevel" "[I", Cond.fieldLink RX7 71 "WallMarksModel" "pairFlow" "[I"]
def wsX7_init : List Cond := .code yX7_init cX7_init 2 none :: ((wsX7_init_r1 ++ wsX7_init_r2) ++ wsX70)
def wsX7_in : List Cond := .code yX7_in cX7_in 6 (some .boolean) :: ([])
def wsX7_no : List Cond := .code yX7_no cX7_no 1 (some .long) :: ([.constantLong RX7 74 (-9223372036854775808)])
def wsX7_isTwo : List Cond := .code yX7_isTwo cX7_isTwo 1 (some .boolean) :: ([.methodLink RX7 76 yX7_in, .static yX7_in, .initialized RX7, .code yX7_in cX7_in 6 (some .boolean)])
def wsX7_met : List Cond := .code yX7_met cX7_met 2 (some .int) :: ([.fieldLink RX7 80 "WallMarksModel" "latest" "I"] ++ wsX70)
def wsX7_isSheet : List Cond := .code yX7_isSheet cX7_isSheet 1 (some .boolean) :: ([.constantLong RX7 84 (3), .methodLink RX7 76 yX7_in, .static yX7_in, .initialized RX7, .code yX7_in cX7_in 6 (some .boolean)])
def wsX7_sheet : List Cond := .code yX7_sheet cX7_sheet 5 (some .int) :: ([.constantLong RX7 90 (2), .fieldLink RX7 7 "WallMarksModel" "forms" "[I", .fieldLink RX7 13 "WallMarksModel" "sizes" "[I", .fieldLink RX7 16 "WallMarksModel" "items" "[I", .methodLink RX7 86 yX7_isSheet, .static yX7_isSheet, .initialized RX7, .code yX7_isSheet cX7_isSheet 1 (some .boolean), .constantLong RX7 84 (3), .methodLink RX7 76 yX7_in, .static yX7_in, .code yX7_in cX7_in 6 (some .boolean), .methodLink RX7 92 yX7_met, .instanceMethod yX7_met, .selects RX7 yX7_met yX7_met, .code yX7_met cX7_met 2 (some .int), .fieldLink RX7 80 "WallMarksModel" "latest" "I"] ++ wsX70)
def wsX7_lose : List Cond := .code yX7_lose cX7_lose 2 (some .int) :: ([.fieldLink RX7 7 "WallMarksModel" "forms" "[I", .fieldLink RX7 13 "WallMarksModel" "sizes" "[I", .methodLink RX7 86 yX7_isSheet, .static yX7_isSheet, .initialized RX7, .code yX7_isSheet cX7_isSheet 1 (some .boolean), .constantLong RX7 84 (3), .methodLink RX7 76 yX7_in, .static yX7_in, .code yX7_in cX7_in 6 (some .boolean), .methodLink RX7 92 yX7_met, .instanceMethod yX7_met, .selects RX7 yX7_met yX7_met, .code yX7_met cX7_met 2 (some .int), .fieldLink RX7 80 "WallMarksModel" "latest" "I"] ++ wsX70)
def wsX7_lacks : List Cond := .code yX7_lacks cX7_lacks 4 (some .int) :: ([.fieldLink RX7 7 "WallMarksModel" "forms" "[I", .fieldLink RX7 13 "WallMarksModel" "sizes" "[I", .methodLink RX7 92 yX7_met, .instanceMethod yX7_met, .selects RX7 yX7_met yX7_met, .initialized RX7, .code yX7_met cX7_met 2 (some .int), .fieldLink RX7 80 "WallMarksModel" "latest" "I", .methodLink RX7 76 yX7_in, .static yX7_in, .code yX7_in cX7_in 6 (some .boolean)] ++ wsX70)
def wsX7_cut : List Cond := .code yX7_cut cX7_cut 2 (some .int) :: ([])
def wsX7_lay : List Cond := .code yX7_lay cX7_lay 6 (some .int) :: ([.constantLong RX7 90 (2), .fieldLink RX7 16 "WallMarksModel" "items" "[I", .methodLink RX7 86 yX7_isSheet, .static yX7_isSheet, .initialized RX7, .code yX7_isSheet cX7_isSheet 1 (some .boolean), .constantLong RX7 84 (3), .methodLink RX7 76 yX7_in, .static yX7_in, .code yX7_in cX7_in 6 (some .boolean), .methodLink RX7 96 yX7_lacks, .instanceMethod yX7_lacks, .selects RX7 yX7_lacks yX7_lacks, .code yX7_lacks cX7_lacks 4 (some .int), .fieldLink RX7 7 "WallMarksModel" "forms" "[I", .fieldLink RX7 13 "WallMarksModel" "sizes" "[I", .methodLink RX7 92 yX7_met, .instanceMethod yX7_met, .selects RX7 yX7_met yX7_met, .code yX7_met cX7_met 2 (some .int), .fieldLink RX7 80 "WallMarksModel" "latest" "I", .methodLink RX7 100 yX7_cut, .static yX7_cut, .code yX7_cut cX7_cut 2 (some .int)] ++ wsX70)
def wsX7_get : List Cond := .code yX7_get cX7_get 4 (some .int) :: ([.constantLong RX7 90 (2), .constant RX7 104 (-2147483648), .fieldLink RX7 16 "WallMarksModel" "items" "[I", .methodLink RX7 86 yX7_isSheet, .static yX7_isSheet, .initialized RX7, .code yX7_isSheet cX7_isSheet 1 (some .boolean), .constantLong RX7 84 (3), .methodLink RX7 76 yX7_in, .static yX7_in, .code yX7_in cX7_in 6 (some .boolean), .methodLink RX7 96 yX7_lacks, .instanceMethod yX7_lacks, .selects RX7 yX7_lacks yX7_lacks, .code yX7_lacks cX7_lacks 4 (some .int), .fieldLink RX7 7 "WallMarksModel" "forms" "[I", .fieldLink RX7 13 "WallMarksModel" "sizes" "[I", .methodLink RX7 92 yX7_met, .instanceMethod yX7_met, .selects RX7 yX7_met yX7_met, .code yX7_met cX7_met 2 (some .int), .fieldLink RX7 80 "WallMarksModel" "latest" "I"] ++ wsX70)
def wsX7_copy : List Cond := .code yX7_copy cX7_copy 7 (some .int) :: ([.fieldLink RX7 7 "WallMarksModel" "forms" "[I", .fieldLink RX7 13 "WallMarksModel" "sizes" "[I", .fieldLink RX7 19 "WallMarksModel" "moved" "[I", .fieldLink RX7 16 "WallMarksModel" "items" "[I", .methodLink RX7 86 yX7_isSheet, .static yX7_isSheet, .initialized RX7, .code yX7_isSheet cX7_isSheet 1 (some .boolean), .constantLong RX7 84 (3), .methodLink RX7 76 yX7_in, .static yX7_in, .code yX7_in cX7_in 6 (some .boolean), .methodLink RX7 92 yX7_met, .instanceMethod yX7_met, .selects RX7 yX7_met yX7_met, .code yX7_met cX7_met 2 (some .int), .fieldLink RX7 80 "WallMarksModel" "latest" "I"] ++ wsX70)
def wsX7_divisor : List Cond := .code yX7_divisor cX7_divisor 10 (some .long) :: ([])
def wsX7_part : List Cond := .code yX7_part cX7_part 5 (some .long) :: ([.methodLink RX7 105 yX7_divisor, .static yX7_divisor, .initialized RX7, .code yX7_divisor cX7_divisor 10 (some .long)])
def wsX7_choices : List Cond := .code yX7_choices cX7_choices 5 (some .long) :: ([])
def wsX7_power : List Cond := .code yX7_power cX7_power 5 (some .long) :: ([])
def wsX7_millionths : List Cond := .code yX7_millionths cX7_millionths 4 (some .int) :: ([.constantLong RX7 109 (1000000)])
def wsX7_isYear : List Cond := .code yX7_isYear cX7_isYear 1 (some .boolean) :: ([.constantLong RX7 111 (59), .methodLink RX7 76 yX7_in, .static yX7_in, .initialized RX7, .code yX7_in cX7_in 6 (some .boolean)])
def wsX7_isLevel : List Cond := .code yX7_isLevel cX7_isLevel 1 (some .boolean) :: ([.constantLong RX7 113 (999), .methodLink RX7 76 yX7_in, .static yX7_in, .initialized RX7, .code yX7_in cX7_in 6 (some .boolean)])
def wsX7_isEarly : List Cond := .code yX7_isEarly cX7_isEarly 2 (some .boolean) :: ([.fieldLink RX7 115 "WallMarksModel" "tellings" "I", .fieldLink RX7 31 "WallMarksModel" "toldTime" "[I"] ++ wsX70)
def wsX7_tell : List Cond := .code yX7_tell cX7_tell 6 (some .int) :: ([.constantLong RX7 113 (999), .fieldLink RX7 115 "WallMarksModel" "tellings" "I", .fieldLink RX7 22 "WallMarksModel" "toldYear" "[I", .fieldLink RX7 25 "WallMarksModel" "toldKind" "[I", .fieldLink RX7 28 "WallMarksModel" "toldLevel" "[I", .fieldLink RX7 31 "WallMarksModel" "toldTime" "[I", .methodLink RX7 118 yX7_isLevel, .static yX7_isLevel, .initialized RX7, .code yX7_isLevel cX7_isLevel 1 (some .boolean), .methodLink RX7 76 yX7_in, .static yX7_in, .code yX7_in cX7_in 6 (some .boolean), .methodLink RX7 121 yX7_isYear, .static yX7_isYear, .code yX7_isYear cX7_isYear 1 (some .boolean), .constantLong RX7 111 (59), .methodLink RX7 124 yX7_isEarly, .instanceMethod yX7_isEarly, .selects RX7 yX7_isEarly yX7_isEarly, .code yX7_isEarly cX7_isEarly 2 (some .boolean)] ++ wsX70)
def wsX7_read_r1 : List Cond := [Cond.fieldLink RX7 7 "WallMarksModel" "forms" "[I", Cond.fieldLink RX7 13 "WallMarksModel" "sizes" "[I", Cond.fieldLink RX7 16 "WallMarksModel" "items" "[I", Cond.methodLink RX7 86 yX7_isSheet, Cond.static yX7_isSheet, Cond.initialized RX7, Cond.code yX7_isSheet cX7_isSheet 1 (some .boolean), Cond.constantLong RX7 84 (3), Cond.methodLink RX7 76 yX7_in, Cond.static yX7_in, Cond.code yX7_in cX7_in 6 (some .boolean), Cond.methodLink RX7 121 yX7_isYear, Cond.static yX7_isYear, Cond.code yX7_isYear cX7_isYear 1 (some .boolean), Cond.constantLong RX7 111 (59), Cond.methodLink RX7 118 yX7_isLevel, Cond.static yX7_isLevel, Cond.code yX7_isLevel cX7_isLevel 1 (some .boolean), Cond.constantLong RX7 113 (999), Cond.methodLink RX7 124 yX7_isEarly, Cond.instanceMethod yX7_isEarly, Cond.selects RX7 yX7_isEarly yX7_isEarly, Cond.code yX7_isEarly cX7_isEarly 2 (some .boolean), Cond.fieldLink RX7 115 "WallMarksModel" "tellings" "I"]
def wsX7_read_r2 : List Cond := [Cond.fieldLink RX7 31 "WallMarksModel" "toldTime" "[I", Cond.methodLink RX7 92 yX7_met, Cond.instanceMethod yX7_met, Cond.selects RX7 yX7_met yX7_met, Cond.code yX7_met cX7_met 2 (some .int), Cond.fieldLink RX7 80 "WallMarksModel" "latest" "I", Cond.methodLink RX7 127 yX7_tell, Cond.instanceMethod yX7_tell, Cond.selects RX7 yX7_tell yX7_tell, Cond.code yX7_tell cX7_tell 6 (some .int), Cond.fieldLink RX7 22 "WallMarksModel" "toldYear" "[I", Cond.fieldLink RX7 25 "WallMarksModel" "toldKind" "[I", Cond.fieldLink RX7 28 "WallMarksModel" "toldLevel" "[I"]
def wsX7_read : List Cond := .code yX7_read cX7_read 5 (some .int) :: ((wsX7_read_r1 ++ wsX7_read_r2) ++ wsX70)
def wsX7_watch : List Cond := .code yX7_watch cX7_watch 4 (some .int) :: ([.constantLong RX7 113 (999), .fieldLink RX7 131 "WallMarksModel" "watches" "I", .fieldLink RX7 34 "WallMarksModel" "watchFrom" "[I", .fieldLink RX7 37 "WallMarksModel" "watchTo" "[I", .fieldLink RX7 40 "WallMarksModel" "watchLevel" "[I", .methodLink RX7 121 yX7_isYear, .static yX7_isYear, .initialized RX7, .code yX7_isYear cX7_isYear 1 (some .boolean), .constantLong RX7 111 (59), .methodLink RX7 76 yX7_in, .static yX7_in, .code yX7_in cX7_in 6 (some .boolean)] ++ wsX70)
def wsX7_high : List Cond := .code yX7_high cX7_high 1 (some .int) :: ([])
def wsX7_set : List Cond := .code yX7_set cX7_set 4 (some .int) :: ([.constantLong RX7 134 (5), .fieldLink RX7 43 "WallMarksModel" "settings" "[I", .methodLink RX7 76 yX7_in, .static yX7_in, .initialized RX7, .code yX7_in cX7_in 6 (some .boolean), .methodLink RX7 136 yX7_high, .static yX7_high, .code yX7_high cX7_high 1 (some .int)] ++ wsX70)
def wsX7_isCounted : List Cond := .code yX7_isCounted cX7_isCounted 2 (some .boolean) :: ([.fieldLink RX7 43 "WallMarksModel" "settings" "[I", .methodLink RX7 76 yX7_in, .static yX7_in, .initialized RX7, .code yX7_in cX7_in 6 (some .boolean)] ++ wsX70)
def wsX7_watchedBy : List Cond := .code yX7_watchedBy cX7_watchedBy 5 (some .int) :: ([.fieldLink RX7 131 "WallMarksModel" "watches" "I", .fieldLink RX7 34 "WallMarksModel" "watchFrom" "[I", .fieldLink RX7 37 "WallMarksModel" "watchTo" "[I", .fieldLink RX7 40 "WallMarksModel" "watchLevel" "[I", .methodLink RX7 76 yX7_in, .static yX7_in, .initialized RX7, .code yX7_in cX7_in 6 (some .boolean)] ++ wsX70)
def wsX7_find_r1 : List Cond := [Cond.fieldLink RX7 49 "WallMarksModel" "kinds" "[I", Cond.fieldLink RX7 52 "WallMarksModel" "levels" "[I", Cond.fieldLink RX7 115 "WallMarksModel" "tellings" "I", Cond.fieldLink RX7 31 "WallMarksModel" "toldTime" "[I", Cond.fieldLink RX7 43 "WallMarksModel" "settings" "[I", Cond.fieldLink RX7 22 "WallMarksModel" "toldYear" "[I", Cond.fieldLink RX7 25 "WallMarksModel" "toldKind" "[I", Cond.fieldLink RX7 28 "WallMarksModel" "toldLevel" "[I", Cond.fieldLink RX7 139 "WallMarksModel" "exactMany" "I", Cond.fieldLink RX7 55 "WallMarksModel" "exactYear" "[I", Cond.fieldLink RX7 58 "WallMarksModel" "exactLevel" "[I", Cond.methodLink RX7 142 yX7_watchedBy, Cond.instanceMethod yX7_watchedBy, Cond.selects RX7 yX7_watchedBy yX7_watchedBy, Cond.initialized RX7, Cond.code yX7_watchedBy cX7_watchedBy 5 (some .int), Cond.fieldLink RX7 131 "WallMarksModel" "watches" "I", Cond.fieldLink RX7 34 "WallMarksModel" "watchFrom" "[I", Cond.fieldLink RX7 37 "WallMarksModel" "watchTo" "[I", Cond.fieldLink RX7 40 "WallMarksModel" "watchLevel" "[I", Cond.methodLink RX7 76 yX7_in, Cond.static yX7_in, Cond.code yX7_in cX7_in 6 (some .boolean), Cond.methodLink RX7 145 yX7_isCounted]
def wsX7_find_r2 : List Cond := [Cond.instanceMethod yX7_isCounted, Cond.selects RX7 yX7_isCounted yX7_isCounted, Cond.code yX7_isCounted cX7_isCounted 2 (some .boolean)]
def wsX7_find : List Cond := .code yX7_find cX7_find 3 none :: ((wsX7_find_r1 ++ wsX7_find_r2) ++ wsX70)
def wsX7_known_r1 : List Cond := [Cond.fieldLink RX7 49 "WallMarksModel" "kinds" "[I", Cond.fieldLink RX7 52 "WallMarksModel" "levels" "[I", Cond.methodLink RX7 121 yX7_isYear, Cond.static yX7_isYear, Cond.initialized RX7, Cond.code yX7_isYear cX7_isYear 1 (some .boolean), Cond.constantLong RX7 111 (59), Cond.methodLink RX7 76 yX7_in, Cond.static yX7_in, Cond.code yX7_in cX7_in 6 (some .boolean), Cond.methodLink RX7 148 yX7_isTwo, Cond.static yX7_isTwo, Cond.code yX7_isTwo cX7_isTwo 1 (some .boolean), Cond.methodLink RX7 151 yX7_find, Cond.instanceMethod yX7_find, Cond.selects RX7 yX7_find yX7_find, Cond.code yX7_find cX7_find 3 none, Cond.fieldLink RX7 115 "WallMarksModel" "tellings" "I", Cond.fieldLink RX7 31 "WallMarksModel" "toldTime" "[I", Cond.fieldLink RX7 43 "WallMarksModel" "settings" "[I", Cond.fieldLink RX7 22 "WallMarksModel" "toldYear" "[I", Cond.fieldLink RX7 25 "WallMarksModel" "toldKind" "[I", Cond.fieldLink RX7 28 "WallMarksModel" "toldLevel" "[I", Cond.fieldLink RX7 139 "WallMarksModel" "exactMany" "I"]
def wsX7_known_r2 : List Cond := [Cond.fieldLink RX7 55 "WallMarksModel" "exactYear" "[I", Cond.fieldLink RX7 58 "WallMarksModel" "exactLevel" "[I", Cond.methodLink RX7 142 yX7_watchedBy, Cond.instanceMethod yX7_watchedBy, Cond.selects RX7 yX7_watchedBy yX7_watchedBy, Cond.code yX7_watchedBy cX7_watchedBy 5 (some .int), Cond.fieldLink RX7 131 "WallMarksModel" "watches" "I", Cond.fieldLink RX7 34 "WallMarksModel" "watchFrom" "[I", Cond.fieldLink RX7 37 "WallMarksModel" "watchTo" "[I", Cond.fieldLink RX7 40 "WallMarksModel" "watchLevel" "[I", Cond.methodLink RX7 145 yX7_isCounted, Cond.instanceMethod yX7_isCounted, Cond.selects RX7 yX7_isCounted yX7_isCounted, Cond.code yX7_isCounted cX7_isCounted 2 (some .boolean)]
def wsX7_known : List Cond := .code yX7_known cX7_known 3 (some .int) :: ((wsX7_known_r1 ++ wsX7_known_r2) ++ wsX70)
def wsX7_overOf : List Cond := .code yX7_overOf cX7_overOf 4 (some .int) :: ([.fieldLink RX7 49 "WallMarksModel" "kinds" "[I", .fieldLink RX7 52 "WallMarksModel" "levels" "[I", .methodLink RX7 145 yX7_isCounted, .instanceMethod yX7_isCounted, .selects RX7 yX7_isCounted yX7_isCounted, .initialized RX7, .code yX7_isCounted cX7_isCounted 2 (some .boolean), .fieldLink RX7 43 "WallMarksModel" "settings" "[I", .methodLink RX7 76 yX7_in, .static yX7_in, .code yX7_in cX7_in 6 (some .boolean)] ++ wsX70)
def wsX7_underOf : List Cond := .code yX7_underOf cX7_underOf 5 (some .int) :: ([.fieldLink RX7 49 "WallMarksModel" "kinds" "[I", .fieldLink RX7 52 "WallMarksModel" "levels" "[I", .methodLink RX7 145 yX7_isCounted, .instanceMethod yX7_isCounted, .selects RX7 yX7_isCounted yX7_isCounted, .initialized RX7, .code yX7_isCounted cX7_isCounted 2 (some .boolean), .fieldLink RX7 43 "WallMarksModel" "settings" "[I", .methodLink RX7 76 yX7_in, .static yX7_in, .code yX7_in cX7_in 6 (some .boolean)] ++ wsX70)
def wsX7_counted : List Cond := .code yX7_counted cX7_counted 3 (some .int) :: ([.methodLink RX7 145 yX7_isCounted, .instanceMethod yX7_isCounted, .selects RX7 yX7_isCounted yX7_isCounted, .initialized RX7, .code yX7_isCounted cX7_isCounted 2 (some .boolean), .fieldLink RX7 43 "WallMarksModel" "settings" "[I", .methodLink RX7 76 yX7_in, .static yX7_in, .code yX7_in cX7_in 6 (some .boolean)] ++ wsX70)
def wsX7_overBy_r1 : List Cond := [Cond.methodLink RX7 151 yX7_find, Cond.instanceMethod yX7_find, Cond.selects RX7 yX7_find yX7_find, Cond.initialized RX7, Cond.code yX7_find cX7_find 3 none, Cond.fieldLink RX7 49 "WallMarksModel" "kinds" "[I", Cond.fieldLink RX7 52 "WallMarksModel" "levels" "[I", Cond.fieldLink RX7 115 "WallMarksModel" "tellings" "I", Cond.fieldLink RX7 31 "WallMarksModel" "toldTime" "[I", Cond.fieldLink RX7 43 "WallMarksModel" "settings" "[I", Cond.fieldLink RX7 22 "WallMarksModel" "toldYear" "[I", Cond.fieldLink RX7 25 "WallMarksModel" "toldKind" "[I", Cond.fieldLink RX7 28 "WallMarksModel" "toldLevel" "[I", Cond.fieldLink RX7 139 "WallMarksModel" "exactMany" "I", Cond.fieldLink RX7 55 "WallMarksModel" "exactYear" "[I", Cond.fieldLink RX7 58 "WallMarksModel" "exactLevel" "[I", Cond.methodLink RX7 142 yX7_watchedBy, Cond.instanceMethod yX7_watchedBy, Cond.selects RX7 yX7_watchedBy yX7_watchedBy, Cond.code yX7_watchedBy cX7_watchedBy 5 (some .int), Cond.fieldLink RX7 131 "WallMarksModel" "watches" "I", Cond.fieldLink RX7 34 "WallMarksModel" "watchFrom" "[I", Cond.fieldLink RX7 37 "WallMarksModel" "watchTo" "[I", Cond.fieldLink RX7 40 "WallMarksModel" "watchLevel" "[I"]
def wsX7_overBy_r2 : List Cond := [Cond.methodLink RX7 76 yX7_in, Cond.static yX7_in, Cond.code yX7_in cX7_in 6 (some .boolean), Cond.methodLink RX7 145 yX7_isCounted, Cond.instanceMethod yX7_isCounted, Cond.selects RX7 yX7_isCounted yX7_isCounted, Cond.code yX7_isCounted cX7_isCounted 2 (some .boolean), Cond.methodLink RX7 154 yX7_overOf, Cond.instanceMethod yX7_overOf, Cond.selects RX7 yX7_overOf yX7_overOf, Cond.code yX7_overOf cX7_overOf 4 (some .int), Cond.methodLink RX7 157 yX7_underOf, Cond.instanceMethod yX7_underOf, Cond.selects RX7 yX7_underOf yX7_underOf, Cond.code yX7_underOf cX7_underOf 5 (some .int), Cond.methodLink RX7 160 yX7_counted, Cond.instanceMethod yX7_counted, Cond.selects RX7 yX7_counted yX7_counted, Cond.code yX7_counted cX7_counted 3 (some .int)]
def wsX7_overBy : List Cond := .code yX7_overBy cX7_overBy 3 (some .int) :: ((wsX7_overBy_r1 ++ wsX7_overBy_r2) ++ wsX70)
def wsX7_over_r1 : List Cond := [Cond.constantLong RX7 90 (2), Cond.methodLink RX7 118 yX7_isLevel, Cond.static yX7_isLevel, Cond.initialized RX7, Cond.code yX7_isLevel cX7_isLevel 1 (some .boolean), Cond.constantLong RX7 113 (999), Cond.methodLink RX7 76 yX7_in, Cond.static yX7_in, Cond.code yX7_in cX7_in 6 (some .boolean), Cond.methodLink RX7 164 yX7_overBy, Cond.instanceMethod yX7_overBy, Cond.selects RX7 yX7_overBy yX7_overBy, Cond.code yX7_overBy cX7_overBy 3 (some .int), Cond.methodLink RX7 151 yX7_find, Cond.instanceMethod yX7_find, Cond.selects RX7 yX7_find yX7_find, Cond.code yX7_find cX7_find 3 none, Cond.fieldLink RX7 49 "WallMarksModel" "kinds" "[I", Cond.fieldLink RX7 52 "WallMarksModel" "levels" "[I", Cond.fieldLink RX7 115 "WallMarksModel" "tellings" "I", Cond.fieldLink RX7 31 "WallMarksModel" "toldTime" "[I", Cond.fieldLink RX7 43 "WallMarksModel" "settings" "[I", Cond.fieldLink RX7 22 "WallMarksModel" "toldYear" "[I", Cond.fieldLink RX7 25 "WallMarksModel" "toldKind" "[I"]
def wsX7_over_r2 : List Cond := [Cond.fieldLink RX7 28 "WallMarksModel" "toldLevel" "[I", Cond.fieldLink RX7 139 "WallMarksModel" "exactMany" "I", Cond.fieldLink RX7 55 "WallMarksModel" "exactYear" "[I", Cond.fieldLink RX7 58 "WallMarksModel" "exactLevel" "[I", Cond.methodLink RX7 142 yX7_watchedBy, Cond.instanceMethod yX7_watchedBy, Cond.selects RX7 yX7_watchedBy yX7_watchedBy, Cond.code yX7_watchedBy cX7_watchedBy 5 (some .int), Cond.fieldLink RX7 131 "WallMarksModel" "watches" "I", Cond.fieldLink RX7 34 "WallMarksModel" "watchFrom" "[I", Cond.fieldLink RX7 37 "WallMarksModel" "watchTo" "[I", Cond.fieldLink RX7 40 "WallMarksModel" "watchLevel" "[I", Cond.methodLink RX7 145 yX7_isCounted, Cond.instanceMethod yX7_isCounted, Cond.selects RX7 yX7_isCounted yX7_isCounted, Cond.code yX7_isCounted cX7_isCounted 2 (some .boolean), Cond.methodLink RX7 154 yX7_overOf, Cond.instanceMethod yX7_overOf, Cond.selects RX7 yX7_overOf yX7_overOf, Cond.code yX7_overOf cX7_overOf 4 (some .int), Cond.methodLink RX7 157 yX7_underOf, Cond.instanceMethod yX7_underOf, Cond.selects RX7 yX7_underOf yX7_underOf, Cond.code yX7_underOf cX7_underOf 5 (some .int)]
def wsX7_over_r3 : List Cond := [Cond.methodLink RX7 160 yX7_counted, Cond.instanceMethod yX7_counted, Cond.selects RX7 yX7_counted yX7_counted, Cond.code yX7_counted cX7_counted 3 (some .int)]
def wsX7_over : List Cond := .code yX7_over cX7_over 3 (some .int) :: ((wsX7_over_r1 ++ (wsX7_over_r2 ++ wsX7_over_r3)) ++ wsX70)
def wsX7_rareOf_r1 : List Cond := [Cond.methodLink RX7 151 yX7_find, Cond.instanceMethod yX7_find, Cond.selects RX7 yX7_find yX7_find, Cond.initialized RX7, Cond.code yX7_find cX7_find 3 none, Cond.fieldLink RX7 49 "WallMarksModel" "kinds" "[I", Cond.fieldLink RX7 52 "WallMarksModel" "levels" "[I", Cond.fieldLink RX7 115 "WallMarksModel" "tellings" "I", Cond.fieldLink RX7 31 "WallMarksModel" "toldTime" "[I", Cond.fieldLink RX7 43 "WallMarksModel" "settings" "[I", Cond.fieldLink RX7 22 "WallMarksModel" "toldYear" "[I", Cond.fieldLink RX7 25 "WallMarksModel" "toldKind" "[I", Cond.fieldLink RX7 28 "WallMarksModel" "toldLevel" "[I", Cond.fieldLink RX7 139 "WallMarksModel" "exactMany" "I", Cond.fieldLink RX7 55 "WallMarksModel" "exactYear" "[I", Cond.fieldLink RX7 58 "WallMarksModel" "exactLevel" "[I", Cond.methodLink RX7 142 yX7_watchedBy, Cond.instanceMethod yX7_watchedBy, Cond.selects RX7 yX7_watchedBy yX7_watchedBy, Cond.code yX7_watchedBy cX7_watchedBy 5 (some .int), Cond.fieldLink RX7 131 "WallMarksModel" "watches" "I", Cond.fieldLink RX7 34 "WallMarksModel" "watchFrom" "[I", Cond.fieldLink RX7 37 "WallMarksModel" "watchTo" "[I", Cond.fieldLink RX7 40 "WallMarksModel" "watchLevel" "[I"]
def wsX7_rareOf_r2 : List Cond := [Cond.methodLink RX7 76 yX7_in, Cond.static yX7_in, Cond.code yX7_in cX7_in 6 (some .boolean), Cond.methodLink RX7 145 yX7_isCounted, Cond.instanceMethod yX7_isCounted, Cond.selects RX7 yX7_isCounted yX7_isCounted, Cond.code yX7_isCounted cX7_isCounted 2 (some .boolean), Cond.methodLink RX7 154 yX7_overOf, Cond.instanceMethod yX7_overOf, Cond.selects RX7 yX7_overOf yX7_overOf, Cond.code yX7_overOf cX7_overOf 4 (some .int), Cond.methodLink RX7 157 yX7_underOf, Cond.instanceMethod yX7_underOf, Cond.selects RX7 yX7_underOf yX7_underOf, Cond.code yX7_underOf cX7_underOf 5 (some .int), Cond.methodLink RX7 160 yX7_counted, Cond.instanceMethod yX7_counted, Cond.selects RX7 yX7_counted yX7_counted, Cond.code yX7_counted cX7_counted 3 (some .int), Cond.methodLink RX7 167 yX7_part, Cond.static yX7_part, Cond.code yX7_part cX7_part 5 (some .long), Cond.methodLink RX7 105 yX7_divisor, Cond.static yX7_divisor]
def wsX7_rareOf_r3 : List Cond := [Cond.code yX7_divisor cX7_divisor 10 (some .long), Cond.methodLink RX7 171 yX7_no, Cond.static yX7_no, Cond.code yX7_no cX7_no 1 (some .long), Cond.constantLong RX7 74 (-9223372036854775808)]
def wsX7_rareOf : List Cond := .code yX7_rareOf cX7_rareOf 7 (some .long) :: ((wsX7_rareOf_r1 ++ (wsX7_rareOf_r2 ++ wsX7_rareOf_r3)) ++ wsX70)
def wsX7_rare_r1 : List Cond := [Cond.constantLong RX7 84 (3), Cond.methodLink RX7 118 yX7_isLevel, Cond.static yX7_isLevel, Cond.initialized RX7, Cond.code yX7_isLevel cX7_isLevel 1 (some .boolean), Cond.constantLong RX7 113 (999), Cond.methodLink RX7 76 yX7_in, Cond.static yX7_in, Cond.code yX7_in cX7_in 6 (some .boolean), Cond.methodLink RX7 148 yX7_isTwo, Cond.static yX7_isTwo, Cond.code yX7_isTwo cX7_isTwo 1 (some .boolean), Cond.methodLink RX7 175 yX7_rareOf, Cond.instanceMethod yX7_rareOf, Cond.selects RX7 yX7_rareOf yX7_rareOf, Cond.code yX7_rareOf cX7_rareOf 7 (some .long), Cond.methodLink RX7 151 yX7_find, Cond.instanceMethod yX7_find, Cond.selects RX7 yX7_find yX7_find, Cond.code yX7_find cX7_find 3 none, Cond.fieldLink RX7 49 "WallMarksModel" "kinds" "[I", Cond.fieldLink RX7 52 "WallMarksModel" "levels" "[I", Cond.fieldLink RX7 115 "WallMarksModel" "tellings" "I", Cond.fieldLink RX7 31 "WallMarksModel" "toldTime" "[I"]
def wsX7_rare_r2 : List Cond := [Cond.fieldLink RX7 43 "WallMarksModel" "settings" "[I", Cond.fieldLink RX7 22 "WallMarksModel" "toldYear" "[I", Cond.fieldLink RX7 25 "WallMarksModel" "toldKind" "[I", Cond.fieldLink RX7 28 "WallMarksModel" "toldLevel" "[I", Cond.fieldLink RX7 139 "WallMarksModel" "exactMany" "I", Cond.fieldLink RX7 55 "WallMarksModel" "exactYear" "[I", Cond.fieldLink RX7 58 "WallMarksModel" "exactLevel" "[I", Cond.methodLink RX7 142 yX7_watchedBy, Cond.instanceMethod yX7_watchedBy, Cond.selects RX7 yX7_watchedBy yX7_watchedBy, Cond.code yX7_watchedBy cX7_watchedBy 5 (some .int), Cond.fieldLink RX7 131 "WallMarksModel" "watches" "I", Cond.fieldLink RX7 34 "WallMarksModel" "watchFrom" "[I", Cond.fieldLink RX7 37 "WallMarksModel" "watchTo" "[I", Cond.fieldLink RX7 40 "WallMarksModel" "watchLevel" "[I", Cond.methodLink RX7 145 yX7_isCounted, Cond.instanceMethod yX7_isCounted, Cond.selects RX7 yX7_isCounted yX7_isCounted, Cond.code yX7_isCounted cX7_isCounted 2 (some .boolean), Cond.methodLink RX7 154 yX7_overOf, Cond.instanceMethod yX7_overOf, Cond.selects RX7 yX7_overOf yX7_overOf, Cond.code yX7_overOf cX7_overOf 4 (some .int), Cond.methodLink RX7 157 yX7_underOf]
def wsX7_rare_r3 : List Cond := [Cond.instanceMethod yX7_underOf, Cond.selects RX7 yX7_underOf yX7_underOf, Cond.code yX7_underOf cX7_underOf 5 (some .int), Cond.methodLink RX7 160 yX7_counted, Cond.instanceMethod yX7_counted, Cond.selects RX7 yX7_counted yX7_counted, Cond.code yX7_counted cX7_counted 3 (some .int), Cond.methodLink RX7 167 yX7_part, Cond.static yX7_part, Cond.code yX7_part cX7_part 5 (some .long), Cond.methodLink RX7 105 yX7_divisor, Cond.static yX7_divisor, Cond.code yX7_divisor cX7_divisor 10 (some .long), Cond.methodLink RX7 171 yX7_no, Cond.static yX7_no, Cond.code yX7_no cX7_no 1 (some .long), Cond.constantLong RX7 74 (-9223372036854775808)]
def wsX7_rare : List Cond := .code yX7_rare cX7_rare 4 (some .long) :: ((wsX7_rare_r1 ++ (wsX7_rare_r2 ++ wsX7_rare_r3)) ++ wsX70)
def wsX7_soRareOf_r1 : List Cond := [Cond.fieldLink RX7 139 "WallMarksModel" "exactMany" "I", Cond.fieldLink RX7 58 "WallMarksModel" "exactLevel" "[I", Cond.methodLink RX7 151 yX7_find, Cond.instanceMethod yX7_find, Cond.selects RX7 yX7_find yX7_find, Cond.initialized RX7, Cond.code yX7_find cX7_find 3 none, Cond.fieldLink RX7 49 "WallMarksModel" "kinds" "[I", Cond.fieldLink RX7 52 "WallMarksModel" "levels" "[I", Cond.fieldLink RX7 115 "WallMarksModel" "tellings" "I", Cond.fieldLink RX7 31 "WallMarksModel" "toldTime" "[I", Cond.fieldLink RX7 43 "WallMarksModel" "settings" "[I", Cond.fieldLink RX7 22 "WallMarksModel" "toldYear" "[I", Cond.fieldLink RX7 25 "WallMarksModel" "toldKind" "[I", Cond.fieldLink RX7 28 "WallMarksModel" "toldLevel" "[I", Cond.fieldLink RX7 55 "WallMarksModel" "exactYear" "[I", Cond.methodLink RX7 142 yX7_watchedBy, Cond.instanceMethod yX7_watchedBy, Cond.selects RX7 yX7_watchedBy yX7_watchedBy, Cond.code yX7_watchedBy cX7_watchedBy 5 (some .int), Cond.fieldLink RX7 131 "WallMarksModel" "watches" "I", Cond.fieldLink RX7 34 "WallMarksModel" "watchFrom" "[I", Cond.fieldLink RX7 37 "WallMarksModel" "watchTo" "[I", Cond.fieldLink RX7 40 "WallMarksModel" "watchLevel" "[I"]
def wsX7_soRareOf_r2 : List Cond := [Cond.methodLink RX7 76 yX7_in, Cond.static yX7_in, Cond.code yX7_in cX7_in 6 (some .boolean), Cond.methodLink RX7 145 yX7_isCounted, Cond.instanceMethod yX7_isCounted, Cond.selects RX7 yX7_isCounted yX7_isCounted, Cond.code yX7_isCounted cX7_isCounted 2 (some .boolean), Cond.methodLink RX7 154 yX7_overOf, Cond.instanceMethod yX7_overOf, Cond.selects RX7 yX7_overOf yX7_overOf, Cond.code yX7_overOf cX7_overOf 4 (some .int), Cond.methodLink RX7 157 yX7_underOf, Cond.instanceMethod yX7_underOf, Cond.selects RX7 yX7_underOf yX7_underOf, Cond.code yX7_underOf cX7_underOf 5 (some .int)]
def wsX7_soRareOf : List Cond := .code yX7_soRareOf cX7_soRareOf 6 (some .int) :: ((wsX7_soRareOf_r1 ++ wsX7_soRareOf_r2) ++ wsX70)
def wsX7_isPart : List Cond := .code yX7_isPart cX7_isPart 1 (some .boolean) :: ([.constantLong RX7 179 (100), .methodLink RX7 76 yX7_in, .static yX7_in, .initialized RX7, .code yX7_in cX7_in 6 (some .boolean)])
def wsX7_soRare_r1 : List Cond := [Cond.methodLink RX7 181 yX7_isPart, Cond.static yX7_isPart, Cond.initialized RX7, Cond.code yX7_isPart cX7_isPart 1 (some .boolean), Cond.constantLong RX7 179 (100), Cond.methodLink RX7 76 yX7_in, Cond.static yX7_in, Cond.code yX7_in cX7_in 6 (some .boolean), Cond.methodLink RX7 184 yX7_soRareOf, Cond.instanceMethod yX7_soRareOf, Cond.selects RX7 yX7_soRareOf yX7_soRareOf, Cond.code yX7_soRareOf cX7_soRareOf 6 (some .int), Cond.fieldLink RX7 139 "WallMarksModel" "exactMany" "I", Cond.fieldLink RX7 58 "WallMarksModel" "exactLevel" "[I", Cond.methodLink RX7 151 yX7_find, Cond.instanceMethod yX7_find, Cond.selects RX7 yX7_find yX7_find, Cond.code yX7_find cX7_find 3 none, Cond.fieldLink RX7 49 "WallMarksModel" "kinds" "[I", Cond.fieldLink RX7 52 "WallMarksModel" "levels" "[I", Cond.fieldLink RX7 115 "WallMarksModel" "tellings" "I", Cond.fieldLink RX7 31 "WallMarksModel" "toldTime" "[I", Cond.fieldLink RX7 43 "WallMarksModel" "settings" "[I", Cond.fieldLink RX7 22 "WallMarksModel" "toldYear" "[I"]
def wsX7_soRare_r2 : List Cond := [Cond.fieldLink RX7 25 "WallMarksModel" "toldKind" "[I", Cond.fieldLink RX7 28 "WallMarksModel" "toldLevel" "[I", Cond.fieldLink RX7 55 "WallMarksModel" "exactYear" "[I", Cond.methodLink RX7 142 yX7_watchedBy, Cond.instanceMethod yX7_watchedBy, Cond.selects RX7 yX7_watchedBy yX7_watchedBy, Cond.code yX7_watchedBy cX7_watchedBy 5 (some .int), Cond.fieldLink RX7 131 "WallMarksModel" "watches" "I", Cond.fieldLink RX7 34 "WallMarksModel" "watchFrom" "[I", Cond.fieldLink RX7 37 "WallMarksModel" "watchTo" "[I", Cond.fieldLink RX7 40 "WallMarksModel" "watchLevel" "[I", Cond.methodLink RX7 145 yX7_isCounted, Cond.instanceMethod yX7_isCounted, Cond.selects RX7 yX7_isCounted yX7_isCounted, Cond.code yX7_isCounted cX7_isCounted 2 (some .boolean), Cond.methodLink RX7 154 yX7_overOf, Cond.instanceMethod yX7_overOf, Cond.selects RX7 yX7_overOf yX7_overOf, Cond.code yX7_overOf cX7_overOf 4 (some .int), Cond.methodLink RX7 157 yX7_underOf, Cond.instanceMethod yX7_underOf, Cond.selects RX7 yX7_underOf yX7_underOf, Cond.code yX7_underOf cX7_underOf 5 (some .int)]
def wsX7_soRare : List Cond := .code yX7_soRare cX7_soRare 2 (some .int) :: ((wsX7_soRare_r1 ++ wsX7_soRare_r2) ++ wsX70)
def wsX7_rank_r1 : List Cond := [Cond.fieldLink RX7 49 "WallMarksModel" "kinds" "[I", Cond.fieldLink RX7 139 "WallMarksModel" "exactMany" "I", Cond.fieldLink RX7 58 "WallMarksModel" "exactLevel" "[I", Cond.fieldLink RX7 52 "WallMarksModel" "levels" "[I", Cond.methodLink RX7 121 yX7_isYear, Cond.static yX7_isYear, Cond.initialized RX7, Cond.code yX7_isYear cX7_isYear 1 (some .boolean), Cond.constantLong RX7 111 (59), Cond.methodLink RX7 76 yX7_in, Cond.static yX7_in, Cond.code yX7_in cX7_in 6 (some .boolean), Cond.methodLink RX7 151 yX7_find, Cond.instanceMethod yX7_find, Cond.selects RX7 yX7_find yX7_find, Cond.code yX7_find cX7_find 3 none, Cond.fieldLink RX7 115 "WallMarksModel" "tellings" "I", Cond.fieldLink RX7 31 "WallMarksModel" "toldTime" "[I", Cond.fieldLink RX7 43 "WallMarksModel" "settings" "[I", Cond.fieldLink RX7 22 "WallMarksModel" "toldYear" "[I", Cond.fieldLink RX7 25 "WallMarksModel" "toldKind" "[I", Cond.fieldLink RX7 28 "WallMarksModel" "toldLevel" "[I", Cond.fieldLink RX7 55 "WallMarksModel" "exactYear" "[I", Cond.methodLink RX7 142 yX7_watchedBy]
def wsX7_rank_r2 : List Cond := [Cond.instanceMethod yX7_watchedBy, Cond.selects RX7 yX7_watchedBy yX7_watchedBy, Cond.code yX7_watchedBy cX7_watchedBy 5 (some .int), Cond.fieldLink RX7 131 "WallMarksModel" "watches" "I", Cond.fieldLink RX7 34 "WallMarksModel" "watchFrom" "[I", Cond.fieldLink RX7 37 "WallMarksModel" "watchTo" "[I", Cond.fieldLink RX7 40 "WallMarksModel" "watchLevel" "[I", Cond.methodLink RX7 145 yX7_isCounted, Cond.instanceMethod yX7_isCounted, Cond.selects RX7 yX7_isCounted yX7_isCounted, Cond.code yX7_isCounted cX7_isCounted 2 (some .boolean)]
def wsX7_rank : List Cond := .code yX7_rank cX7_rank 4 (some .int) :: ((wsX7_rank_r1 ++ wsX7_rank_r2) ++ wsX70)
def wsX7_isSixteenths : List Cond := .code yX7_isSixteenths cX7_isSixteenths 1 (some .boolean) :: ([.constantLong RX7 187 (16), .methodLink RX7 76 yX7_in, .static yX7_in, .initialized RX7, .code yX7_in cX7_in 6 (some .boolean)])
def wsX7_goOver : List Cond := .code yX7_goOver cX7_goOver 7 (some .long) :: ([.methodLink RX7 189 yX7_choices, .static yX7_choices, .initialized RX7, .code yX7_choices cX7_choices 5 (some .long), .methodLink RX7 193 yX7_power, .static yX7_power, .code yX7_power cX7_power 5 (some .long)])
def wsX7_again_r1 : List Cond := [Cond.constantLong RX7 196 (15), Cond.methodLink RX7 76 yX7_in, Cond.static yX7_in, Cond.initialized RX7, Cond.code yX7_in cX7_in 6 (some .boolean), Cond.methodLink RX7 198 yX7_isSixteenths, Cond.static yX7_isSixteenths, Cond.code yX7_isSixteenths cX7_isSixteenths 1 (some .boolean), Cond.constantLong RX7 187 (16), Cond.methodLink RX7 148 yX7_isTwo, Cond.static yX7_isTwo, Cond.code yX7_isTwo cX7_isTwo 1 (some .boolean), Cond.methodLink RX7 171 yX7_no, Cond.static yX7_no, Cond.code yX7_no cX7_no 1 (some .long), Cond.constantLong RX7 74 (-9223372036854775808), Cond.methodLink RX7 201 yX7_goOver, Cond.static yX7_goOver, Cond.code yX7_goOver cX7_goOver 7 (some .long), Cond.methodLink RX7 189 yX7_choices, Cond.static yX7_choices, Cond.code yX7_choices cX7_choices 5 (some .long), Cond.methodLink RX7 193 yX7_power, Cond.static yX7_power]
def wsX7_again_r2 : List Cond := [Cond.code yX7_power cX7_power 5 (some .long), Cond.methodLink RX7 167 yX7_part, Cond.static yX7_part, Cond.code yX7_part cX7_part 5 (some .long), Cond.methodLink RX7 105 yX7_divisor, Cond.static yX7_divisor, Cond.code yX7_divisor cX7_divisor 10 (some .long)]
def wsX7_again : List Cond := .code yX7_again cX7_again 5 (some .long) :: ((wsX7_again_r1 ++ wsX7_again_r2))
def wsX7_lasts : List Cond := .code yX7_lasts cX7_lasts 8 (some .int) :: ([.constantLong RX7 205 (256), .constantLong RX7 187 (16), .methodLink RX7 198 yX7_isSixteenths, .static yX7_isSixteenths, .initialized RX7, .code yX7_isSixteenths cX7_isSixteenths 1 (some .boolean), .methodLink RX7 76 yX7_in, .static yX7_in, .code yX7_in cX7_in 6 (some .boolean), .methodLink RX7 193 yX7_power, .static yX7_power, .code yX7_power cX7_power 5 (some .long)])
def wsX7_next_r1 : List Cond := [Cond.constantLong RX7 207 (20), Cond.constantLong RX7 209 (60), Cond.fieldLink RX7 139 "WallMarksModel" "exactMany" "I", Cond.methodLink RX7 76 yX7_in, Cond.static yX7_in, Cond.initialized RX7, Cond.code yX7_in cX7_in 6 (some .boolean), Cond.methodLink RX7 148 yX7_isTwo, Cond.static yX7_isTwo, Cond.code yX7_isTwo cX7_isTwo 1 (some .boolean), Cond.methodLink RX7 171 yX7_no, Cond.static yX7_no, Cond.code yX7_no cX7_no 1 (some .long), Cond.constantLong RX7 74 (-9223372036854775808), Cond.methodLink RX7 151 yX7_find, Cond.instanceMethod yX7_find, Cond.selects RX7 yX7_find yX7_find, Cond.code yX7_find cX7_find 3 none, Cond.fieldLink RX7 49 "WallMarksModel" "kinds" "[I", Cond.fieldLink RX7 52 "WallMarksModel" "levels" "[I", Cond.fieldLink RX7 115 "WallMarksModel" "tellings" "I", Cond.fieldLink RX7 31 "WallMarksModel" "toldTime" "[I", Cond.fieldLink RX7 43 "WallMarksModel" "settings" "[I", Cond.fieldLink RX7 22 "WallMarksModel" "toldYear" "[I"]
def wsX7_next_r2 : List Cond := [Cond.fieldLink RX7 25 "WallMarksModel" "toldKind" "[I", Cond.fieldLink RX7 28 "WallMarksModel" "toldLevel" "[I", Cond.fieldLink RX7 55 "WallMarksModel" "exactYear" "[I", Cond.fieldLink RX7 58 "WallMarksModel" "exactLevel" "[I", Cond.methodLink RX7 142 yX7_watchedBy, Cond.instanceMethod yX7_watchedBy, Cond.selects RX7 yX7_watchedBy yX7_watchedBy, Cond.code yX7_watchedBy cX7_watchedBy 5 (some .int), Cond.fieldLink RX7 131 "WallMarksModel" "watches" "I", Cond.fieldLink RX7 34 "WallMarksModel" "watchFrom" "[I", Cond.fieldLink RX7 37 "WallMarksModel" "watchTo" "[I", Cond.fieldLink RX7 40 "WallMarksModel" "watchLevel" "[I", Cond.methodLink RX7 145 yX7_isCounted, Cond.instanceMethod yX7_isCounted, Cond.selects RX7 yX7_isCounted yX7_isCounted, Cond.code yX7_isCounted cX7_isCounted 2 (some .boolean), Cond.methodLink RX7 189 yX7_choices, Cond.static yX7_choices, Cond.code yX7_choices cX7_choices 5 (some .long), Cond.methodLink RX7 167 yX7_part, Cond.static yX7_part, Cond.code yX7_part cX7_part 5 (some .long), Cond.methodLink RX7 105 yX7_divisor, Cond.static yX7_divisor]
def wsX7_next_r3 : List Cond := [Cond.code yX7_divisor cX7_divisor 10 (some .long)]
def wsX7_next : List Cond := .code yX7_next cX7_next 7 (some .long) :: ((wsX7_next_r1 ++ (wsX7_next_r2 ++ wsX7_next_r3)) ++ wsX70)
def wsX7_between_r1 : List Cond := [Cond.fieldLink RX7 139 "WallMarksModel" "exactMany" "I", Cond.methodLink RX7 198 yX7_isSixteenths, Cond.static yX7_isSixteenths, Cond.initialized RX7, Cond.code yX7_isSixteenths cX7_isSixteenths 1 (some .boolean), Cond.constantLong RX7 187 (16), Cond.methodLink RX7 76 yX7_in, Cond.static yX7_in, Cond.code yX7_in cX7_in 6 (some .boolean), Cond.methodLink RX7 148 yX7_isTwo, Cond.static yX7_isTwo, Cond.code yX7_isTwo cX7_isTwo 1 (some .boolean), Cond.methodLink RX7 171 yX7_no, Cond.static yX7_no, Cond.code yX7_no cX7_no 1 (some .long), Cond.constantLong RX7 74 (-9223372036854775808), Cond.methodLink RX7 151 yX7_find, Cond.instanceMethod yX7_find, Cond.selects RX7 yX7_find yX7_find, Cond.code yX7_find cX7_find 3 none, Cond.fieldLink RX7 49 "WallMarksModel" "kinds" "[I", Cond.fieldLink RX7 52 "WallMarksModel" "levels" "[I", Cond.fieldLink RX7 115 "WallMarksModel" "tellings" "I", Cond.fieldLink RX7 31 "WallMarksModel" "toldTime" "[I"]
def wsX7_between_r2 : List Cond := [Cond.fieldLink RX7 43 "WallMarksModel" "settings" "[I", Cond.fieldLink RX7 22 "WallMarksModel" "toldYear" "[I", Cond.fieldLink RX7 25 "WallMarksModel" "toldKind" "[I", Cond.fieldLink RX7 28 "WallMarksModel" "toldLevel" "[I", Cond.fieldLink RX7 55 "WallMarksModel" "exactYear" "[I", Cond.fieldLink RX7 58 "WallMarksModel" "exactLevel" "[I", Cond.methodLink RX7 142 yX7_watchedBy, Cond.instanceMethod yX7_watchedBy, Cond.selects RX7 yX7_watchedBy yX7_watchedBy, Cond.code yX7_watchedBy cX7_watchedBy 5 (some .int), Cond.fieldLink RX7 131 "WallMarksModel" "watches" "I", Cond.fieldLink RX7 34 "WallMarksModel" "watchFrom" "[I", Cond.fieldLink RX7 37 "WallMarksModel" "watchTo" "[I", Cond.fieldLink RX7 40 "WallMarksModel" "watchLevel" "[I", Cond.methodLink RX7 145 yX7_isCounted, Cond.instanceMethod yX7_isCounted, Cond.selects RX7 yX7_isCounted yX7_isCounted, Cond.code yX7_isCounted cX7_isCounted 2 (some .boolean), Cond.methodLink RX7 201 yX7_goOver, Cond.static yX7_goOver, Cond.code yX7_goOver cX7_goOver 7 (some .long), Cond.methodLink RX7 189 yX7_choices, Cond.static yX7_choices, Cond.code yX7_choices cX7_choices 5 (some .long)]
def wsX7_between_r3 : List Cond := [Cond.methodLink RX7 193 yX7_power, Cond.static yX7_power, Cond.code yX7_power cX7_power 5 (some .long), Cond.methodLink RX7 167 yX7_part, Cond.static yX7_part, Cond.code yX7_part cX7_part 5 (some .long), Cond.methodLink RX7 105 yX7_divisor, Cond.static yX7_divisor, Cond.code yX7_divisor cX7_divisor 10 (some .long)]
def wsX7_between : List Cond := .code yX7_between cX7_between 5 (some .long) :: ((wsX7_between_r1 ++ (wsX7_between_r2 ++ wsX7_between_r3)) ++ wsX70)
def wsX7_shouldOf : List Cond := .code yX7_shouldOf cX7_shouldOf 7 (some .int) :: ([.fieldLink RX7 61 "WallMarksModel" "orders" "[J", .fieldLink RX7 139 "WallMarksModel" "exactMany" "I", .methodLink RX7 211 yX7_millionths, .static yX7_millionths, .initialized RX7, .code yX7_millionths cX7_millionths 4 (some .int), .constantLong RX7 109 (1000000)] ++ wsX70)
def wsX7_recordsOf_r1 : List Cond := [Cond.fieldLink RX7 139 "WallMarksModel" "exactMany" "I", Cond.fieldLink RX7 58 "WallMarksModel" "exactLevel" "[I", Cond.fieldLink RX7 55 "WallMarksModel" "exactYear" "[I", Cond.methodLink RX7 151 yX7_find, Cond.instanceMethod yX7_find, Cond.selects RX7 yX7_find yX7_find, Cond.initialized RX7, Cond.code yX7_find cX7_find 3 none, Cond.fieldLink RX7 49 "WallMarksModel" "kinds" "[I", Cond.fieldLink RX7 52 "WallMarksModel" "levels" "[I", Cond.fieldLink RX7 115 "WallMarksModel" "tellings" "I", Cond.fieldLink RX7 31 "WallMarksModel" "toldTime" "[I", Cond.fieldLink RX7 43 "WallMarksModel" "settings" "[I", Cond.fieldLink RX7 22 "WallMarksModel" "toldYear" "[I", Cond.fieldLink RX7 25 "WallMarksModel" "toldKind" "[I", Cond.fieldLink RX7 28 "WallMarksModel" "toldLevel" "[I", Cond.methodLink RX7 142 yX7_watchedBy, Cond.instanceMethod yX7_watchedBy, Cond.selects RX7 yX7_watchedBy yX7_watchedBy, Cond.code yX7_watchedBy cX7_watchedBy 5 (some .int), Cond.fieldLink RX7 131 "WallMarksModel" "watches" "I", Cond.fieldLink RX7 34 "WallMarksModel" "watchFrom" "[I", Cond.fieldLink RX7 37 "WallMarksModel" "watchTo" "[I", Cond.fieldLink RX7 40 "WallMarksModel" "watchLevel" "[I"]
def wsX7_recordsOf_r2 : List Cond := [Cond.methodLink RX7 76 yX7_in, Cond.static yX7_in, Cond.code yX7_in cX7_in 6 (some .boolean), Cond.methodLink RX7 145 yX7_isCounted, Cond.instanceMethod yX7_isCounted, Cond.selects RX7 yX7_isCounted yX7_isCounted, Cond.code yX7_isCounted cX7_isCounted 2 (some .boolean), Cond.methodLink RX7 215 yX7_shouldOf, Cond.instanceMethod yX7_shouldOf, Cond.selects RX7 yX7_shouldOf yX7_shouldOf, Cond.code yX7_shouldOf cX7_shouldOf 7 (some .int), Cond.fieldLink RX7 61 "WallMarksModel" "orders" "[J", Cond.methodLink RX7 211 yX7_millionths, Cond.static yX7_millionths, Cond.code yX7_millionths cX7_millionths 4 (some .int), Cond.constantLong RX7 109 (1000000)]
def wsX7_recordsOf : List Cond := .code yX7_recordsOf cX7_recordsOf 8 (some .int) :: ((wsX7_recordsOf_r1 ++ wsX7_recordsOf_r2) ++ wsX70)
def wsX7_records_r1 : List Cond := [Cond.constantLong RX7 84 (3), Cond.methodLink RX7 76 yX7_in, Cond.static yX7_in, Cond.initialized RX7, Cond.code yX7_in cX7_in 6 (some .boolean), Cond.methodLink RX7 218 yX7_recordsOf, Cond.instanceMethod yX7_recordsOf, Cond.selects RX7 yX7_recordsOf yX7_recordsOf, Cond.code yX7_recordsOf cX7_recordsOf 8 (some .int), Cond.fieldLink RX7 139 "WallMarksModel" "exactMany" "I", Cond.fieldLink RX7 58 "WallMarksModel" "exactLevel" "[I", Cond.fieldLink RX7 55 "WallMarksModel" "exactYear" "[I", Cond.methodLink RX7 151 yX7_find, Cond.instanceMethod yX7_find, Cond.selects RX7 yX7_find yX7_find, Cond.code yX7_find cX7_find 3 none, Cond.fieldLink RX7 49 "WallMarksModel" "kinds" "[I", Cond.fieldLink RX7 52 "WallMarksModel" "levels" "[I", Cond.fieldLink RX7 115 "WallMarksModel" "tellings" "I", Cond.fieldLink RX7 31 "WallMarksModel" "toldTime" "[I", Cond.fieldLink RX7 43 "WallMarksModel" "settings" "[I", Cond.fieldLink RX7 22 "WallMarksModel" "toldYear" "[I", Cond.fieldLink RX7 25 "WallMarksModel" "toldKind" "[I", Cond.fieldLink RX7 28 "WallMarksModel" "toldLevel" "[I"]
def wsX7_records_r2 : List Cond := [Cond.methodLink RX7 142 yX7_watchedBy, Cond.instanceMethod yX7_watchedBy, Cond.selects RX7 yX7_watchedBy yX7_watchedBy, Cond.code yX7_watchedBy cX7_watchedBy 5 (some .int), Cond.fieldLink RX7 131 "WallMarksModel" "watches" "I", Cond.fieldLink RX7 34 "WallMarksModel" "watchFrom" "[I", Cond.fieldLink RX7 37 "WallMarksModel" "watchTo" "[I", Cond.fieldLink RX7 40 "WallMarksModel" "watchLevel" "[I", Cond.methodLink RX7 145 yX7_isCounted, Cond.instanceMethod yX7_isCounted, Cond.selects RX7 yX7_isCounted yX7_isCounted, Cond.code yX7_isCounted cX7_isCounted 2 (some .boolean), Cond.methodLink RX7 215 yX7_shouldOf, Cond.instanceMethod yX7_shouldOf, Cond.selects RX7 yX7_shouldOf yX7_shouldOf, Cond.code yX7_shouldOf cX7_shouldOf 7 (some .int), Cond.fieldLink RX7 61 "WallMarksModel" "orders" "[J", Cond.methodLink RX7 211 yX7_millionths, Cond.static yX7_millionths, Cond.code yX7_millionths cX7_millionths 4 (some .int), Cond.constantLong RX7 109 (1000000)]
def wsX7_records : List Cond := .code yX7_records cX7_records 2 (some .int) :: ((wsX7_records_r1 ++ wsX7_records_r2) ++ wsX70)
def wsX7_sign : List Cond := .code yX7_sign cX7_sign 1 (some .int) :: ([])
def wsX7_risesNow_r1 : List Cond := [Cond.fieldLink RX7 139 "WallMarksModel" "exactMany" "I", Cond.fieldLink RX7 58 "WallMarksModel" "exactLevel" "[I", Cond.methodLink RX7 151 yX7_find, Cond.instanceMethod yX7_find, Cond.selects RX7 yX7_find yX7_find, Cond.initialized RX7, Cond.code yX7_find cX7_find 3 none, Cond.fieldLink RX7 49 "WallMarksModel" "kinds" "[I", Cond.fieldLink RX7 52 "WallMarksModel" "levels" "[I", Cond.fieldLink RX7 115 "WallMarksModel" "tellings" "I", Cond.fieldLink RX7 31 "WallMarksModel" "toldTime" "[I", Cond.fieldLink RX7 43 "WallMarksModel" "settings" "[I", Cond.fieldLink RX7 22 "WallMarksModel" "toldYear" "[I", Cond.fieldLink RX7 25 "WallMarksModel" "toldKind" "[I", Cond.fieldLink RX7 28 "WallMarksModel" "toldLevel" "[I", Cond.fieldLink RX7 55 "WallMarksModel" "exactYear" "[I", Cond.methodLink RX7 142 yX7_watchedBy, Cond.instanceMethod yX7_watchedBy, Cond.selects RX7 yX7_watchedBy yX7_watchedBy, Cond.code yX7_watchedBy cX7_watchedBy 5 (some .int), Cond.fieldLink RX7 131 "WallMarksModel" "watches" "I", Cond.fieldLink RX7 34 "WallMarksModel" "watchFrom" "[I", Cond.fieldLink RX7 37 "WallMarksModel" "watchTo" "[I", Cond.fieldLink RX7 40 "WallMarksModel" "watchLevel" "[I"]
def wsX7_risesNow_r2 : List Cond := [Cond.methodLink RX7 76 yX7_in, Cond.static yX7_in, Cond.code yX7_in cX7_in 6 (some .boolean), Cond.methodLink RX7 145 yX7_isCounted, Cond.instanceMethod yX7_isCounted, Cond.selects RX7 yX7_isCounted yX7_isCounted, Cond.code yX7_isCounted cX7_isCounted 2 (some .boolean), Cond.methodLink RX7 221 yX7_sign, Cond.static yX7_sign, Cond.code yX7_sign cX7_sign 1 (some .int)]
def wsX7_risesNow : List Cond := .code yX7_risesNow cX7_risesNow 4 (some .int) :: ((wsX7_risesNow_r1 ++ wsX7_risesNow_r2) ++ wsX70)
def wsX7_rises_r1 : List Cond := [Cond.methodLink RX7 224 yX7_risesNow, Cond.instanceMethod yX7_risesNow, Cond.selects RX7 yX7_risesNow yX7_risesNow, Cond.initialized RX7, Cond.code yX7_risesNow cX7_risesNow 4 (some .int), Cond.fieldLink RX7 139 "WallMarksModel" "exactMany" "I", Cond.fieldLink RX7 58 "WallMarksModel" "exactLevel" "[I", Cond.methodLink RX7 151 yX7_find, Cond.instanceMethod yX7_find, Cond.selects RX7 yX7_find yX7_find, Cond.code yX7_find cX7_find 3 none, Cond.fieldLink RX7 49 "WallMarksModel" "kinds" "[I", Cond.fieldLink RX7 52 "WallMarksModel" "levels" "[I", Cond.fieldLink RX7 115 "WallMarksModel" "tellings" "I", Cond.fieldLink RX7 31 "WallMarksModel" "toldTime" "[I", Cond.fieldLink RX7 43 "WallMarksModel" "settings" "[I", Cond.fieldLink RX7 22 "WallMarksModel" "toldYear" "[I", Cond.fieldLink RX7 25 "WallMarksModel" "toldKind" "[I", Cond.fieldLink RX7 28 "WallMarksModel" "toldLevel" "[I", Cond.fieldLink RX7 55 "WallMarksModel" "exactYear" "[I", Cond.methodLink RX7 142 yX7_watchedBy, Cond.instanceMethod yX7_watchedBy, Cond.selects RX7 yX7_watchedBy yX7_watchedBy, Cond.code yX7_watchedBy cX7_watchedBy 5 (some .int)]
def wsX7_rises_r2 : List Cond := [Cond.fieldLink RX7 131 "WallMarksModel" "watches" "I", Cond.fieldLink RX7 34 "WallMarksModel" "watchFrom" "[I", Cond.fieldLink RX7 37 "WallMarksModel" "watchTo" "[I", Cond.fieldLink RX7 40 "WallMarksModel" "watchLevel" "[I", Cond.methodLink RX7 76 yX7_in, Cond.static yX7_in, Cond.code yX7_in cX7_in 6 (some .boolean), Cond.methodLink RX7 145 yX7_isCounted, Cond.instanceMethod yX7_isCounted, Cond.selects RX7 yX7_isCounted yX7_isCounted, Cond.code yX7_isCounted cX7_isCounted 2 (some .boolean), Cond.methodLink RX7 221 yX7_sign, Cond.static yX7_sign, Cond.code yX7_sign cX7_sign 1 (some .int)]
def wsX7_rises : List Cond := .code yX7_rises cX7_rises 1 (some .int) :: ((wsX7_rises_r1 ++ wsX7_rises_r2) ++ wsX70)
def wsX7_aheadOf : List Cond := .code yX7_aheadOf cX7_aheadOf 4 (some .int) :: ([.fieldLink RX7 139 "WallMarksModel" "exactMany" "I", .fieldLink RX7 55 "WallMarksModel" "exactYear" "[I"] ++ wsX70)
def wsX7_differs : List Cond := .code yX7_differs cX7_differs 7 (some .long) :: ([.fieldLink RX7 139 "WallMarksModel" "exactMany" "I", .fieldLink RX7 58 "WallMarksModel" "exactLevel" "[I"] ++ wsX70)
def wsX7_isParted : List Cond := .code yX7_isParted cX7_isParted 2 (some .boolean) :: ([.fieldLink RX7 139 "WallMarksModel" "exactMany" "I"] ++ wsX70)
def wsX7_change_r1 : List Cond := [Cond.fieldLink RX7 139 "WallMarksModel" "exactMany" "I", Cond.methodLink RX7 121 yX7_isYear, Cond.static yX7_isYear, Cond.initialized RX7, Cond.code yX7_isYear cX7_isYear 1 (some .boolean), Cond.constantLong RX7 111 (59), Cond.methodLink RX7 76 yX7_in, Cond.static yX7_in, Cond.code yX7_in cX7_in 6 (some .boolean), Cond.methodLink RX7 148 yX7_isTwo, Cond.static yX7_isTwo, Cond.code yX7_isTwo cX7_isTwo 1 (some .boolean), Cond.methodLink RX7 171 yX7_no, Cond.static yX7_no, Cond.code yX7_no cX7_no 1 (some .long), Cond.constantLong RX7 74 (-9223372036854775808), Cond.methodLink RX7 151 yX7_find, Cond.instanceMethod yX7_find, Cond.selects RX7 yX7_find yX7_find, Cond.code yX7_find cX7_find 3 none, Cond.fieldLink RX7 49 "WallMarksModel" "kinds" "[I", Cond.fieldLink RX7 52 "WallMarksModel" "levels" "[I", Cond.fieldLink RX7 115 "WallMarksModel" "tellings" "I", Cond.fieldLink RX7 31 "WallMarksModel" "toldTime" "[I"]
def wsX7_change_r2 : List Cond := [Cond.fieldLink RX7 43 "WallMarksModel" "settings" "[I", Cond.fieldLink RX7 22 "WallMarksModel" "toldYear" "[I", Cond.fieldLink RX7 25 "WallMarksModel" "toldKind" "[I", Cond.fieldLink RX7 28 "WallMarksModel" "toldLevel" "[I", Cond.fieldLink RX7 55 "WallMarksModel" "exactYear" "[I", Cond.fieldLink RX7 58 "WallMarksModel" "exactLevel" "[I", Cond.methodLink RX7 142 yX7_watchedBy, Cond.instanceMethod yX7_watchedBy, Cond.selects RX7 yX7_watchedBy yX7_watchedBy, Cond.code yX7_watchedBy cX7_watchedBy 5 (some .int), Cond.fieldLink RX7 131 "WallMarksModel" "watches" "I", Cond.fieldLink RX7 34 "WallMarksModel" "watchFrom" "[I", Cond.fieldLink RX7 37 "WallMarksModel" "watchTo" "[I", Cond.fieldLink RX7 40 "WallMarksModel" "watchLevel" "[I", Cond.methodLink RX7 145 yX7_isCounted, Cond.instanceMethod yX7_isCounted, Cond.selects RX7 yX7_isCounted yX7_isCounted, Cond.code yX7_isCounted cX7_isCounted 2 (some .boolean), Cond.methodLink RX7 227 yX7_aheadOf, Cond.instanceMethod yX7_aheadOf, Cond.selects RX7 yX7_aheadOf yX7_aheadOf, Cond.code yX7_aheadOf cX7_aheadOf 4 (some .int), Cond.methodLink RX7 230 yX7_isParted, Cond.instanceMethod yX7_isParted]
def wsX7_change_r3 : List Cond := [Cond.selects RX7 yX7_isParted yX7_isParted, Cond.code yX7_isParted cX7_isParted 2 (some .boolean), Cond.methodLink RX7 233 yX7_differs, Cond.instanceMethod yX7_differs, Cond.selects RX7 yX7_differs yX7_differs, Cond.code yX7_differs cX7_differs 7 (some .long), Cond.methodLink RX7 167 yX7_part, Cond.static yX7_part, Cond.code yX7_part cX7_part 5 (some .long), Cond.methodLink RX7 105 yX7_divisor, Cond.static yX7_divisor, Cond.code yX7_divisor cX7_divisor 10 (some .long)]
def wsX7_change : List Cond := .code yX7_change cX7_change 4 (some .long) :: ((wsX7_change_r1 ++ (wsX7_change_r2 ++ wsX7_change_r3)) ++ wsX70)
def wsX7_amount : List Cond := .code yX7_amount cX7_amount 2 (some .long) :: ([])
def wsX7_changedYear_r1 : List Cond := [Cond.fieldLink RX7 139 "WallMarksModel" "exactMany" "I", Cond.methodLink RX7 151 yX7_find, Cond.instanceMethod yX7_find, Cond.selects RX7 yX7_find yX7_find, Cond.initialized RX7, Cond.code yX7_find cX7_find 3 none, Cond.fieldLink RX7 49 "WallMarksModel" "kinds" "[I", Cond.fieldLink RX7 52 "WallMarksModel" "levels" "[I", Cond.fieldLink RX7 115 "WallMarksModel" "tellings" "I", Cond.fieldLink RX7 31 "WallMarksModel" "toldTime" "[I", Cond.fieldLink RX7 43 "WallMarksModel" "settings" "[I", Cond.fieldLink RX7 22 "WallMarksModel" "toldYear" "[I", Cond.fieldLink RX7 25 "WallMarksModel" "toldKind" "[I", Cond.fieldLink RX7 28 "WallMarksModel" "toldLevel" "[I", Cond.fieldLink RX7 55 "WallMarksModel" "exactYear" "[I", Cond.fieldLink RX7 58 "WallMarksModel" "exactLevel" "[I", Cond.methodLink RX7 142 yX7_watchedBy, Cond.instanceMethod yX7_watchedBy, Cond.selects RX7 yX7_watchedBy yX7_watchedBy, Cond.code yX7_watchedBy cX7_watchedBy 5 (some .int), Cond.fieldLink RX7 131 "WallMarksModel" "watches" "I", Cond.fieldLink RX7 34 "WallMarksModel" "watchFrom" "[I", Cond.fieldLink RX7 37 "WallMarksModel" "watchTo" "[I", Cond.fieldLink RX7 40 "WallMarksModel" "watchLevel" "[I"]
def wsX7_changedYear_r2 : List Cond := [Cond.methodLink RX7 76 yX7_in, Cond.static yX7_in, Cond.code yX7_in cX7_in 6 (some .boolean), Cond.methodLink RX7 145 yX7_isCounted, Cond.instanceMethod yX7_isCounted, Cond.selects RX7 yX7_isCounted yX7_isCounted, Cond.code yX7_isCounted cX7_isCounted 2 (some .boolean), Cond.methodLink RX7 227 yX7_aheadOf, Cond.instanceMethod yX7_aheadOf, Cond.selects RX7 yX7_aheadOf yX7_aheadOf, Cond.code yX7_aheadOf cX7_aheadOf 4 (some .int), Cond.methodLink RX7 230 yX7_isParted, Cond.instanceMethod yX7_isParted, Cond.selects RX7 yX7_isParted yX7_isParted, Cond.code yX7_isParted cX7_isParted 2 (some .boolean), Cond.methodLink RX7 233 yX7_differs, Cond.instanceMethod yX7_differs, Cond.selects RX7 yX7_differs yX7_differs, Cond.code yX7_differs cX7_differs 7 (some .long), Cond.methodLink RX7 236 yX7_amount, Cond.static yX7_amount, Cond.code yX7_amount cX7_amount 2 (some .long)]
def wsX7_changedYear : List Cond := .code yX7_changedYear cX7_changedYear 12 (some .int) :: ((wsX7_changedYear_r1 ++ wsX7_changedYear_r2) ++ wsX70)
def wsX7_likelyOf : List Cond := .code yX7_likelyOf cX7_likelyOf 15 (some .int) :: ([.fieldLink RX7 139 "WallMarksModel" "exactMany" "I", .fieldLink RX7 58 "WallMarksModel" "exactLevel" "[I", .methodLink RX7 227 yX7_aheadOf, .instanceMethod yX7_aheadOf, .selects RX7 yX7_aheadOf yX7_aheadOf, .initialized RX7, .code yX7_aheadOf cX7_aheadOf 4 (some .int), .fieldLink RX7 55 "WallMarksModel" "exactYear" "[I", .methodLink RX7 233 yX7_differs, .instanceMethod yX7_differs, .selects RX7 yX7_differs yX7_differs, .code yX7_differs cX7_differs 7 (some .long), .methodLink RX7 236 yX7_amount, .static yX7_amount, .code yX7_amount cX7_amount 2 (some .long), .methodLink RX7 211 yX7_millionths, .static yX7_millionths, .code yX7_millionths cX7_millionths 4 (some .int), .constantLong RX7 109 (1000000)] ++ wsX70)
def wsX7_changedOf_r1 : List Cond := [Cond.methodLink RX7 240 yX7_changedYear, Cond.instanceMethod yX7_changedYear, Cond.selects RX7 yX7_changedYear yX7_changedYear, Cond.initialized RX7, Cond.code yX7_changedYear cX7_changedYear 12 (some .int), Cond.fieldLink RX7 139 "WallMarksModel" "exactMany" "I", Cond.methodLink RX7 151 yX7_find, Cond.instanceMethod yX7_find, Cond.selects RX7 yX7_find yX7_find, Cond.code yX7_find cX7_find 3 none, Cond.fieldLink RX7 49 "WallMarksModel" "kinds" "[I", Cond.fieldLink RX7 52 "WallMarksModel" "levels" "[I", Cond.fieldLink RX7 115 "WallMarksModel" "tellings" "I", Cond.fieldLink RX7 31 "WallMarksModel" "toldTime" "[I", Cond.fieldLink RX7 43 "WallMarksModel" "settings" "[I", Cond.fieldLink RX7 22 "WallMarksModel" "toldYear" "[I", Cond.fieldLink RX7 25 "WallMarksModel" "toldKind" "[I", Cond.fieldLink RX7 28 "WallMarksModel" "toldLevel" "[I", Cond.fieldLink RX7 55 "WallMarksModel" "exactYear" "[I", Cond.fieldLink RX7 58 "WallMarksModel" "exactLevel" "[I", Cond.methodLink RX7 142 yX7_watchedBy, Cond.instanceMethod yX7_watchedBy, Cond.selects RX7 yX7_watchedBy yX7_watchedBy, Cond.code yX7_watchedBy cX7_watchedBy 5 (some .int)]
def wsX7_changedOf_r2 : List Cond := [Cond.fieldLink RX7 131 "WallMarksModel" "watches" "I", Cond.fieldLink RX7 34 "WallMarksModel" "watchFrom" "[I", Cond.fieldLink RX7 37 "WallMarksModel" "watchTo" "[I", Cond.fieldLink RX7 40 "WallMarksModel" "watchLevel" "[I", Cond.methodLink RX7 76 yX7_in, Cond.static yX7_in, Cond.code yX7_in cX7_in 6 (some .boolean), Cond.methodLink RX7 145 yX7_isCounted, Cond.instanceMethod yX7_isCounted, Cond.selects RX7 yX7_isCounted yX7_isCounted, Cond.code yX7_isCounted cX7_isCounted 2 (some .boolean), Cond.methodLink RX7 227 yX7_aheadOf, Cond.instanceMethod yX7_aheadOf, Cond.selects RX7 yX7_aheadOf yX7_aheadOf, Cond.code yX7_aheadOf cX7_aheadOf 4 (some .int), Cond.methodLink RX7 230 yX7_isParted, Cond.instanceMethod yX7_isParted, Cond.selects RX7 yX7_isParted yX7_isParted, Cond.code yX7_isParted cX7_isParted 2 (some .boolean), Cond.methodLink RX7 233 yX7_differs, Cond.instanceMethod yX7_differs, Cond.selects RX7 yX7_differs yX7_differs, Cond.code yX7_differs cX7_differs 7 (some .long), Cond.methodLink RX7 236 yX7_amount]
def wsX7_changedOf_r3 : List Cond := [Cond.static yX7_amount, Cond.code yX7_amount cX7_amount 2 (some .long), Cond.methodLink RX7 243 yX7_likelyOf, Cond.instanceMethod yX7_likelyOf, Cond.selects RX7 yX7_likelyOf yX7_likelyOf, Cond.code yX7_likelyOf cX7_likelyOf 15 (some .int), Cond.methodLink RX7 211 yX7_millionths, Cond.static yX7_millionths, Cond.code yX7_millionths cX7_millionths 4 (some .int), Cond.constantLong RX7 109 (1000000)]
def wsX7_changedOf : List Cond := .code yX7_changedOf cX7_changedOf 3 (some .int) :: ((wsX7_changedOf_r1 ++ (wsX7_changedOf_r2 ++ wsX7_changedOf_r3)) ++ wsX70)
def wsX7_changed_r1 : List Cond := [Cond.methodLink RX7 148 yX7_isTwo, Cond.static yX7_isTwo, Cond.initialized RX7, Cond.code yX7_isTwo cX7_isTwo 1 (some .boolean), Cond.methodLink RX7 76 yX7_in, Cond.static yX7_in, Cond.code yX7_in cX7_in 6 (some .boolean), Cond.methodLink RX7 246 yX7_changedOf, Cond.instanceMethod yX7_changedOf, Cond.selects RX7 yX7_changedOf yX7_changedOf, Cond.code yX7_changedOf cX7_changedOf 3 (some .int), Cond.methodLink RX7 240 yX7_changedYear, Cond.instanceMethod yX7_changedYear, Cond.selects RX7 yX7_changedYear yX7_changedYear, Cond.code yX7_changedYear cX7_changedYear 12 (some .int), Cond.fieldLink RX7 139 "WallMarksModel" "exactMany" "I", Cond.methodLink RX7 151 yX7_find, Cond.instanceMethod yX7_find, Cond.selects RX7 yX7_find yX7_find, Cond.code yX7_find cX7_find 3 none, Cond.fieldLink RX7 49 "WallMarksModel" "kinds" "[I", Cond.fieldLink RX7 52 "WallMarksModel" "levels" "[I", Cond.fieldLink RX7 115 "WallMarksModel" "tellings" "I", Cond.fieldLink RX7 31 "WallMarksModel" "toldTime" "[I"]
def wsX7_changed_r2 : List Cond := [Cond.fieldLink RX7 43 "WallMarksModel" "settings" "[I", Cond.fieldLink RX7 22 "WallMarksModel" "toldYear" "[I", Cond.fieldLink RX7 25 "WallMarksModel" "toldKind" "[I", Cond.fieldLink RX7 28 "WallMarksModel" "toldLevel" "[I", Cond.fieldLink RX7 55 "WallMarksModel" "exactYear" "[I", Cond.fieldLink RX7 58 "WallMarksModel" "exactLevel" "[I", Cond.methodLink RX7 142 yX7_watchedBy, Cond.instanceMethod yX7_watchedBy, Cond.selects RX7 yX7_watchedBy yX7_watchedBy, Cond.code yX7_watchedBy cX7_watchedBy 5 (some .int), Cond.fieldLink RX7 131 "WallMarksModel" "watches" "I", Cond.fieldLink RX7 34 "WallMarksModel" "watchFrom" "[I", Cond.fieldLink RX7 37 "WallMarksModel" "watchTo" "[I", Cond.fieldLink RX7 40 "WallMarksModel" "watchLevel" "[I", Cond.methodLink RX7 145 yX7_isCounted, Cond.instanceMethod yX7_isCounted, Cond.selects RX7 yX7_isCounted yX7_isCounted, Cond.code yX7_isCounted cX7_isCounted 2 (some .boolean), Cond.methodLink RX7 227 yX7_aheadOf, Cond.instanceMethod yX7_aheadOf, Cond.selects RX7 yX7_aheadOf yX7_aheadOf, Cond.code yX7_aheadOf cX7_aheadOf 4 (some .int), Cond.methodLink RX7 230 yX7_isParted, Cond.instanceMethod yX7_isParted]
def wsX7_changed_r3 : List Cond := [Cond.selects RX7 yX7_isParted yX7_isParted, Cond.code yX7_isParted cX7_isParted 2 (some .boolean), Cond.methodLink RX7 233 yX7_differs, Cond.instanceMethod yX7_differs, Cond.selects RX7 yX7_differs yX7_differs, Cond.code yX7_differs cX7_differs 7 (some .long), Cond.methodLink RX7 236 yX7_amount, Cond.static yX7_amount, Cond.code yX7_amount cX7_amount 2 (some .long), Cond.methodLink RX7 243 yX7_likelyOf, Cond.instanceMethod yX7_likelyOf, Cond.selects RX7 yX7_likelyOf yX7_likelyOf, Cond.code yX7_likelyOf cX7_likelyOf 15 (some .int), Cond.methodLink RX7 211 yX7_millionths, Cond.static yX7_millionths, Cond.code yX7_millionths cX7_millionths 4 (some .int), Cond.constantLong RX7 109 (1000000)]
def wsX7_changed : List Cond := .code yX7_changed cX7_changed 2 (some .int) :: ((wsX7_changed_r1 ++ (wsX7_changed_r2 ++ wsX7_changed_r3)) ++ wsX70)
def wsX7_sister : List Cond := .code yX7_sister cX7_sister 4 (some .int) :: ([.constantLong RX7 249 (-1), .constantLong RX7 113 (999), .fieldLink RX7 46 "WallMarksModel" "sisters" "[I", .methodLink RX7 121 yX7_isYear, .static yX7_isYear, .initialized RX7, .code yX7_isYear cX7_isYear 1 (some .boolean), .constantLong RX7 111 (59), .methodLink RX7 76 yX7_in, .static yX7_in, .code yX7_in cX7_in 6 (some .boolean)] ++ wsX70)
def wsX7_isCommon : List Cond := .code yX7_isCommon cX7_isCommon 2 (some .boolean) :: ([.fieldLink RX7 46 "WallMarksModel" "sisters" "[I", .fieldLink RX7 55 "WallMarksModel" "exactYear" "[I"] ++ wsX70)
def wsX7_commonOf_r1 : List Cond := [Cond.fieldLink RX7 139 "WallMarksModel" "exactMany" "I", Cond.fieldLink RX7 58 "WallMarksModel" "exactLevel" "[I", Cond.fieldLink RX7 46 "WallMarksModel" "sisters" "[I", Cond.fieldLink RX7 55 "WallMarksModel" "exactYear" "[I", Cond.methodLink RX7 151 yX7_find, Cond.instanceMethod yX7_find, Cond.selects RX7 yX7_find yX7_find, Cond.initialized RX7, Cond.code yX7_find cX7_find 3 none, Cond.fieldLink RX7 49 "WallMarksModel" "kinds" "[I", Cond.fieldLink RX7 52 "WallMarksModel" "levels" "[I", Cond.fieldLink RX7 115 "WallMarksModel" "tellings" "I", Cond.fieldLink RX7 31 "WallMarksModel" "toldTime" "[I", Cond.fieldLink RX7 43 "WallMarksModel" "settings" "[I", Cond.fieldLink RX7 22 "WallMarksModel" "toldYear" "[I", Cond.fieldLink RX7 25 "WallMarksModel" "toldKind" "[I", Cond.fieldLink RX7 28 "WallMarksModel" "toldLevel" "[I", Cond.methodLink RX7 142 yX7_watchedBy, Cond.instanceMethod yX7_watchedBy, Cond.selects RX7 yX7_watchedBy yX7_watchedBy, Cond.code yX7_watchedBy cX7_watchedBy 5 (some .int), Cond.fieldLink RX7 131 "WallMarksModel" "watches" "I", Cond.fieldLink RX7 34 "WallMarksModel" "watchFrom" "[I", Cond.fieldLink RX7 37 "WallMarksModel" "watchTo" "[I"]
def wsX7_commonOf_r2 : List Cond := [Cond.fieldLink RX7 40 "WallMarksModel" "watchLevel" "[I", Cond.methodLink RX7 76 yX7_in, Cond.static yX7_in, Cond.code yX7_in cX7_in 6 (some .boolean), Cond.methodLink RX7 145 yX7_isCounted, Cond.instanceMethod yX7_isCounted, Cond.selects RX7 yX7_isCounted yX7_isCounted, Cond.code yX7_isCounted cX7_isCounted 2 (some .boolean), Cond.methodLink RX7 251 yX7_isCommon, Cond.instanceMethod yX7_isCommon, Cond.selects RX7 yX7_isCommon yX7_isCommon, Cond.code yX7_isCommon cX7_isCommon 2 (some .boolean), Cond.methodLink RX7 221 yX7_sign, Cond.static yX7_sign, Cond.code yX7_sign cX7_sign 1 (some .int)]
def wsX7_commonOf : List Cond := .code yX7_commonOf cX7_commonOf 8 (some .int) :: ((wsX7_commonOf_r1 ++ wsX7_commonOf_r2) ++ wsX70)
def wsX7_common_r1 : List Cond := [Cond.methodLink RX7 148 yX7_isTwo, Cond.static yX7_isTwo, Cond.initialized RX7, Cond.code yX7_isTwo cX7_isTwo 1 (some .boolean), Cond.methodLink RX7 76 yX7_in, Cond.static yX7_in, Cond.code yX7_in cX7_in 6 (some .boolean), Cond.methodLink RX7 254 yX7_commonOf, Cond.instanceMethod yX7_commonOf, Cond.selects RX7 yX7_commonOf yX7_commonOf, Cond.code yX7_commonOf cX7_commonOf 8 (some .int), Cond.fieldLink RX7 139 "WallMarksModel" "exactMany" "I", Cond.fieldLink RX7 58 "WallMarksModel" "exactLevel" "[I", Cond.fieldLink RX7 46 "WallMarksModel" "sisters" "[I", Cond.fieldLink RX7 55 "WallMarksModel" "exactYear" "[I", Cond.methodLink RX7 151 yX7_find, Cond.instanceMethod yX7_find, Cond.selects RX7 yX7_find yX7_find, Cond.code yX7_find cX7_find 3 none, Cond.fieldLink RX7 49 "WallMarksModel" "kinds" "[I", Cond.fieldLink RX7 52 "WallMarksModel" "levels" "[I", Cond.fieldLink RX7 115 "WallMarksModel" "tellings" "I", Cond.fieldLink RX7 31 "WallMarksModel" "toldTime" "[I", Cond.fieldLink RX7 43 "WallMarksModel" "settings" "[I"]
def wsX7_common_r2 : List Cond := [Cond.fieldLink RX7 22 "WallMarksModel" "toldYear" "[I", Cond.fieldLink RX7 25 "WallMarksModel" "toldKind" "[I", Cond.fieldLink RX7 28 "WallMarksModel" "toldLevel" "[I", Cond.methodLink RX7 142 yX7_watchedBy, Cond.instanceMethod yX7_watchedBy, Cond.selects RX7 yX7_watchedBy yX7_watchedBy, Cond.code yX7_watchedBy cX7_watchedBy 5 (some .int), Cond.fieldLink RX7 131 "WallMarksModel" "watches" "I", Cond.fieldLink RX7 34 "WallMarksModel" "watchFrom" "[I", Cond.fieldLink RX7 37 "WallMarksModel" "watchTo" "[I", Cond.fieldLink RX7 40 "WallMarksModel" "watchLevel" "[I", Cond.methodLink RX7 145 yX7_isCounted, Cond.instanceMethod yX7_isCounted, Cond.selects RX7 yX7_isCounted yX7_isCounted, Cond.code yX7_isCounted cX7_isCounted 2 (some .boolean), Cond.methodLink RX7 251 yX7_isCommon, Cond.instanceMethod yX7_isCommon, Cond.selects RX7 yX7_isCommon yX7_isCommon, Cond.code yX7_isCommon cX7_isCommon 2 (some .boolean), Cond.methodLink RX7 221 yX7_sign, Cond.static yX7_sign, Cond.code yX7_sign cX7_sign 1 (some .int)]
def wsX7_common : List Cond := .code yX7_common cX7_common 2 (some .int) :: ((wsX7_common_r1 ++ wsX7_common_r2) ++ wsX70)
def wsX7_filledOf_r1 : List Cond := [Cond.fieldLink RX7 49 "WallMarksModel" "kinds" "[I", Cond.fieldLink RX7 46 "WallMarksModel" "sisters" "[I", Cond.fieldLink RX7 139 "WallMarksModel" "exactMany" "I", Cond.fieldLink RX7 55 "WallMarksModel" "exactYear" "[I", Cond.fieldLink RX7 58 "WallMarksModel" "exactLevel" "[I", Cond.methodLink RX7 151 yX7_find, Cond.instanceMethod yX7_find, Cond.selects RX7 yX7_find yX7_find, Cond.initialized RX7, Cond.code yX7_find cX7_find 3 none, Cond.fieldLink RX7 52 "WallMarksModel" "levels" "[I", Cond.fieldLink RX7 115 "WallMarksModel" "tellings" "I", Cond.fieldLink RX7 31 "WallMarksModel" "toldTime" "[I", Cond.fieldLink RX7 43 "WallMarksModel" "settings" "[I", Cond.fieldLink RX7 22 "WallMarksModel" "toldYear" "[I", Cond.fieldLink RX7 25 "WallMarksModel" "toldKind" "[I", Cond.fieldLink RX7 28 "WallMarksModel" "toldLevel" "[I", Cond.methodLink RX7 142 yX7_watchedBy, Cond.instanceMethod yX7_watchedBy, Cond.selects RX7 yX7_watchedBy yX7_watchedBy, Cond.code yX7_watchedBy cX7_watchedBy 5 (some .int), Cond.fieldLink RX7 131 "WallMarksModel" "watches" "I", Cond.fieldLink RX7 34 "WallMarksModel" "watchFrom" "[I", Cond.fieldLink RX7 37 "WallMarksModel" "watchTo" "[I"]
def wsX7_filledOf_r2 : List Cond := [Cond.fieldLink RX7 40 "WallMarksModel" "watchLevel" "[I", Cond.methodLink RX7 76 yX7_in, Cond.static yX7_in, Cond.code yX7_in cX7_in 6 (some .boolean), Cond.methodLink RX7 145 yX7_isCounted, Cond.instanceMethod yX7_isCounted, Cond.selects RX7 yX7_isCounted yX7_isCounted, Cond.code yX7_isCounted cX7_isCounted 2 (some .boolean), Cond.methodLink RX7 251 yX7_isCommon, Cond.instanceMethod yX7_isCommon, Cond.selects RX7 yX7_isCommon yX7_isCommon, Cond.code yX7_isCommon cX7_isCommon 2 (some .boolean)]
def wsX7_filledOf : List Cond := .code yX7_filledOf cX7_filledOf 14 (some .int) :: ((wsX7_filledOf_r1 ++ wsX7_filledOf_r2) ++ wsX70)
def wsX7_filled_r1 : List Cond := [Cond.constantLong RX7 90 (2), Cond.methodLink RX7 121 yX7_isYear, Cond.static yX7_isYear, Cond.initialized RX7, Cond.code yX7_isYear cX7_isYear 1 (some .boolean), Cond.constantLong RX7 111 (59), Cond.methodLink RX7 76 yX7_in, Cond.static yX7_in, Cond.code yX7_in cX7_in 6 (some .boolean), Cond.methodLink RX7 257 yX7_filledOf, Cond.instanceMethod yX7_filledOf, Cond.selects RX7 yX7_filledOf yX7_filledOf, Cond.code yX7_filledOf cX7_filledOf 14 (some .int), Cond.fieldLink RX7 49 "WallMarksModel" "kinds" "[I", Cond.fieldLink RX7 46 "WallMarksModel" "sisters" "[I", Cond.fieldLink RX7 139 "WallMarksModel" "exactMany" "I", Cond.fieldLink RX7 55 "WallMarksModel" "exactYear" "[I", Cond.fieldLink RX7 58 "WallMarksModel" "exactLevel" "[I", Cond.methodLink RX7 151 yX7_find, Cond.instanceMethod yX7_find, Cond.selects RX7 yX7_find yX7_find, Cond.code yX7_find cX7_find 3 none, Cond.fieldLink RX7 52 "WallMarksModel" "levels" "[I", Cond.fieldLink RX7 115 "WallMarksModel" "tellings" "I"]
def wsX7_filled_r2 : List Cond := [Cond.fieldLink RX7 31 "WallMarksModel" "toldTime" "[I", Cond.fieldLink RX7 43 "WallMarksModel" "settings" "[I", Cond.fieldLink RX7 22 "WallMarksModel" "toldYear" "[I", Cond.fieldLink RX7 25 "WallMarksModel" "toldKind" "[I", Cond.fieldLink RX7 28 "WallMarksModel" "toldLevel" "[I", Cond.methodLink RX7 142 yX7_watchedBy, Cond.instanceMethod yX7_watchedBy, Cond.selects RX7 yX7_watchedBy yX7_watchedBy, Cond.code yX7_watchedBy cX7_watchedBy 5 (some .int), Cond.fieldLink RX7 131 "WallMarksModel" "watches" "I", Cond.fieldLink RX7 34 "WallMarksModel" "watchFrom" "[I", Cond.fieldLink RX7 37 "WallMarksModel" "watchTo" "[I", Cond.fieldLink RX7 40 "WallMarksModel" "watchLevel" "[I", Cond.methodLink RX7 145 yX7_isCounted, Cond.instanceMethod yX7_isCounted, Cond.selects RX7 yX7_isCounted yX7_isCounted, Cond.code yX7_isCounted cX7_isCounted 2 (some .boolean), Cond.methodLink RX7 251 yX7_isCommon, Cond.instanceMethod yX7_isCommon, Cond.selects RX7 yX7_isCommon yX7_isCommon, Cond.code yX7_isCommon cX7_isCommon 2 (some .boolean)]
def wsX7_filled : List Cond := .code yX7_filled cX7_filled 3 (some .int) :: ((wsX7_filled_r1 ++ wsX7_filled_r2) ++ wsX70)
def wsX7_type : List Cond := .code yX7_type cX7_type 2 (some .int) :: ([.constantLong RX7 260 (255), .fieldLink RX7 262 "WallMarksModel" "typed" "I", .fieldLink RX7 65 "WallMarksModel" "text" "[I", .methodLink RX7 76 yX7_in, .static yX7_in, .initialized RX7, .code yX7_in cX7_in 6 (some .boolean)] ++ wsX70)
def wsX7_wipe : List Cond := .code yX7_wipe cX7_wipe 2 (some .int) :: ([.fieldLink RX7 262 "WallMarksModel" "typed" "I"] ++ wsX70)
def wsX7_here : List Cond := .code yX7_here cX7_here 1 (some .int) :: ([.fieldLink RX7 265 "WallMarksModel" "at" "I", .fieldLink RX7 262 "WallMarksModel" "typed" "I", .fieldLink RX7 65 "WallMarksModel" "text" "[I"] ++ wsX70)
def wsX7_number : List Cond := .code yX7_number cX7_number 4 (some .int) :: ([.fieldLink RX7 265 "WallMarksModel" "at" "I", .constantLong RX7 271 (48), .constantLong RX7 273 (57), .methodLink RX7 268 yX7_here, .instanceMethod yX7_here, .selects RX7 yX7_here yX7_here, .initialized RX7, .code yX7_here cX7_here 1 (some .int), .fieldLink RX7 262 "WallMarksModel" "typed" "I", .fieldLink RX7 65 "WallMarksModel" "text" "[I", .methodLink RX7 76 yX7_in, .static yX7_in, .code yX7_in cX7_in 6 (some .boolean)] ++ wsX70)
def wsX7_readsPair : List Cond := .code yX7_readsPair cX7_readsPair 3 (some .boolean) :: ([.fieldLink RX7 275 "WallMarksModel" "pairs" "I", .fieldLink RX7 68 "WallMarksModel" "pairLevel" "[I", .fieldLink RX7 265 "WallMarksModel" "at" "I", .fieldLink RX7 71 "WallMarksModel" "pairFlow" "[I", .methodLink RX7 278 yX7_number, .instanceMethod yX7_number, .selects RX7 yX7_number yX7_number, .initialized RX7, .code yX7_number cX7_number 4 (some .int), .constantLong RX7 271 (48), .constantLong RX7 273 (57), .methodLink RX7 268 yX7_here, .instanceMethod yX7_here, .selects RX7 yX7_here yX7_here, .code yX7_here cX7_here 1 (some .int), .fieldLink RX7 262 "WallMarksModel" "typed" "I", .fieldLink RX7 65 "WallMarksModel" "text" "[I", .methodLink RX7 76 yX7_in, .static yX7_in, .code yX7_in cX7_in 6 (some .boolean)] ++ wsX70)
def wsX7_reads : List Cond := .code yX7_reads cX7_reads 2 (some .int) :: ([.fieldLink RX7 265 "WallMarksModel" "at" "I", .fieldLink RX7 275 "WallMarksModel" "pairs" "I", .fieldLink RX7 262 "WallMarksModel" "typed" "I", .methodLink RX7 281 yX7_readsPair, .instanceMethod yX7_readsPair, .selects RX7 yX7_readsPair yX7_readsPair, .initialized RX7, .code yX7_readsPair cX7_readsPair 3 (some .boolean), .fieldLink RX7 68 "WallMarksModel" "pairLevel" "[I", .fieldLink RX7 71 "WallMarksModel" "pairFlow" "[I", .methodLink RX7 278 yX7_number, .instanceMethod yX7_number, .selects RX7 yX7_number yX7_number, .code yX7_number cX7_number 4 (some .int), .constantLong RX7 271 (48), .constantLong RX7 273 (57), .methodLink RX7 268 yX7_here, .instanceMethod yX7_here, .selects RX7 yX7_here yX7_here, .code yX7_here cX7_here 1 (some .int), .fieldLink RX7 65 "WallMarksModel" "text" "[I", .methodLink RX7 76 yX7_in, .static yX7_in, .code yX7_in cX7_in 6 (some .boolean)] ++ wsX70)
def wsX7_fault_r1 : List Cond := [Cond.methodLink RX7 285 yX7_reads, Cond.instanceMethod yX7_reads, Cond.selects RX7 yX7_reads yX7_reads, Cond.initialized RX7, Cond.code yX7_reads cX7_reads 2 (some .int), Cond.fieldLink RX7 265 "WallMarksModel" "at" "I", Cond.fieldLink RX7 275 "WallMarksModel" "pairs" "I", Cond.fieldLink RX7 262 "WallMarksModel" "typed" "I", Cond.methodLink RX7 281 yX7_readsPair, Cond.instanceMethod yX7_readsPair, Cond.selects RX7 yX7_readsPair yX7_readsPair, Cond.code yX7_readsPair cX7_readsPair 3 (some .boolean), Cond.fieldLink RX7 68 "WallMarksModel" "pairLevel" "[I", Cond.fieldLink RX7 71 "WallMarksModel" "pairFlow" "[I", Cond.methodLink RX7 278 yX7_number, Cond.instanceMethod yX7_number, Cond.selects RX7 yX7_number yX7_number, Cond.code yX7_number cX7_number 4 (some .int), Cond.constantLong RX7 271 (48), Cond.constantLong RX7 273 (57), Cond.methodLink RX7 268 yX7_here, Cond.instanceMethod yX7_here, Cond.selects RX7 yX7_here yX7_here, Cond.code yX7_here cX7_here 1 (some .int)]
def wsX7_fault_r2 : List Cond := [Cond.fieldLink RX7 65 "WallMarksModel" "text" "[I", Cond.methodLink RX7 76 yX7_in, Cond.static yX7_in, Cond.code yX7_in cX7_in 6 (some .boolean)]
def wsX7_fault : List Cond := .code yX7_fault cX7_fault 1 (some .int) :: ((wsX7_fault_r1 ++ wsX7_fault_r2) ++ wsX70)
def wsX7_flow_r1 : List Cond := [Cond.fieldLink RX7 275 "WallMarksModel" "pairs" "I", Cond.fieldLink RX7 68 "WallMarksModel" "pairLevel" "[I", Cond.fieldLink RX7 71 "WallMarksModel" "pairFlow" "[I", Cond.methodLink RX7 118 yX7_isLevel, Cond.static yX7_isLevel, Cond.initialized RX7, Cond.code yX7_isLevel cX7_isLevel 1 (some .boolean), Cond.constantLong RX7 113 (999), Cond.methodLink RX7 76 yX7_in, Cond.static yX7_in, Cond.code yX7_in cX7_in 6 (some .boolean), Cond.methodLink RX7 148 yX7_isTwo, Cond.static yX7_isTwo, Cond.code yX7_isTwo cX7_isTwo 1 (some .boolean), Cond.methodLink RX7 171 yX7_no, Cond.static yX7_no, Cond.code yX7_no cX7_no 1 (some .long), Cond.constantLong RX7 74 (-9223372036854775808), Cond.methodLink RX7 285 yX7_reads, Cond.instanceMethod yX7_reads, Cond.selects RX7 yX7_reads yX7_reads, Cond.code yX7_reads cX7_reads 2 (some .int), Cond.fieldLink RX7 265 "WallMarksModel" "at" "I", Cond.fieldLink RX7 262 "WallMarksModel" "typed" "I"]
def wsX7_flow_r2 : List Cond := [Cond.methodLink RX7 281 yX7_readsPair, Cond.instanceMethod yX7_readsPair, Cond.selects RX7 yX7_readsPair yX7_readsPair, Cond.code yX7_readsPair cX7_readsPair 3 (some .boolean), Cond.methodLink RX7 278 yX7_number, Cond.instanceMethod yX7_number, Cond.selects RX7 yX7_number yX7_number, Cond.code yX7_number cX7_number 4 (some .int), Cond.constantLong RX7 271 (48), Cond.constantLong RX7 273 (57), Cond.methodLink RX7 268 yX7_here, Cond.instanceMethod yX7_here, Cond.selects RX7 yX7_here yX7_here, Cond.code yX7_here cX7_here 1 (some .int), Cond.fieldLink RX7 65 "WallMarksModel" "text" "[I", Cond.methodLink RX7 167 yX7_part, Cond.static yX7_part, Cond.code yX7_part cX7_part 5 (some .long), Cond.methodLink RX7 105 yX7_divisor, Cond.static yX7_divisor, Cond.code yX7_divisor cX7_divisor 10 (some .long)]
def wsX7_flow : List Cond := .code yX7_flow cX7_flow 8 (some .long) :: ((wsX7_flow_r1 ++ wsX7_flow_r2) ++ wsX70)
def wsX7_costOf : List Cond := .code yX7_costOf cX7_costOf 4 (some .long) :: ([.fieldLink RX7 43 "WallMarksModel" "settings" "[I", .methodLink RX7 154 yX7_overOf, .instanceMethod yX7_overOf, .selects RX7 yX7_overOf yX7_overOf, .initialized RX7, .code yX7_overOf cX7_overOf 4 (some .int), .fieldLink RX7 49 "WallMarksModel" "kinds" "[I", .fieldLink RX7 52 "WallMarksModel" "levels" "[I", .methodLink RX7 145 yX7_isCounted, .instanceMethod yX7_isCounted, .selects RX7 yX7_isCounted yX7_isCounted, .code yX7_isCounted cX7_isCounted 2 (some .boolean), .methodLink RX7 76 yX7_in, .static yX7_in, .code yX7_in cX7_in 6 (some .boolean), .methodLink RX7 157 yX7_underOf, .instanceMethod yX7_underOf, .selects RX7 yX7_underOf yX7_underOf, .code yX7_underOf cX7_underOf 5 (some .int)] ++ wsX70)
def wsX7_dyke_r1 : List Cond := [Cond.methodLink RX7 118 yX7_isLevel, Cond.static yX7_isLevel, Cond.initialized RX7, Cond.code yX7_isLevel cX7_isLevel 1 (some .boolean), Cond.constantLong RX7 113 (999), Cond.methodLink RX7 76 yX7_in, Cond.static yX7_in, Cond.code yX7_in cX7_in 6 (some .boolean), Cond.methodLink RX7 148 yX7_isTwo, Cond.static yX7_isTwo, Cond.code yX7_isTwo cX7_isTwo 1 (some .boolean), Cond.methodLink RX7 171 yX7_no, Cond.static yX7_no, Cond.code yX7_no cX7_no 1 (some .long), Cond.constantLong RX7 74 (-9223372036854775808), Cond.methodLink RX7 151 yX7_find, Cond.instanceMethod yX7_find, Cond.selects RX7 yX7_find yX7_find, Cond.code yX7_find cX7_find 3 none, Cond.fieldLink RX7 49 "WallMarksModel" "kinds" "[I", Cond.fieldLink RX7 52 "WallMarksModel" "levels" "[I", Cond.fieldLink RX7 115 "WallMarksModel" "tellings" "I", Cond.fieldLink RX7 31 "WallMarksModel" "toldTime" "[I", Cond.fieldLink RX7 43 "WallMarksModel" "settings" "[I"]
def wsX7_dyke_r2 : List Cond := [Cond.fieldLink RX7 22 "WallMarksModel" "toldYear" "[I", Cond.fieldLink RX7 25 "WallMarksModel" "toldKind" "[I", Cond.fieldLink RX7 28 "WallMarksModel" "toldLevel" "[I", Cond.fieldLink RX7 139 "WallMarksModel" "exactMany" "I", Cond.fieldLink RX7 55 "WallMarksModel" "exactYear" "[I", Cond.fieldLink RX7 58 "WallMarksModel" "exactLevel" "[I", Cond.methodLink RX7 142 yX7_watchedBy, Cond.instanceMethod yX7_watchedBy, Cond.selects RX7 yX7_watchedBy yX7_watchedBy, Cond.code yX7_watchedBy cX7_watchedBy 5 (some .int), Cond.fieldLink RX7 131 "WallMarksModel" "watches" "I", Cond.fieldLink RX7 34 "WallMarksModel" "watchFrom" "[I", Cond.fieldLink RX7 37 "WallMarksModel" "watchTo" "[I", Cond.fieldLink RX7 40 "WallMarksModel" "watchLevel" "[I", Cond.methodLink RX7 145 yX7_isCounted, Cond.instanceMethod yX7_isCounted, Cond.selects RX7 yX7_isCounted yX7_isCounted, Cond.code yX7_isCounted cX7_isCounted 2 (some .boolean), Cond.methodLink RX7 288 yX7_costOf, Cond.instanceMethod yX7_costOf, Cond.selects RX7 yX7_costOf yX7_costOf, Cond.code yX7_costOf cX7_costOf 4 (some .long), Cond.methodLink RX7 154 yX7_overOf, Cond.instanceMethod yX7_overOf]
def wsX7_dyke_r3 : List Cond := [Cond.selects RX7 yX7_overOf yX7_overOf, Cond.code yX7_overOf cX7_overOf 4 (some .int), Cond.methodLink RX7 157 yX7_underOf, Cond.instanceMethod yX7_underOf, Cond.selects RX7 yX7_underOf yX7_underOf, Cond.code yX7_underOf cX7_underOf 5 (some .int), Cond.methodLink RX7 167 yX7_part, Cond.static yX7_part, Cond.code yX7_part cX7_part 5 (some .long), Cond.methodLink RX7 105 yX7_divisor, Cond.static yX7_divisor, Cond.code yX7_divisor cX7_divisor 10 (some .long)]
def wsX7_dyke : List Cond := .code yX7_dyke cX7_dyke 3 (some .long) :: ((wsX7_dyke_r1 ++ (wsX7_dyke_r2 ++ wsX7_dyke_r3)) ++ wsX70)
def wsX7_bestNow_r1 : List Cond := [Cond.methodLink RX7 151 yX7_find, Cond.instanceMethod yX7_find, Cond.selects RX7 yX7_find yX7_find, Cond.initialized RX7, Cond.code yX7_find cX7_find 3 none, Cond.fieldLink RX7 49 "WallMarksModel" "kinds" "[I", Cond.fieldLink RX7 52 "WallMarksModel" "levels" "[I", Cond.fieldLink RX7 115 "WallMarksModel" "tellings" "I", Cond.fieldLink RX7 31 "WallMarksModel" "toldTime" "[I", Cond.fieldLink RX7 43 "WallMarksModel" "settings" "[I", Cond.fieldLink RX7 22 "WallMarksModel" "toldYear" "[I", Cond.fieldLink RX7 25 "WallMarksModel" "toldKind" "[I", Cond.fieldLink RX7 28 "WallMarksModel" "toldLevel" "[I", Cond.fieldLink RX7 139 "WallMarksModel" "exactMany" "I", Cond.fieldLink RX7 55 "WallMarksModel" "exactYear" "[I", Cond.fieldLink RX7 58 "WallMarksModel" "exactLevel" "[I", Cond.methodLink RX7 142 yX7_watchedBy, Cond.instanceMethod yX7_watchedBy, Cond.selects RX7 yX7_watchedBy yX7_watchedBy, Cond.code yX7_watchedBy cX7_watchedBy 5 (some .int), Cond.fieldLink RX7 131 "WallMarksModel" "watches" "I", Cond.fieldLink RX7 34 "WallMarksModel" "watchFrom" "[I", Cond.fieldLink RX7 37 "WallMarksModel" "watchTo" "[I", Cond.fieldLink RX7 40 "WallMarksModel" "watchLevel" "[I"]
def wsX7_bestNow_r2 : List Cond := [Cond.methodLink RX7 76 yX7_in, Cond.static yX7_in, Cond.code yX7_in cX7_in 6 (some .boolean), Cond.methodLink RX7 145 yX7_isCounted, Cond.instanceMethod yX7_isCounted, Cond.selects RX7 yX7_isCounted yX7_isCounted, Cond.code yX7_isCounted cX7_isCounted 2 (some .boolean), Cond.methodLink RX7 288 yX7_costOf, Cond.instanceMethod yX7_costOf, Cond.selects RX7 yX7_costOf yX7_costOf, Cond.code yX7_costOf cX7_costOf 4 (some .long), Cond.methodLink RX7 154 yX7_overOf, Cond.instanceMethod yX7_overOf, Cond.selects RX7 yX7_overOf yX7_overOf, Cond.code yX7_overOf cX7_overOf 4 (some .int), Cond.methodLink RX7 157 yX7_underOf, Cond.instanceMethod yX7_underOf, Cond.selects RX7 yX7_underOf yX7_underOf, Cond.code yX7_underOf cX7_underOf 5 (some .int)]
def wsX7_bestNow : List Cond := .code yX7_bestNow cX7_bestNow 11 (some .int) :: ((wsX7_bestNow_r1 ++ wsX7_bestNow_r2) ++ wsX70)
def wsX7_best_r1 : List Cond := [Cond.methodLink RX7 291 yX7_bestNow, Cond.instanceMethod yX7_bestNow, Cond.selects RX7 yX7_bestNow yX7_bestNow, Cond.initialized RX7, Cond.code yX7_bestNow cX7_bestNow 11 (some .int), Cond.methodLink RX7 151 yX7_find, Cond.instanceMethod yX7_find, Cond.selects RX7 yX7_find yX7_find, Cond.code yX7_find cX7_find 3 none, Cond.fieldLink RX7 49 "WallMarksModel" "kinds" "[I", Cond.fieldLink RX7 52 "WallMarksModel" "levels" "[I", Cond.fieldLink RX7 115 "WallMarksModel" "tellings" "I", Cond.fieldLink RX7 31 "WallMarksModel" "toldTime" "[I", Cond.fieldLink RX7 43 "WallMarksModel" "settings" "[I", Cond.fieldLink RX7 22 "WallMarksModel" "toldYear" "[I", Cond.fieldLink RX7 25 "WallMarksModel" "toldKind" "[I", Cond.fieldLink RX7 28 "WallMarksModel" "toldLevel" "[I", Cond.fieldLink RX7 139 "WallMarksModel" "exactMany" "I", Cond.fieldLink RX7 55 "WallMarksModel" "exactYear" "[I", Cond.fieldLink RX7 58 "WallMarksModel" "exactLevel" "[I", Cond.methodLink RX7 142 yX7_watchedBy, Cond.instanceMethod yX7_watchedBy, Cond.selects RX7 yX7_watchedBy yX7_watchedBy, Cond.code yX7_watchedBy cX7_watchedBy 5 (some .int)]
def wsX7_best_r2 : List Cond := [Cond.fieldLink RX7 131 "WallMarksModel" "watches" "I", Cond.fieldLink RX7 34 "WallMarksModel" "watchFrom" "[I", Cond.fieldLink RX7 37 "WallMarksModel" "watchTo" "[I", Cond.fieldLink RX7 40 "WallMarksModel" "watchLevel" "[I", Cond.methodLink RX7 76 yX7_in, Cond.static yX7_in, Cond.code yX7_in cX7_in 6 (some .boolean), Cond.methodLink RX7 145 yX7_isCounted, Cond.instanceMethod yX7_isCounted, Cond.selects RX7 yX7_isCounted yX7_isCounted, Cond.code yX7_isCounted cX7_isCounted 2 (some .boolean), Cond.methodLink RX7 288 yX7_costOf, Cond.instanceMethod yX7_costOf, Cond.selects RX7 yX7_costOf yX7_costOf, Cond.code yX7_costOf cX7_costOf 4 (some .long), Cond.methodLink RX7 154 yX7_overOf, Cond.instanceMethod yX7_overOf, Cond.selects RX7 yX7_overOf yX7_overOf, Cond.code yX7_overOf cX7_overOf 4 (some .int), Cond.methodLink RX7 157 yX7_underOf, Cond.instanceMethod yX7_underOf, Cond.selects RX7 yX7_underOf yX7_underOf, Cond.code yX7_underOf cX7_underOf 5 (some .int)]
def wsX7_best : List Cond := .code yX7_best cX7_best 1 (some .int) :: ((wsX7_best_r1 ++ wsX7_best_r2) ++ wsX70)
def wsX7_sureOf_r1 : List Cond := [Cond.methodLink RX7 151 yX7_find, Cond.instanceMethod yX7_find, Cond.selects RX7 yX7_find yX7_find, Cond.initialized RX7, Cond.code yX7_find cX7_find 3 none, Cond.fieldLink RX7 49 "WallMarksModel" "kinds" "[I", Cond.fieldLink RX7 52 "WallMarksModel" "levels" "[I", Cond.fieldLink RX7 115 "WallMarksModel" "tellings" "I", Cond.fieldLink RX7 31 "WallMarksModel" "toldTime" "[I", Cond.fieldLink RX7 43 "WallMarksModel" "settings" "[I", Cond.fieldLink RX7 22 "WallMarksModel" "toldYear" "[I", Cond.fieldLink RX7 25 "WallMarksModel" "toldKind" "[I", Cond.fieldLink RX7 28 "WallMarksModel" "toldLevel" "[I", Cond.fieldLink RX7 139 "WallMarksModel" "exactMany" "I", Cond.fieldLink RX7 55 "WallMarksModel" "exactYear" "[I", Cond.fieldLink RX7 58 "WallMarksModel" "exactLevel" "[I", Cond.methodLink RX7 142 yX7_watchedBy, Cond.instanceMethod yX7_watchedBy, Cond.selects RX7 yX7_watchedBy yX7_watchedBy, Cond.code yX7_watchedBy cX7_watchedBy 5 (some .int), Cond.fieldLink RX7 131 "WallMarksModel" "watches" "I", Cond.fieldLink RX7 34 "WallMarksModel" "watchFrom" "[I", Cond.fieldLink RX7 37 "WallMarksModel" "watchTo" "[I", Cond.fieldLink RX7 40 "WallMarksModel" "watchLevel" "[I"]
def wsX7_sureOf_r2 : List Cond := [Cond.methodLink RX7 76 yX7_in, Cond.static yX7_in, Cond.code yX7_in cX7_in 6 (some .boolean), Cond.methodLink RX7 145 yX7_isCounted, Cond.instanceMethod yX7_isCounted, Cond.selects RX7 yX7_isCounted yX7_isCounted, Cond.code yX7_isCounted cX7_isCounted 2 (some .boolean), Cond.methodLink RX7 160 yX7_counted, Cond.instanceMethod yX7_counted, Cond.selects RX7 yX7_counted yX7_counted, Cond.code yX7_counted cX7_counted 3 (some .int), Cond.methodLink RX7 157 yX7_underOf, Cond.instanceMethod yX7_underOf, Cond.selects RX7 yX7_underOf yX7_underOf, Cond.code yX7_underOf cX7_underOf 5 (some .int)]
def wsX7_sureOf : List Cond := .code yX7_sureOf cX7_sureOf 5 (some .int) :: ((wsX7_sureOf_r1 ++ wsX7_sureOf_r2) ++ wsX70)
def wsX7_sure_r1 : List Cond := [Cond.methodLink RX7 181 yX7_isPart, Cond.static yX7_isPart, Cond.initialized RX7, Cond.code yX7_isPart cX7_isPart 1 (some .boolean), Cond.constantLong RX7 179 (100), Cond.methodLink RX7 76 yX7_in, Cond.static yX7_in, Cond.code yX7_in cX7_in 6 (some .boolean), Cond.methodLink RX7 294 yX7_sureOf, Cond.instanceMethod yX7_sureOf, Cond.selects RX7 yX7_sureOf yX7_sureOf, Cond.code yX7_sureOf cX7_sureOf 5 (some .int), Cond.methodLink RX7 151 yX7_find, Cond.instanceMethod yX7_find, Cond.selects RX7 yX7_find yX7_find, Cond.code yX7_find cX7_find 3 none, Cond.fieldLink RX7 49 "WallMarksModel" "kinds" "[I", Cond.fieldLink RX7 52 "WallMarksModel" "levels" "[I", Cond.fieldLink RX7 115 "WallMarksModel" "tellings" "I", Cond.fieldLink RX7 31 "WallMarksModel" "toldTime" "[I", Cond.fieldLink RX7 43 "WallMarksModel" "settings" "[I", Cond.fieldLink RX7 22 "WallMarksModel" "toldYear" "[I", Cond.fieldLink RX7 25 "WallMarksModel" "toldKind" "[I", Cond.fieldLink RX7 28 "WallMarksModel" "toldLevel" "[I"]
def wsX7_sure_r2 : List Cond := [Cond.fieldLink RX7 139 "WallMarksModel" "exactMany" "I", Cond.fieldLink RX7 55 "WallMarksModel" "exactYear" "[I", Cond.fieldLink RX7 58 "WallMarksModel" "exactLevel" "[I", Cond.methodLink RX7 142 yX7_watchedBy, Cond.instanceMethod yX7_watchedBy, Cond.selects RX7 yX7_watchedBy yX7_watchedBy, Cond.code yX7_watchedBy cX7_watchedBy 5 (some .int), Cond.fieldLink RX7 131 "WallMarksModel" "watches" "I", Cond.fieldLink RX7 34 "WallMarksModel" "watchFrom" "[I", Cond.fieldLink RX7 37 "WallMarksModel" "watchTo" "[I", Cond.fieldLink RX7 40 "WallMarksModel" "watchLevel" "[I", Cond.methodLink RX7 145 yX7_isCounted, Cond.instanceMethod yX7_isCounted, Cond.selects RX7 yX7_isCounted yX7_isCounted, Cond.code yX7_isCounted cX7_isCounted 2 (some .boolean), Cond.methodLink RX7 160 yX7_counted, Cond.instanceMethod yX7_counted, Cond.selects RX7 yX7_counted yX7_counted, Cond.code yX7_counted cX7_counted 3 (some .int), Cond.methodLink RX7 157 yX7_underOf, Cond.instanceMethod yX7_underOf, Cond.selects RX7 yX7_underOf yX7_underOf, Cond.code yX7_underOf cX7_underOf 5 (some .int)]
def wsX7_sure : List Cond := .code yX7_sure cX7_sure 2 (some .int) :: ((wsX7_sure_r1 ++ wsX7_sure_r2) ++ wsX70)
def wsX7_write_r1 : List Cond := [Cond.fieldLink RX7 7 "WallMarksModel" "forms" "[I", Cond.fieldLink RX7 13 "WallMarksModel" "sizes" "[I", Cond.fieldLink RX7 16 "WallMarksModel" "items" "[I", Cond.fieldLink RX7 49 "WallMarksModel" "kinds" "[I", Cond.fieldLink RX7 52 "WallMarksModel" "levels" "[I", Cond.methodLink RX7 121 yX7_isYear, Cond.static yX7_isYear, Cond.initialized RX7, Cond.code yX7_isYear cX7_isYear 1 (some .boolean), Cond.constantLong RX7 111 (59), Cond.methodLink RX7 76 yX7_in, Cond.static yX7_in, Cond.code yX7_in cX7_in 6 (some .boolean), Cond.methodLink RX7 86 yX7_isSheet, Cond.static yX7_isSheet, Cond.code yX7_isSheet cX7_isSheet 1 (some .boolean), Cond.constantLong RX7 84 (3), Cond.methodLink RX7 92 yX7_met, Cond.instanceMethod yX7_met, Cond.selects RX7 yX7_met yX7_met, Cond.code yX7_met cX7_met 2 (some .int), Cond.fieldLink RX7 80 "WallMarksModel" "latest" "I", Cond.methodLink RX7 151 yX7_find, Cond.instanceMethod yX7_find]
def wsX7_write_r2 : List Cond := [Cond.selects RX7 yX7_find yX7_find, Cond.code yX7_find cX7_find 3 none, Cond.fieldLink RX7 115 "WallMarksModel" "tellings" "I", Cond.fieldLink RX7 31 "WallMarksModel" "toldTime" "[I", Cond.fieldLink RX7 43 "WallMarksModel" "settings" "[I", Cond.fieldLink RX7 22 "WallMarksModel" "toldYear" "[I", Cond.fieldLink RX7 25 "WallMarksModel" "toldKind" "[I", Cond.fieldLink RX7 28 "WallMarksModel" "toldLevel" "[I", Cond.fieldLink RX7 139 "WallMarksModel" "exactMany" "I", Cond.fieldLink RX7 55 "WallMarksModel" "exactYear" "[I", Cond.fieldLink RX7 58 "WallMarksModel" "exactLevel" "[I", Cond.methodLink RX7 142 yX7_watchedBy, Cond.instanceMethod yX7_watchedBy, Cond.selects RX7 yX7_watchedBy yX7_watchedBy, Cond.code yX7_watchedBy cX7_watchedBy 5 (some .int), Cond.fieldLink RX7 131 "WallMarksModel" "watches" "I", Cond.fieldLink RX7 34 "WallMarksModel" "watchFrom" "[I", Cond.fieldLink RX7 37 "WallMarksModel" "watchTo" "[I", Cond.fieldLink RX7 40 "WallMarksModel" "watchLevel" "[I", Cond.methodLink RX7 145 yX7_isCounted, Cond.instanceMethod yX7_isCounted, Cond.selects RX7 yX7_isCounted yX7_isCounted, Cond.code yX7_isCounted cX7_isCounted 2 (some .boolean), Cond.methodLink RX7 100 yX7_cut]
def wsX7_write_r3 : List Cond := [Cond.static yX7_cut, Cond.code yX7_cut cX7_cut 2 (some .int)]
def wsX7_write : List Cond := .code yX7_write cX7_write 5 (some .int) :: ((wsX7_write_r1 ++ (wsX7_write_r2 ++ wsX7_write_r3)) ++ wsX70)
def wsX7_countKind : List Cond := .code yX7_countKind cX7_countKind 4 (some .int) :: ([.fieldLink RX7 49 "WallMarksModel" "kinds" "[I", .methodLink RX7 145 yX7_isCounted, .instanceMethod yX7_isCounted, .selects RX7 yX7_isCounted yX7_isCounted, .initialized RX7, .code yX7_isCounted cX7_isCounted 2 (some .boolean), .fieldLink RX7 43 "WallMarksModel" "settings" "[I", .methodLink RX7 76 yX7_in, .static yX7_in, .code yX7_in cX7_in 6 (some .boolean)] ++ wsX70)
def wsX7_greatest : List Cond := .code yX7_greatest cX7_greatest 3 (some .int) :: ([.fieldLink RX7 139 "WallMarksModel" "exactMany" "I", .fieldLink RX7 58 "WallMarksModel" "exactLevel" "[I"] ++ wsX70)
def wsX7_count_r1 : List Cond := [Cond.fieldLink RX7 115 "WallMarksModel" "tellings" "I", Cond.fieldLink RX7 131 "WallMarksModel" "watches" "I", Cond.fieldLink RX7 139 "WallMarksModel" "exactMany" "I", Cond.fieldLink RX7 46 "WallMarksModel" "sisters" "[I", Cond.fieldLink RX7 262 "WallMarksModel" "typed" "I", Cond.fieldLink RX7 80 "WallMarksModel" "latest" "I", Cond.methodLink RX7 151 yX7_find, Cond.instanceMethod yX7_find, Cond.selects RX7 yX7_find yX7_find, Cond.initialized RX7, Cond.code yX7_find cX7_find 3 none, Cond.fieldLink RX7 49 "WallMarksModel" "kinds" "[I", Cond.fieldLink RX7 52 "WallMarksModel" "levels" "[I", Cond.fieldLink RX7 31 "WallMarksModel" "toldTime" "[I", Cond.fieldLink RX7 43 "WallMarksModel" "settings" "[I", Cond.fieldLink RX7 22 "WallMarksModel" "toldYear" "[I", Cond.fieldLink RX7 25 "WallMarksModel" "toldKind" "[I", Cond.fieldLink RX7 28 "WallMarksModel" "toldLevel" "[I", Cond.fieldLink RX7 55 "WallMarksModel" "exactYear" "[I", Cond.fieldLink RX7 58 "WallMarksModel" "exactLevel" "[I", Cond.methodLink RX7 142 yX7_watchedBy, Cond.instanceMethod yX7_watchedBy, Cond.selects RX7 yX7_watchedBy yX7_watchedBy, Cond.code yX7_watchedBy cX7_watchedBy 5 (some .int)]
def wsX7_count_r2 : List Cond := [Cond.fieldLink RX7 34 "WallMarksModel" "watchFrom" "[I", Cond.fieldLink RX7 37 "WallMarksModel" "watchTo" "[I", Cond.fieldLink RX7 40 "WallMarksModel" "watchLevel" "[I", Cond.methodLink RX7 76 yX7_in, Cond.static yX7_in, Cond.code yX7_in cX7_in 6 (some .boolean), Cond.methodLink RX7 145 yX7_isCounted, Cond.instanceMethod yX7_isCounted, Cond.selects RX7 yX7_isCounted yX7_isCounted, Cond.code yX7_isCounted cX7_isCounted 2 (some .boolean), Cond.methodLink RX7 297 yX7_countKind, Cond.instanceMethod yX7_countKind, Cond.selects RX7 yX7_countKind yX7_countKind, Cond.code yX7_countKind cX7_countKind 4 (some .int), Cond.methodLink RX7 300 yX7_greatest, Cond.instanceMethod yX7_greatest, Cond.selects RX7 yX7_greatest yX7_greatest, Cond.code yX7_greatest cX7_greatest 3 (some .int)]
def wsX7_count : List Cond := .code yX7_count cX7_count 4 (some .int) :: ((wsX7_count_r1 ++ wsX7_count_r2) ++ wsX70)
def wsX7_digest_r1 : List Cond := [Cond.constantLong RX7 303 (17), Cond.constantLong RX7 305 (31), Cond.fieldLink RX7 49 "WallMarksModel" "kinds" "[I", Cond.fieldLink RX7 52 "WallMarksModel" "levels" "[I", Cond.methodLink RX7 307 yX7_count, Cond.instanceMethod yX7_count, Cond.selects RX7 yX7_count yX7_count, Cond.initialized RX7, Cond.code yX7_count cX7_count 4 (some .int), Cond.fieldLink RX7 115 "WallMarksModel" "tellings" "I", Cond.fieldLink RX7 131 "WallMarksModel" "watches" "I", Cond.fieldLink RX7 139 "WallMarksModel" "exactMany" "I", Cond.fieldLink RX7 46 "WallMarksModel" "sisters" "[I", Cond.fieldLink RX7 262 "WallMarksModel" "typed" "I", Cond.fieldLink RX7 80 "WallMarksModel" "latest" "I", Cond.methodLink RX7 151 yX7_find, Cond.instanceMethod yX7_find, Cond.selects RX7 yX7_find yX7_find, Cond.code yX7_find cX7_find 3 none, Cond.fieldLink RX7 31 "WallMarksModel" "toldTime" "[I", Cond.fieldLink RX7 43 "WallMarksModel" "settings" "[I", Cond.fieldLink RX7 22 "WallMarksModel" "toldYear" "[I", Cond.fieldLink RX7 25 "WallMarksModel" "toldKind" "[I", Cond.fieldLink RX7 28 "WallMarksModel" "toldLevel" "[I"]
def wsX7_digest_r2 : List Cond := [Cond.fieldLink RX7 55 "WallMarksModel" "exactYear" "[I", Cond.fieldLink RX7 58 "WallMarksModel" "exactLevel" "[I", Cond.methodLink RX7 142 yX7_watchedBy, Cond.instanceMethod yX7_watchedBy, Cond.selects RX7 yX7_watchedBy yX7_watchedBy, Cond.code yX7_watchedBy cX7_watchedBy 5 (some .int), Cond.fieldLink RX7 34 "WallMarksModel" "watchFrom" "[I", Cond.fieldLink RX7 37 "WallMarksModel" "watchTo" "[I", Cond.fieldLink RX7 40 "WallMarksModel" "watchLevel" "[I", Cond.methodLink RX7 76 yX7_in, Cond.static yX7_in, Cond.code yX7_in cX7_in 6 (some .boolean), Cond.methodLink RX7 145 yX7_isCounted, Cond.instanceMethod yX7_isCounted, Cond.selects RX7 yX7_isCounted yX7_isCounted, Cond.code yX7_isCounted cX7_isCounted 2 (some .boolean), Cond.methodLink RX7 297 yX7_countKind, Cond.instanceMethod yX7_countKind, Cond.selects RX7 yX7_countKind yX7_countKind, Cond.code yX7_countKind cX7_countKind 4 (some .int), Cond.methodLink RX7 300 yX7_greatest, Cond.instanceMethod yX7_greatest, Cond.selects RX7 yX7_greatest yX7_greatest, Cond.code yX7_greatest cX7_greatest 3 (some .int)]
def wsX7_digest_r3 : List Cond := [Cond.methodLink RX7 257 yX7_filledOf, Cond.instanceMethod yX7_filledOf, Cond.selects RX7 yX7_filledOf yX7_filledOf, Cond.code yX7_filledOf cX7_filledOf 14 (some .int), Cond.methodLink RX7 251 yX7_isCommon, Cond.instanceMethod yX7_isCommon, Cond.selects RX7 yX7_isCommon yX7_isCommon, Cond.code yX7_isCommon cX7_isCommon 2 (some .boolean), Cond.methodLink RX7 164 yX7_overBy, Cond.instanceMethod yX7_overBy, Cond.selects RX7 yX7_overBy yX7_overBy, Cond.code yX7_overBy cX7_overBy 3 (some .int), Cond.methodLink RX7 154 yX7_overOf, Cond.instanceMethod yX7_overOf, Cond.selects RX7 yX7_overOf yX7_overOf, Cond.code yX7_overOf cX7_overOf 4 (some .int), Cond.methodLink RX7 157 yX7_underOf, Cond.instanceMethod yX7_underOf, Cond.selects RX7 yX7_underOf yX7_underOf, Cond.code yX7_underOf cX7_underOf 5 (some .int), Cond.methodLink RX7 160 yX7_counted, Cond.instanceMethod yX7_counted, Cond.selects RX7 yX7_counted yX7_counted, Cond.code yX7_counted cX7_counted 3 (some .int)]
def wsX7_digest_r4 : List Cond := [Cond.methodLink RX7 175 yX7_rareOf, Cond.instanceMethod yX7_rareOf, Cond.selects RX7 yX7_rareOf yX7_rareOf, Cond.code yX7_rareOf cX7_rareOf 7 (some .long), Cond.methodLink RX7 167 yX7_part, Cond.static yX7_part, Cond.code yX7_part cX7_part 5 (some .long), Cond.methodLink RX7 105 yX7_divisor, Cond.static yX7_divisor, Cond.code yX7_divisor cX7_divisor 10 (some .long), Cond.methodLink RX7 171 yX7_no, Cond.static yX7_no, Cond.code yX7_no cX7_no 1 (some .long), Cond.constantLong RX7 74 (-9223372036854775808), Cond.methodLink RX7 184 yX7_soRareOf, Cond.instanceMethod yX7_soRareOf, Cond.selects RX7 yX7_soRareOf yX7_soRareOf, Cond.code yX7_soRareOf cX7_soRareOf 6 (some .int), Cond.methodLink RX7 218 yX7_recordsOf, Cond.instanceMethod yX7_recordsOf, Cond.selects RX7 yX7_recordsOf yX7_recordsOf, Cond.code yX7_recordsOf cX7_recordsOf 8 (some .int), Cond.methodLink RX7 215 yX7_shouldOf, Cond.instanceMethod yX7_shouldOf]
def wsX7_digest_r5 : List Cond := [Cond.selects RX7 yX7_shouldOf yX7_shouldOf, Cond.code yX7_shouldOf cX7_shouldOf 7 (some .int), Cond.fieldLink RX7 61 "WallMarksModel" "orders" "[J", Cond.methodLink RX7 211 yX7_millionths, Cond.static yX7_millionths, Cond.code yX7_millionths cX7_millionths 4 (some .int), Cond.constantLong RX7 109 (1000000), Cond.methodLink RX7 224 yX7_risesNow, Cond.instanceMethod yX7_risesNow, Cond.selects RX7 yX7_risesNow yX7_risesNow, Cond.code yX7_risesNow cX7_risesNow 4 (some .int), Cond.methodLink RX7 221 yX7_sign, Cond.static yX7_sign, Cond.code yX7_sign cX7_sign 1 (some .int), Cond.methodLink RX7 246 yX7_changedOf, Cond.instanceMethod yX7_changedOf, Cond.selects RX7 yX7_changedOf yX7_changedOf, Cond.code yX7_changedOf cX7_changedOf 3 (some .int), Cond.methodLink RX7 240 yX7_changedYear, Cond.instanceMethod yX7_changedYear, Cond.selects RX7 yX7_changedYear yX7_changedYear, Cond.code yX7_changedYear cX7_changedYear 12 (some .int), Cond.methodLink RX7 227 yX7_aheadOf, Cond.instanceMethod yX7_aheadOf]
def wsX7_digest_r6 : List Cond := [Cond.selects RX7 yX7_aheadOf yX7_aheadOf, Cond.code yX7_aheadOf cX7_aheadOf 4 (some .int), Cond.methodLink RX7 230 yX7_isParted, Cond.instanceMethod yX7_isParted, Cond.selects RX7 yX7_isParted yX7_isParted, Cond.code yX7_isParted cX7_isParted 2 (some .boolean), Cond.methodLink RX7 233 yX7_differs, Cond.instanceMethod yX7_differs, Cond.selects RX7 yX7_differs yX7_differs, Cond.code yX7_differs cX7_differs 7 (some .long), Cond.methodLink RX7 236 yX7_amount, Cond.static yX7_amount, Cond.code yX7_amount cX7_amount 2 (some .long), Cond.methodLink RX7 243 yX7_likelyOf, Cond.instanceMethod yX7_likelyOf, Cond.selects RX7 yX7_likelyOf yX7_likelyOf, Cond.code yX7_likelyOf cX7_likelyOf 15 (some .int), Cond.methodLink RX7 254 yX7_commonOf, Cond.instanceMethod yX7_commonOf, Cond.selects RX7 yX7_commonOf yX7_commonOf, Cond.code yX7_commonOf cX7_commonOf 8 (some .int), Cond.methodLink RX7 285 yX7_reads, Cond.instanceMethod yX7_reads, Cond.selects RX7 yX7_reads yX7_reads]
def wsX7_digest_r7 : List Cond := [Cond.code yX7_reads cX7_reads 2 (some .int), Cond.fieldLink RX7 265 "WallMarksModel" "at" "I", Cond.fieldLink RX7 275 "WallMarksModel" "pairs" "I", Cond.methodLink RX7 281 yX7_readsPair, Cond.instanceMethod yX7_readsPair, Cond.selects RX7 yX7_readsPair yX7_readsPair, Cond.code yX7_readsPair cX7_readsPair 3 (some .boolean), Cond.fieldLink RX7 68 "WallMarksModel" "pairLevel" "[I", Cond.fieldLink RX7 71 "WallMarksModel" "pairFlow" "[I", Cond.methodLink RX7 278 yX7_number, Cond.instanceMethod yX7_number, Cond.selects RX7 yX7_number yX7_number, Cond.code yX7_number cX7_number 4 (some .int), Cond.constantLong RX7 271 (48), Cond.constantLong RX7 273 (57), Cond.methodLink RX7 268 yX7_here, Cond.instanceMethod yX7_here, Cond.selects RX7 yX7_here yX7_here, Cond.code yX7_here cX7_here 1 (some .int), Cond.fieldLink RX7 65 "WallMarksModel" "text" "[I", Cond.methodLink RX7 291 yX7_bestNow, Cond.instanceMethod yX7_bestNow, Cond.selects RX7 yX7_bestNow yX7_bestNow, Cond.code yX7_bestNow cX7_bestNow 11 (some .int)]
def wsX7_digest_r8 : List Cond := [Cond.methodLink RX7 288 yX7_costOf, Cond.instanceMethod yX7_costOf, Cond.selects RX7 yX7_costOf yX7_costOf, Cond.code yX7_costOf cX7_costOf 4 (some .long), Cond.methodLink RX7 294 yX7_sureOf, Cond.instanceMethod yX7_sureOf, Cond.selects RX7 yX7_sureOf yX7_sureOf, Cond.code yX7_sureOf cX7_sureOf 5 (some .int)]
def wsX7_digest : List Cond := .code yX7_digest cX7_digest 5 (some .long) :: ((wsX7_digest_r1 ++ (wsX7_digest_r2 ++ (wsX7_digest_r3 ++ (wsX7_digest_r4 ++ (wsX7_digest_r5 ++ (wsX7_digest_r6 ++ (wsX7_digest_r7 ++ wsX7_digest_r8))))))) ++ wsX70)
def wsJ9_abs_067f4 : List Cond := .code yJ9_abs_067f4 cJ9_abs_067f4 2 (some .long) :: ([])
def wsJ9_max_7cf53 : List Cond := .code yJ9_max_7cf53 cJ9_max_7cf53 2 (some .int) :: ([])
def wsJ9_max_f86c9 : List Cond := .code yJ9_max_f86c9 cJ9_max_f86c9 4 (some .long) :: ([])
def wsJ9_min_7cf53 : List Cond := .code yJ9_min_7cf53 cJ9_min_7cf53 2 (some .int) :: ([])
def wsL_law_r1 : List Cond := [Cond.classLink RL 7 RX6, Cond.instantiable RX6 10, Cond.initialized RX6, Cond.classLink RL 10 RX7, Cond.instantiable RX7 28, Cond.initialized RX7, Cond.methodLink RL 9 yX6_init, Cond.instanceMethod yX6_init, Cond.code yX6_init cX6_init 2 none, Cond.methodLink RX6 1 objectInit, Cond.instanceMethod objectInit, Cond.code objectInit ⟨#[0xb1]⟩ 1 none, Cond.classLink RX6 7 RX4, Cond.instantiable RX4 6, Cond.initialized RX4, Cond.fieldLink RX6 10 "WallMarks" "tellings" "LWallMarks$Tellings;", Cond.classLink RX6 16 RX5, Cond.instantiable RX5 4, Cond.initialized RX5, Cond.fieldLink RX6 19 "WallMarks" "watches" "LWallMarks$Watches;", Cond.classLink RX6 23 RX2, Cond.instantiable RX2 2, Cond.initialized RX2, Cond.fieldLink RX6 26 "WallMarks" "knowledge" "LWallMarks$Known;"]
def wsL_law_r2 : List Cond := [Cond.classLink RX6 30 RX0, Cond.instantiable RX0 11, Cond.initialized RX0, Cond.fieldLink RX6 33 "WallMarks" "counted" "LWallMarks$Counted;", Cond.fieldLink RX6 37 "WallMarks" "FIRST_SETTINGS" "[I", Cond.methodLink RX6 41 ⟨"[I", "clone", "()Ljava/lang/Object;"⟩, Cond.sameMethod "[I" "java/lang/Object" "clone" "()Ljava/lang/Object;", Cond.native ⟨"java/lang/Object", "clone", "()Ljava/lang/Object;"⟩, Cond.instanceMethod ⟨"java/lang/Object", "clone", "()Ljava/lang/Object;"⟩, Cond.selects "[I" ⟨"[I", "clone", "()Ljava/lang/Object;"⟩ ⟨"java/lang/Object", "clone", "()Ljava/lang/Object;"⟩, Cond.classLink RX6 42 "[I", Cond.fieldLink RX6 46 "WallMarks" "settings" "[I", Cond.arrayClass .int, Cond.fieldLink RX6 49 "WallMarks" "sisterLevels" "[I", Cond.classLink RX6 58 RX1, Cond.instantiable RX1 6, Cond.initialized RX1, Cond.fieldLink RX6 61 "WallMarks" "flows" "LWallMarks$Flows;", Cond.classLink RX6 65 RX3, Cond.fieldLink RX6 67 "WallMarks" "sheets" "[LWallMarks$Sheet;", Cond.instantiable RX3 4, Cond.initialized RX3, Cond.arrayClass .long, Cond.fieldLink RX6 72 "WallMarks" "orders" "[J"]
def wsL_law_r3 : List Cond := [Cond.fieldLink RX6 76 "WallMarks" "finding" "I", Cond.instanceMethod yX4_init, Cond.code yX4_init cX4_init 1 none, Cond.methodLink RX4 3 objectInit, Cond.fieldLink RX4 9 "WallMarks$Tellings" "years" "[I", Cond.fieldLink RX4 15 "WallMarks$Tellings" "kinds" "[I", Cond.fieldLink RX4 18 "WallMarks$Tellings" "levels" "[I", Cond.fieldLink RX4 21 "WallMarks$Tellings" "times" "[I", Cond.fieldLink RX4 24 "WallMarks$Tellings" "size" "I", Cond.fieldLink RX4 28 "WallMarks$Tellings" "lastTime" "I", Cond.instanceMethod yX5_init, Cond.code yX5_init cX5_init 1 none, Cond.methodLink RX5 3 objectInit, Cond.fieldLink RX5 9 "WallMarks$Watches" "froms" "[I", Cond.fieldLink RX5 15 "WallMarks$Watches" "tos" "[I", Cond.fieldLink RX5 18 "WallMarks$Watches" "levels" "[I", Cond.fieldLink RX5 21 "WallMarks$Watches" "size" "I", Cond.instanceMethod yX2_init, Cond.code yX2_init cX2_init 1 none, Cond.methodLink RX2 3 objectInit, Cond.fieldLink RX2 9 "WallMarks$Known" "kinds" "[I", Cond.fieldLink RX2 15 "WallMarks$Known" "levels" "[I", Cond.instanceMethod yX0_init, Cond.code yX0_init cX0_init 1 none]
def wsL_law_r4 : List Cond := [Cond.methodLink RX0 3 objectInit, Cond.fieldLink RX0 9 "WallMarks$Counted" "exactYears" "[I", Cond.fieldLink RX0 15 "WallMarks$Counted" "exactLevels" "[I", Cond.fieldLink RX0 18 "WallMarks$Counted" "belowLevels" "[I", Cond.fieldLink RX0 21 "WallMarks$Counted" "exacts" "I", Cond.fieldLink RX0 25 "WallMarks$Counted" "belows" "I", Cond.fieldLink RX0 28 "WallMarks$Counted" "opens" "I", Cond.fieldLink RX0 31 "WallMarks$Counted" "exactSum" "I", Cond.fieldLink RX0 34 "WallMarks$Counted" "greatestExact" "I", Cond.fieldLink RX0 37 "WallMarks$Counted" "records" "I", Cond.fieldLink RX0 40 "WallMarks$Counted" "lastRecord" "I", Cond.fieldLink RX0 43 "WallMarks$Counted" "longestWait" "I", Cond.methodLink RX6 52 yJ7_fill_53178, Cond.static yJ7_fill_53178, Cond.initialized RJ7, Cond.code yJ7_fill_53178 cJ7_fill_53178 4 none, Cond.instanceMethod yX1_init, Cond.code yX1_init cX1_init 1 none, Cond.methodLink RX1 3 objectInit, Cond.fieldLink RX1 9 "WallMarks$Flows" "bytes" "[I", Cond.fieldLink RX1 15 "WallMarks$Flows" "levels" "[I", Cond.fieldLink RX1 18 "WallMarks$Flows" "amounts" "[I", Cond.fieldLink RX1 21 "WallMarks$Flows" "size" "I", Cond.fieldLink RX1 25 "WallMarks$Flows" "pairs" "I"]
def wsL_law_r5 : List Cond := [Cond.fieldLink RX1 28 "WallMarks$Flows" "place" "I", Cond.instanceMethod yX3_init, Cond.code yX3_init cX3_init 1 none, Cond.methodLink RX3 3 objectInit, Cond.fieldLink RX3 9 "WallMarks$Sheet" "items" "[I", Cond.fieldLink RX3 15 "WallMarks$Sheet" "lost" "Z", Cond.fieldLink RX3 19 "WallMarks$Sheet" "form" "I", Cond.fieldLink RX3 23 "WallMarks$Sheet" "size" "I", Cond.methodLink RX6 80 yX6_settle, Cond.instanceMethod yX6_settle, Cond.selects RX6 yX6_settle yX6_settle, Cond.code yX6_settle cX6_settle 3 none, Cond.fieldLink RX6 102 "WallMarks$Tellings" "size" "I", Cond.fieldLink RX6 373 "WallMarks$Tellings" "times" "[I", Cond.fieldLink RX6 376 "WallMarks$Tellings" "years" "[I", Cond.fieldLink RX6 379 "WallMarks$Tellings" "kinds" "[I", Cond.fieldLink RX6 380 "WallMarks$Tellings" "levels" "[I", Cond.fieldLink RX6 137 "WallMarks$Known" "kinds" "[I", Cond.methodLink RX6 370 yX2_forget, Cond.instanceMethod yX2_forget, Cond.selects RX2 yX2_forget yX2_forget, Cond.code yX2_forget cX2_forget 1 none, Cond.methodLink RX2 18 yJ7_fill_53178, Cond.methodLink RX6 381 yX2_put]
def wsL_law_r6 : List Cond := [Cond.instanceMethod yX2_put, Cond.selects RX2 yX2_put yX2_put, Cond.code yX2_put cX2_put 4 none, Cond.static yX6_isYear, Cond.code yX6_isYear cX6_isYear 1 (some .boolean), Cond.methodLink RX6 383 yX5_leastAt, Cond.instanceMethod yX5_leastAt, Cond.selects RX5 yX5_leastAt yX5_leastAt, Cond.code yX5_leastAt cX5_leastAt 5 (some .int), Cond.methodLink RX6 386 yX0_gather, Cond.instanceMethod yX0_gather, Cond.selects RX0 yX0_gather yX0_gather, Cond.code yX0_gather cX0_gather 5 none, Cond.fieldLink RX0 46 "WallMarks$Known" "kinds" "[I", Cond.fieldLink RX0 51 "WallMarks$Known" "levels" "[I", Cond.methodLink RX0 54 yX0_add, Cond.instanceMethod yX0_add, Cond.selects RX0 yX0_add yX0_add, Cond.code yX0_add cX0_add 4 none, Cond.methodLink RX0 58 yX0_holdAgainstRecord, Cond.instanceMethod yX0_holdAgainstRecord, Cond.selects RX0 yX0_holdAgainstRecord yX0_holdAgainstRecord, Cond.code yX0_holdAgainstRecord cX0_holdAgainstRecord 3 none, Cond.methodLink RX0 62 Lib.Math.max.name]
def wsL_law_r7 : List Cond := [Cond.static Lib.Math.max.name, Cond.initialized "java/lang/Math", Cond.code Lib.Math.max.name Lib.Math.max.code 2 (some .int), Cond.methodLink RL 12 yX7_init, Cond.instanceMethod yX7_init, Cond.code yX7_init cX7_init 2 none, Cond.methodLink RX7 1 objectInit, Cond.fieldLink RX7 7 "WallMarksModel" "forms" "[I", Cond.fieldLink RX7 13 "WallMarksModel" "sizes" "[I", Cond.fieldLink RX7 16 "WallMarksModel" "items" "[I", Cond.fieldLink RX7 19 "WallMarksModel" "moved" "[I", Cond.fieldLink RX7 22 "WallMarksModel" "toldYear" "[I", Cond.fieldLink RX7 25 "WallMarksModel" "toldKind" "[I", Cond.fieldLink RX7 28 "WallMarksModel" "toldLevel" "[I", Cond.fieldLink RX7 31 "WallMarksModel" "toldTime" "[I", Cond.fieldLink RX7 34 "WallMarksModel" "watchFrom" "[I", Cond.fieldLink RX7 37 "WallMarksModel" "watchTo" "[I", Cond.fieldLink RX7 40 "WallMarksModel" "watchLevel" "[I", Cond.fieldLink RX7 43 "WallMarksModel" "settings" "[I", Cond.fieldLink RX7 46 "WallMarksModel" "sisters" "[I", Cond.fieldLink RX7 49 "WallMarksModel" "kinds" "[I", Cond.fieldLink RX7 52 "WallMarksModel" "levels" "[I", Cond.fieldLink RX7 55 "WallMarksModel" "exactYear" "[I", Cond.fieldLink RX7 58 "WallMarksModel" "exactLevel" "[I"]
def wsL_law_r8 : List Cond := [Cond.fieldLink RX7 61 "WallMarksModel" "orders" "[J", Cond.fieldLink RX7 65 "WallMarksModel" "text" "[I", Cond.fieldLink RX7 68 "WallMarksModel" "pairLevel" "[I", Cond.fieldLink RX7 71 "WallMarksModel" "pairFlow" "[I", Cond.methodLink RL 13 yX6_tell, Cond.instanceMethod yX6_tell, Cond.selects RX6 yX6_tell yX6_tell, Cond.code yX6_tell cX6_tell 5 (some .int), Cond.methodLink RX6 83 yX6_isYear, Cond.methodLink RX6 87 yX6_mayBeTold, Cond.static yX6_mayBeTold, Cond.code yX6_mayBeTold cX6_mayBeTold 2 (some .boolean), Cond.methodLink RX6 120 yX6_isLevel, Cond.static yX6_isLevel, Cond.code yX6_isLevel cX6_isLevel 1 (some .boolean), Cond.methodLink RX6 91 yX6_isTimeToTell, Cond.instanceMethod yX6_isTimeToTell, Cond.selects RX6 yX6_isTimeToTell yX6_isTimeToTell, Cond.code yX6_isTimeToTell cX6_isTimeToTell 2 (some .boolean), Cond.fieldLink RX6 365 "WallMarks$Tellings" "lastTime" "I", Cond.methodLink RX6 94 yX4_hasRoom, Cond.instanceMethod yX4_hasRoom, Cond.selects RX4 yX4_hasRoom yX4_hasRoom, Cond.code yX4_hasRoom cX4_hasRoom 1 (some .boolean)]
def wsL_law_r9 : List Cond := [Cond.methodLink RX6 98 yX4_add, Cond.instanceMethod yX4_add, Cond.selects RX4 yX4_add yX4_add, Cond.code yX4_add cX4_add 5 none, Cond.methodLink RX4 31 yX4_hasRoom, Cond.methodLink RL 17 yX7_tell, Cond.instanceMethod yX7_tell, Cond.selects RX7 yX7_tell yX7_tell, Cond.code yX7_tell cX7_tell 6 (some .int), Cond.constantLong RX7 113 (999), Cond.fieldLink RX7 115 "WallMarksModel" "tellings" "I", Cond.methodLink RX7 118 yX7_isLevel, Cond.static yX7_isLevel, Cond.code yX7_isLevel cX7_isLevel 1 (some .boolean), Cond.methodLink RX7 76 yX7_in, Cond.static yX7_in, Cond.code yX7_in cX7_in 6 (some .boolean), Cond.methodLink RX7 121 yX7_isYear, Cond.static yX7_isYear, Cond.code yX7_isYear cX7_isYear 1 (some .boolean), Cond.constantLong RX7 111 (59), Cond.methodLink RX7 124 yX7_isEarly, Cond.instanceMethod yX7_isEarly, Cond.selects RX7 yX7_isEarly yX7_isEarly]
def wsL_law_r10 : List Cond := [Cond.code yX7_isEarly cX7_isEarly 2 (some .boolean), Cond.methodLink RL 18 yX6_read, Cond.instanceMethod yX6_read, Cond.selects RX6 yX6_read yX6_read, Cond.code yX6_read cX6_read 6 (some .int), Cond.fieldLink RX6 108 "WallMarks$Sheet" "lost" "Z", Cond.fieldLink RX6 116 "WallMarks$Sheet" "size" "I", Cond.methodLink RX6 105 yX6_isSheet, Cond.static yX6_isSheet, Cond.code yX6_isSheet cX6_isSheet 1 (some .boolean), Cond.methodLink RX6 112 yX6_found, Cond.instanceMethod yX6_found, Cond.selects RX6 yX6_found yX6_found, Cond.code yX6_found cX6_found 2 (some .int), Cond.methodLink RX6 117 yX3_itemAt, Cond.instanceMethod yX3_itemAt, Cond.selects RX3 yX3_itemAt yX3_itemAt, Cond.code yX3_itemAt cX3_itemAt 2 (some .int), Cond.methodLink RX3 32 yX3_holds, Cond.instanceMethod yX3_holds, Cond.selects RX3 yX3_holds yX3_holds, Cond.code yX3_holds cX3_holds 3 (some .boolean), Cond.methodLink RL 22 yX7_read, Cond.instanceMethod yX7_read]
def wsL_law_r11 : List Cond := [Cond.selects RX7 yX7_read yX7_read, Cond.code yX7_read cX7_read 5 (some .int), Cond.methodLink RX7 86 yX7_isSheet, Cond.static yX7_isSheet, Cond.code yX7_isSheet cX7_isSheet 1 (some .boolean), Cond.constantLong RX7 84 (3), Cond.methodLink RX7 92 yX7_met, Cond.instanceMethod yX7_met, Cond.selects RX7 yX7_met yX7_met, Cond.code yX7_met cX7_met 2 (some .int), Cond.fieldLink RX7 80 "WallMarksModel" "latest" "I", Cond.methodLink RX7 127 yX7_tell, Cond.methodLink RL 23 yX6_watch, Cond.instanceMethod yX6_watch, Cond.selects RX6 yX6_watch yX6_watch, Cond.code yX6_watch cX6_watch 4 (some .int), Cond.fieldLink RX6 127 "WallMarks$Watches" "size" "I", Cond.methodLink RX6 123 yX5_hasRoom, Cond.instanceMethod yX5_hasRoom, Cond.selects RX5 yX5_hasRoom yX5_hasRoom, Cond.code yX5_hasRoom cX5_hasRoom 1 (some .boolean), Cond.methodLink RX6 124 yX5_add, Cond.instanceMethod yX5_add, Cond.selects RX5 yX5_add yX5_add]
def wsL_law_r12 : List Cond := [Cond.code yX5_add cX5_add 4 none, Cond.methodLink RX5 25 yX5_hasRoom, Cond.methodLink RL 26 yX7_watch, Cond.instanceMethod yX7_watch, Cond.selects RX7 yX7_watch yX7_watch, Cond.code yX7_watch cX7_watch 4 (some .int), Cond.fieldLink RX7 131 "WallMarksModel" "watches" "I", Cond.methodLink RL 27 yX6_set, Cond.instanceMethod yX6_set, Cond.selects RX6 yX6_set yX6_set, Cond.code yX6_set cX6_set 4 (some .int), Cond.fieldLink RX6 128 "WallMarks" "LEAST_SETTINGS" "[I", Cond.fieldLink RX6 131 "WallMarks" "GREATEST_SETTINGS" "[I", Cond.methodLink RL 31 yX7_set, Cond.instanceMethod yX7_set, Cond.selects RX7 yX7_set yX7_set, Cond.code yX7_set cX7_set 4 (some .int), Cond.constantLong RX7 134 (5), Cond.methodLink RX7 136 yX7_high, Cond.static yX7_high, Cond.code yX7_high cX7_high 1 (some .int), Cond.methodLink RL 32 yX6_known, Cond.instanceMethod yX6_known, Cond.selects RX6 yX6_known yX6_known]
def wsL_law_r13 : List Cond := [Cond.code yX6_known cX6_known 3 (some .int), Cond.fieldLink RX6 140 "WallMarks$Known" "levels" "[I", Cond.methodLink RX6 134 yX6_isEither, Cond.static yX6_isEither, Cond.code yX6_isEither cX6_isEither 1 (some .boolean), Cond.methodLink RL 35 yX7_known, Cond.instanceMethod yX7_known, Cond.selects RX7 yX7_known yX7_known, Cond.code yX7_known cX7_known 3 (some .int), Cond.methodLink RX7 148 yX7_isTwo, Cond.static yX7_isTwo, Cond.code yX7_isTwo cX7_isTwo 1 (some .boolean), Cond.methodLink RX7 151 yX7_find, Cond.instanceMethod yX7_find, Cond.selects RX7 yX7_find yX7_find, Cond.code yX7_find cX7_find 3 none, Cond.fieldLink RX7 139 "WallMarksModel" "exactMany" "I", Cond.methodLink RX7 142 yX7_watchedBy, Cond.instanceMethod yX7_watchedBy, Cond.selects RX7 yX7_watchedBy yX7_watchedBy, Cond.code yX7_watchedBy cX7_watchedBy 5 (some .int), Cond.methodLink RX7 145 yX7_isCounted, Cond.instanceMethod yX7_isCounted, Cond.selects RX7 yX7_isCounted yX7_isCounted]
def wsL_law_r14 : List Cond := [Cond.code yX7_isCounted cX7_isCounted 2 (some .boolean), Cond.methodLink RL 36 yX6_over, Cond.instanceMethod yX6_over, Cond.selects RX6 yX6_over yX6_over, Cond.code yX6_over cX6_over 3 (some .int), Cond.methodLink RX6 143 yX0_overs, Cond.instanceMethod yX0_overs, Cond.selects RX0 yX0_overs yX0_overs, Cond.code yX0_overs cX0_overs 4 (some .int), Cond.methodLink RX6 146 yX0_unders, Cond.instanceMethod yX0_unders, Cond.selects RX0 yX0_unders yX0_unders, Cond.code yX0_unders cX0_unders 2 (some .int), Cond.methodLink RX0 68 yX0_overs, Cond.methodLink RX0 72 yX0_belowsUnder, Cond.instanceMethod yX0_belowsUnder, Cond.selects RX0 yX0_belowsUnder yX0_belowsUnder, Cond.code yX0_belowsUnder cX0_belowsUnder 4 (some .int), Cond.methodLink RX6 149 yX0_darks, Cond.instanceMethod yX0_darks, Cond.selects RX0 yX0_darks yX0_darks, Cond.code yX0_darks cX0_darks 2 (some .int), Cond.methodLink RL 39 yX7_over, Cond.instanceMethod yX7_over]
def wsL_law_r15 : List Cond := [Cond.selects RX7 yX7_over yX7_over, Cond.code yX7_over cX7_over 3 (some .int), Cond.constantLong RX7 90 (2), Cond.methodLink RX7 164 yX7_overBy, Cond.instanceMethod yX7_overBy, Cond.selects RX7 yX7_overBy yX7_overBy, Cond.code yX7_overBy cX7_overBy 3 (some .int), Cond.methodLink RX7 154 yX7_overOf, Cond.instanceMethod yX7_overOf, Cond.selects RX7 yX7_overOf yX7_overOf, Cond.code yX7_overOf cX7_overOf 4 (some .int), Cond.methodLink RX7 157 yX7_underOf, Cond.instanceMethod yX7_underOf, Cond.selects RX7 yX7_underOf yX7_underOf, Cond.code yX7_underOf cX7_underOf 5 (some .int), Cond.methodLink RX7 160 yX7_counted, Cond.instanceMethod yX7_counted, Cond.selects RX7 yX7_counted yX7_counted, Cond.code yX7_counted cX7_counted 3 (some .int), Cond.methodLink RL 40 yX6_rare, Cond.instanceMethod yX6_rare, Cond.selects RX6 yX6_rare yX6_rare, Cond.code yX6_rare cX6_rare 5 (some .long), Cond.methodLink RX6 152 yX6_longRefusal]
def wsL_law_r16 : List Cond := [Cond.static yX6_longRefusal, Cond.code yX6_longRefusal cX6_longRefusal 1 (some .long), Cond.constantLong RX6 368 (-9223372036854775808), Cond.methodLink RX6 156 yX0_rareBelow, Cond.instanceMethod yX0_rareBelow, Cond.selects RX0 yX0_rareBelow yX0_rareBelow, Cond.code yX0_rareBelow cX0_rareBelow 2 (some .int), Cond.methodLink RX6 159 yX6_fraction, Cond.static yX6_fraction, Cond.code yX6_fraction cX6_fraction 7 (some .long), Cond.methodLink RX6 390 Lib.MathLoose.abs_long.x, Cond.static Lib.MathLoose.abs_long.x, Cond.code Lib.MathLoose.abs_long.x Lib.MathLoose.abs_long.code 2 (some .long), Cond.methodLink RX6 394 yX6_commonDivisor, Cond.static yX6_commonDivisor, Cond.code yX6_commonDivisor cX6_commonDivisor 11 (some .long), Cond.methodLink RX6 163 yX0_all, Cond.instanceMethod yX0_all, Cond.selects RX0 yX0_all yX0_all, Cond.code yX0_all cX0_all 1 (some .int), Cond.methodLink RL 44 yX7_rare, Cond.instanceMethod yX7_rare, Cond.selects RX7 yX7_rare yX7_rare, Cond.code yX7_rare cX7_rare 4 (some .long)]
def wsL_law_r17 : List Cond := [Cond.methodLink RX7 175 yX7_rareOf, Cond.instanceMethod yX7_rareOf, Cond.selects RX7 yX7_rareOf yX7_rareOf, Cond.code yX7_rareOf cX7_rareOf 7 (some .long), Cond.methodLink RX7 167 yX7_part, Cond.static yX7_part, Cond.code yX7_part cX7_part 5 (some .long), Cond.methodLink RX7 105 yX7_divisor, Cond.static yX7_divisor, Cond.code yX7_divisor cX7_divisor 10 (some .long), Cond.methodLink RX7 171 yX7_no, Cond.static yX7_no, Cond.code yX7_no cX7_no 1 (some .long), Cond.constantLong RX7 74 (-9223372036854775808), Cond.methodLink RL 45 yX6_soRare, Cond.instanceMethod yX6_soRare, Cond.selects RX6 yX6_soRare yX6_soRare, Cond.code yX6_soRare cX6_soRare 5 (some .int), Cond.fieldLink RX6 170 "WallMarks$Counted" "exacts" "I", Cond.fieldLink RX6 173 "WallMarks$Counted" "exactLevels" "[I", Cond.methodLink RX6 167 yX6_isHundredths, Cond.static yX6_isHundredths, Cond.code yX6_isHundredths cX6_isHundredths 1 (some .boolean), Cond.methodLink RL 49 yX7_soRare]
def wsL_law_r18 : List Cond := [Cond.instanceMethod yX7_soRare, Cond.selects RX7 yX7_soRare yX7_soRare, Cond.code yX7_soRare cX7_soRare 2 (some .int), Cond.methodLink RX7 181 yX7_isPart, Cond.static yX7_isPart, Cond.code yX7_isPart cX7_isPart 1 (some .boolean), Cond.constantLong RX7 179 (100), Cond.methodLink RX7 184 yX7_soRareOf, Cond.instanceMethod yX7_soRareOf, Cond.selects RX7 yX7_soRareOf yX7_soRareOf, Cond.code yX7_soRareOf cX7_soRareOf 6 (some .int), Cond.methodLink RL 50 yX6_rank, Cond.instanceMethod yX6_rank, Cond.selects RX6 yX6_rank yX6_rank, Cond.code yX6_rank cX6_rank 2 (some .int), Cond.methodLink RX6 176 yX6_counts, Cond.instanceMethod yX6_counts, Cond.selects RX6 yX6_counts yX6_counts, Cond.code yX6_counts cX6_counts 2 (some .boolean), Cond.methodLink RL 53 yX7_rank, Cond.instanceMethod yX7_rank, Cond.selects RX7 yX7_rank yX7_rank, Cond.code yX7_rank cX7_rank 4 (some .int), Cond.methodLink RL 54 yX6_again]
def wsL_law_r19 : List Cond := [Cond.instanceMethod yX6_again, Cond.selects RX6 yX6_again yX6_again, Cond.code yX6_again cX6_again 5 (some .long), Cond.constantLong RX6 186 (16), Cond.methodLink RX6 179 yX6_isSixteenths, Cond.static yX6_isSixteenths, Cond.code yX6_isSixteenths cX6_isSixteenths 1 (some .boolean), Cond.methodLink RX6 182 yX6_timesOver, Cond.static yX6_timesOver, Cond.code yX6_timesOver cX6_timesOver 7 (some .long), Cond.methodLink RX6 196 yX6_choices, Cond.static yX6_choices, Cond.code yX6_choices cX6_choices 5 (some .long), Cond.methodLink RX6 188 yX6_power, Cond.static yX6_power, Cond.code yX6_power cX6_power 6 (some .long), Cond.methodLink RL 58 yX7_again, Cond.instanceMethod yX7_again, Cond.selects RX7 yX7_again yX7_again, Cond.code yX7_again cX7_again 5 (some .long), Cond.constantLong RX7 196 (15), Cond.methodLink RX7 198 yX7_isSixteenths, Cond.static yX7_isSixteenths, Cond.code yX7_isSixteenths cX7_isSixteenths 1 (some .boolean)]
def wsL_law_r20 : List Cond := [Cond.constantLong RX7 187 (16), Cond.methodLink RX7 201 yX7_goOver, Cond.static yX7_goOver, Cond.code yX7_goOver cX7_goOver 7 (some .long), Cond.methodLink RX7 189 yX7_choices, Cond.static yX7_choices, Cond.code yX7_choices cX7_choices 5 (some .long), Cond.methodLink RX7 193 yX7_power, Cond.static yX7_power, Cond.code yX7_power cX7_power 5 (some .long), Cond.methodLink RL 59 yX6_lasts, Cond.instanceMethod yX6_lasts, Cond.selects RX6 yX6_lasts yX6_lasts, Cond.code yX6_lasts cX6_lasts 5 (some .int), Cond.methodLink RX6 192 yX6_staysWithin, Cond.static yX6_staysWithin, Cond.code yX6_staysWithin cX6_staysWithin 5 (some .boolean), Cond.methodLink RL 62 yX7_lasts, Cond.instanceMethod yX7_lasts, Cond.selects RX7 yX7_lasts yX7_lasts, Cond.code yX7_lasts cX7_lasts 8 (some .int), Cond.constantLong RX7 205 (256), Cond.methodLink RL 63 yX6_next, Cond.instanceMethod yX6_next]
def wsL_law_r21 : List Cond := [Cond.selects RX6 yX6_next yX6_next, Cond.code yX6_next cX6_next 8 (some .long), Cond.methodLink RL 66 yX7_next, Cond.instanceMethod yX7_next, Cond.selects RX7 yX7_next yX7_next, Cond.code yX7_next cX7_next 7 (some .long), Cond.constantLong RX7 207 (20), Cond.constantLong RX7 209 (60), Cond.methodLink RL 67 yX6_between, Cond.instanceMethod yX6_between, Cond.selects RX6 yX6_between yX6_between, Cond.code yX6_between cX6_between 6 (some .long), Cond.methodLink RL 70 yX7_between, Cond.instanceMethod yX7_between, Cond.selects RX7 yX7_between yX7_between, Cond.code yX7_between cX7_between 5 (some .long), Cond.methodLink RL 71 yX6_records, Cond.instanceMethod yX6_records, Cond.selects RX6 yX6_records yX6_records, Cond.code yX6_records cX6_records 2 (some .int), Cond.fieldLink RX6 203 "WallMarks$Counted" "records" "I", Cond.fieldLink RX6 206 "WallMarks$Counted" "lastRecord" "I", Cond.fieldLink RX6 209 "WallMarks$Counted" "longestWait" "I", Cond.methodLink RX6 200 yX6_should]
def wsL_law_r22 : List Cond := [Cond.instanceMethod yX6_should, Cond.selects RX6 yX6_should yX6_should, Cond.code yX6_should cX6_should 7 (some .int), Cond.constantLong RX6 402 (1000000), Cond.methodLink RX6 399 yX6_orderByRecords, Cond.instanceMethod yX6_orderByRecords, Cond.selects RX6 yX6_orderByRecords yX6_orderByRecords, Cond.code yX6_orderByRecords cX6_orderByRecords 4 none, Cond.methodLink RX6 404 yJ7_fill_d0a16, Cond.static yJ7_fill_d0a16, Cond.code yJ7_fill_d0a16 cJ7_fill_d0a16 5 none, Cond.methodLink RL 74 yX7_records, Cond.instanceMethod yX7_records, Cond.selects RX7 yX7_records yX7_records, Cond.code yX7_records cX7_records 2 (some .int), Cond.methodLink RX7 218 yX7_recordsOf, Cond.instanceMethod yX7_recordsOf, Cond.selects RX7 yX7_recordsOf yX7_recordsOf, Cond.code yX7_recordsOf cX7_recordsOf 8 (some .int), Cond.methodLink RX7 215 yX7_shouldOf, Cond.instanceMethod yX7_shouldOf, Cond.selects RX7 yX7_shouldOf yX7_shouldOf, Cond.code yX7_shouldOf cX7_shouldOf 7 (some .int), Cond.methodLink RX7 211 yX7_millionths]
def wsL_law_r23 : List Cond := [Cond.static yX7_millionths, Cond.code yX7_millionths cX7_millionths 4 (some .int), Cond.constantLong RX7 109 (1000000), Cond.methodLink RL 75 yX6_rises, Cond.instanceMethod yX6_rises, Cond.selects RX6 yX6_rises yX6_rises, Cond.code yX6_rises cX6_rises 4 (some .int), Cond.methodLink RX6 212 yX6_direction, Cond.static yX6_direction, Cond.code yX6_direction cX6_direction 2 (some .int), Cond.methodLink RL 79 yX7_rises, Cond.instanceMethod yX7_rises, Cond.selects RX7 yX7_rises yX7_rises, Cond.code yX7_rises cX7_rises 1 (some .int), Cond.methodLink RX7 224 yX7_risesNow, Cond.instanceMethod yX7_risesNow, Cond.selects RX7 yX7_risesNow yX7_risesNow, Cond.code yX7_risesNow cX7_risesNow 4 (some .int), Cond.methodLink RX7 221 yX7_sign, Cond.static yX7_sign, Cond.code yX7_sign cX7_sign 1 (some .int), Cond.methodLink RL 80 yX6_change, Cond.instanceMethod yX6_change, Cond.selects RX6 yX6_change yX6_change]
def wsL_law_r24 : List Cond := [Cond.code yX6_change cX6_change 5 (some .long), Cond.methodLink RX6 216 yX0_meansBelow, Cond.instanceMethod yX0_meansBelow, Cond.selects RX0 yX0_meansBelow yX0_meansBelow, Cond.code yX0_meansBelow cX0_meansBelow 3 (some .long), Cond.methodLink RX0 79 yX0_exactsAhead, Cond.instanceMethod yX0_exactsAhead, Cond.selects RX0 yX0_exactsAhead yX0_exactsAhead, Cond.code yX0_exactsAhead cX0_exactsAhead 4 (some .int), Cond.methodLink RX6 219 yX0_meansAbove, Cond.instanceMethod yX0_meansAbove, Cond.selects RX0 yX0_meansAbove yX0_meansAbove, Cond.code yX0_meansAbove cX0_meansAbove 2 (some .long), Cond.methodLink RX0 82 yX0_sumAhead, Cond.instanceMethod yX0_sumAhead, Cond.selects RX0 yX0_sumAhead yX0_sumAhead, Cond.code yX0_sumAhead cX0_sumAhead 4 (some .int), Cond.methodLink RX0 85 yX0_meansApart, Cond.instanceMethod yX0_meansApart, Cond.selects RX0 yX0_meansApart yX0_meansApart, Cond.code yX0_meansApart cX0_meansApart 3 (some .long), Cond.methodLink RL 84 yX7_change, Cond.instanceMethod yX7_change, Cond.selects RX7 yX7_change yX7_change]
def wsL_law_r25 : List Cond := [Cond.code yX7_change cX7_change 4 (some .long), Cond.methodLink RX7 227 yX7_aheadOf, Cond.instanceMethod yX7_aheadOf, Cond.selects RX7 yX7_aheadOf yX7_aheadOf, Cond.code yX7_aheadOf cX7_aheadOf 4 (some .int), Cond.methodLink RX7 230 yX7_isParted, Cond.instanceMethod yX7_isParted, Cond.selects RX7 yX7_isParted yX7_isParted, Cond.code yX7_isParted cX7_isParted 2 (some .boolean), Cond.methodLink RX7 233 yX7_differs, Cond.instanceMethod yX7_differs, Cond.selects RX7 yX7_differs yX7_differs, Cond.code yX7_differs cX7_differs 7 (some .long), Cond.methodLink RL 85 yX6_changed, Cond.instanceMethod yX6_changed, Cond.selects RX6 yX6_changed yX6_changed, Cond.code yX6_changed cX6_changed 3 (some .int), Cond.methodLink RX6 222 yX6_greatestChange, Cond.instanceMethod yX6_greatestChange, Cond.selects RX6 yX6_greatestChange yX6_greatestChange, Cond.code yX6_greatestChange cX6_greatestChange 11 (some .int), Cond.methodLink RX6 225 yX6_howLikely, Cond.instanceMethod yX6_howLikely, Cond.selects RX6 yX6_howLikely yX6_howLikely]
def wsL_law_r26 : List Cond := [Cond.code yX6_howLikely cX6_howLikely 7 (some .int), Cond.methodLink RX6 407 yX0_exactsAhead, Cond.methodLink RX6 410 yX6_farChoices, Cond.static yX6_farChoices, Cond.code yX6_farChoices cX6_farChoices 7 (some .long), Cond.methodLink RX6 414 yX0_meansApart, Cond.methodLink RL 88 yX7_changed, Cond.instanceMethod yX7_changed, Cond.selects RX7 yX7_changed yX7_changed, Cond.code yX7_changed cX7_changed 2 (some .int), Cond.methodLink RX7 246 yX7_changedOf, Cond.instanceMethod yX7_changedOf, Cond.selects RX7 yX7_changedOf yX7_changedOf, Cond.code yX7_changedOf cX7_changedOf 3 (some .int), Cond.methodLink RX7 240 yX7_changedYear, Cond.instanceMethod yX7_changedYear, Cond.selects RX7 yX7_changedYear yX7_changedYear, Cond.code yX7_changedYear cX7_changedYear 12 (some .int), Cond.methodLink RX7 236 yX7_amount, Cond.static yX7_amount, Cond.code yX7_amount cX7_amount 2 (some .long), Cond.methodLink RX7 243 yX7_likelyOf, Cond.instanceMethod yX7_likelyOf, Cond.selects RX7 yX7_likelyOf yX7_likelyOf]
def wsL_law_r27 : List Cond := [Cond.code yX7_likelyOf cX7_likelyOf 15 (some .int), Cond.methodLink RL 89 yX6_sister, Cond.instanceMethod yX6_sister, Cond.selects RX6 yX6_sister yX6_sister, Cond.code yX6_sister cX6_sister 4 (some .int), Cond.methodLink RL 92 yX7_sister, Cond.instanceMethod yX7_sister, Cond.selects RX7 yX7_sister yX7_sister, Cond.code yX7_sister cX7_sister 4 (some .int), Cond.constantLong RX7 249 (-1), Cond.methodLink RL 93 yX6_common, Cond.instanceMethod yX6_common, Cond.selects RX6 yX6_common yX6_common, Cond.code yX6_common cX6_common 2 (some .int), Cond.methodLink RX6 228 yX6_commonYears, Cond.instanceMethod yX6_commonYears, Cond.selects RX6 yX6_commonYears yX6_commonYears, Cond.code yX6_commonYears cX6_commonYears 3 (some .int), Cond.methodLink RX6 420 yX6_sisterOf, Cond.instanceMethod yX6_sisterOf, Cond.selects RX6 yX6_sisterOf yX6_sisterOf, Cond.code yX6_sisterOf cX6_sisterOf 2 (some .int), Cond.fieldLink RX6 417 "WallMarks$Counted" "exactYears" "[I", Cond.methodLink RX6 231 yX6_ties]
def wsL_law_r28 : List Cond := [Cond.instanceMethod yX6_ties, Cond.selects RX6 yX6_ties yX6_ties, Cond.code yX6_ties cX6_ties 4 (some .int), Cond.methodLink RX6 423 yX6_tie, Cond.instanceMethod yX6_tie, Cond.selects RX6 yX6_tie yX6_tie, Cond.code yX6_tie cX6_tie 3 (some .int), Cond.methodLink RL 96 yX7_common, Cond.instanceMethod yX7_common, Cond.selects RX7 yX7_common yX7_common, Cond.code yX7_common cX7_common 2 (some .int), Cond.methodLink RX7 254 yX7_commonOf, Cond.instanceMethod yX7_commonOf, Cond.selects RX7 yX7_commonOf yX7_commonOf, Cond.code yX7_commonOf cX7_commonOf 8 (some .int), Cond.methodLink RX7 251 yX7_isCommon, Cond.instanceMethod yX7_isCommon, Cond.selects RX7 yX7_isCommon yX7_isCommon, Cond.code yX7_isCommon cX7_isCommon 2 (some .boolean), Cond.methodLink RL 97 yX6_filled, Cond.instanceMethod yX6_filled, Cond.selects RX6 yX6_filled yX6_filled, Cond.code yX6_filled cX6_filled 4 (some .int), Cond.methodLink RX6 234 yX6_filledBySums]
def wsL_law_r29 : List Cond := [Cond.instanceMethod yX6_filledBySums, Cond.selects RX6 yX6_filledBySums yX6_filledBySums, Cond.code yX6_filledBySums cX6_filledBySums 5 (some .int), Cond.methodLink RX6 237 yX6_filledByOne, Cond.instanceMethod yX6_filledByOne, Cond.selects RX6 yX6_filledByOne yX6_filledByOne, Cond.code yX6_filledByOne cX6_filledByOne 7 (some .int), Cond.methodLink RL 100 yX7_filled, Cond.instanceMethod yX7_filled, Cond.selects RX7 yX7_filled yX7_filled, Cond.code yX7_filled cX7_filled 3 (some .int), Cond.methodLink RX7 257 yX7_filledOf, Cond.instanceMethod yX7_filledOf, Cond.selects RX7 yX7_filledOf yX7_filledOf, Cond.code yX7_filledOf cX7_filledOf 14 (some .int), Cond.methodLink RL 101 yX6_type, Cond.instanceMethod yX6_type, Cond.selects RX6 yX6_type yX6_type, Cond.code yX6_type cX6_type 2 (some .int), Cond.fieldLink RX6 245 "WallMarks$Flows" "size" "I", Cond.methodLink RX6 241 yX1_hasRoom, Cond.instanceMethod yX1_hasRoom, Cond.selects RX1 yX1_hasRoom yX1_hasRoom, Cond.code yX1_hasRoom cX1_hasRoom 1 (some .boolean)]
def wsL_law_r30 : List Cond := [Cond.methodLink RX6 242 yX1_add, Cond.instanceMethod yX1_add, Cond.selects RX1 yX1_add yX1_add, Cond.code yX1_add cX1_add 2 none, Cond.methodLink RX1 31 yX1_hasRoom, Cond.methodLink RL 104 yX7_type, Cond.instanceMethod yX7_type, Cond.selects RX7 yX7_type yX7_type, Cond.code yX7_type cX7_type 2 (some .int), Cond.constantLong RX7 260 (255), Cond.fieldLink RX7 262 "WallMarksModel" "typed" "I", Cond.methodLink RL 105 yX6_wipe, Cond.instanceMethod yX6_wipe, Cond.selects RX6 yX6_wipe yX6_wipe, Cond.code yX6_wipe cX6_wipe 2 (some .int), Cond.methodLink RL 108 yX7_wipe, Cond.instanceMethod yX7_wipe, Cond.selects RX7 yX7_wipe yX7_wipe, Cond.code yX7_wipe cX7_wipe 2 (some .int), Cond.methodLink RL 109 yX6_fault, Cond.instanceMethod yX6_fault, Cond.selects RX6 yX6_fault yX6_fault, Cond.code yX6_fault cX6_fault 1 (some .int), Cond.methodLink RX6 246 yX1_parse]
def wsL_law_r31 : List Cond := [Cond.instanceMethod yX1_parse, Cond.selects RX1 yX1_parse yX1_parse, Cond.code yX1_parse cX1_parse 2 (some .int), Cond.methodLink RX1 35 yX1_passes, Cond.instanceMethod yX1_passes, Cond.selects RX1 yX1_passes yX1_passes, Cond.code yX1_passes cX1_passes 2 (some .boolean), Cond.methodLink RX1 39 yX1_parsePair, Cond.instanceMethod yX1_parsePair, Cond.selects RX1 yX1_parsePair yX1_parsePair, Cond.code yX1_parsePair cX1_parsePair 4 (some .int), Cond.methodLink RX1 43 yX1_parseNumber, Cond.instanceMethod yX1_parseNumber, Cond.selects RX1 yX1_parseNumber yX1_parseNumber, Cond.code yX1_parseNumber cX1_parseNumber 3 (some .int), Cond.methodLink RX1 49 Lib.Math.max.name, Cond.methodLink RX1 46 yX1_isFigure, Cond.instanceMethod yX1_isFigure, Cond.selects RX1 yX1_isFigure yX1_isFigure, Cond.code yX1_isFigure cX1_isFigure 1 (some .boolean), Cond.methodLink RL 112 yX7_fault, Cond.instanceMethod yX7_fault, Cond.selects RX7 yX7_fault yX7_fault, Cond.code yX7_fault cX7_fault 1 (some .int)]
def wsL_law_r32 : List Cond := [Cond.methodLink RX7 285 yX7_reads, Cond.instanceMethod yX7_reads, Cond.selects RX7 yX7_reads yX7_reads, Cond.code yX7_reads cX7_reads 2 (some .int), Cond.fieldLink RX7 265 "WallMarksModel" "at" "I", Cond.fieldLink RX7 275 "WallMarksModel" "pairs" "I", Cond.methodLink RX7 281 yX7_readsPair, Cond.instanceMethod yX7_readsPair, Cond.selects RX7 yX7_readsPair yX7_readsPair, Cond.code yX7_readsPair cX7_readsPair 3 (some .boolean), Cond.methodLink RX7 278 yX7_number, Cond.instanceMethod yX7_number, Cond.selects RX7 yX7_number yX7_number, Cond.code yX7_number cX7_number 4 (some .int), Cond.constantLong RX7 271 (48), Cond.constantLong RX7 273 (57), Cond.methodLink RX7 268 yX7_here, Cond.instanceMethod yX7_here, Cond.selects RX7 yX7_here yX7_here, Cond.code yX7_here cX7_here 1 (some .int), Cond.methodLink RL 113 yX6_flow, Cond.instanceMethod yX6_flow, Cond.selects RX6 yX6_flow yX6_flow, Cond.code yX6_flow cX6_flow 4 (some .long)]
def wsL_law_r33 : List Cond := [Cond.methodLink RX6 249 yX1_pairBeside, Cond.instanceMethod yX1_pairBeside, Cond.selects RX1 yX1_pairBeside yX1_pairBeside, Cond.code yX1_pairBeside cX1_pairBeside 3 (some .int), Cond.methodLink RX6 252 yX1_lineAbove, Cond.instanceMethod yX1_lineAbove, Cond.selects RX1 yX1_lineAbove yX1_lineAbove, Cond.code yX1_lineAbove cX1_lineAbove 5 (some .long), Cond.methodLink RX1 59 Lib.MathLoose.max_long.x, Cond.static Lib.MathLoose.max_long.x, Cond.code Lib.MathLoose.max_long.x Lib.MathLoose.max_long.code 4 (some .long), Cond.methodLink RX1 55 yX1_lineBelow, Cond.instanceMethod yX1_lineBelow, Cond.selects RX1 yX1_lineBelow yX1_lineBelow, Cond.code yX1_lineBelow cX1_lineBelow 2 (some .long), Cond.methodLink RX6 255 yX1_lineBelow, Cond.methodLink RL 116 yX7_flow, Cond.instanceMethod yX7_flow, Cond.selects RX7 yX7_flow yX7_flow, Cond.code yX7_flow cX7_flow 8 (some .long), Cond.methodLink RL 117 yX6_dyke, Cond.instanceMethod yX6_dyke, Cond.selects RX6 yX6_dyke yX6_dyke, Cond.code yX6_dyke cX6_dyke 3 (some .long)]
def wsL_law_r34 : List Cond := [Cond.methodLink RX6 258 yX6_dykeAbove, Cond.instanceMethod yX6_dykeAbove, Cond.selects RX6 yX6_dykeAbove yX6_dykeAbove, Cond.code yX6_dykeAbove cX6_dykeAbove 4 (some .long), Cond.methodLink RL 120 yX7_dyke, Cond.instanceMethod yX7_dyke, Cond.selects RX7 yX7_dyke yX7_dyke, Cond.code yX7_dyke cX7_dyke 3 (some .long), Cond.methodLink RX7 288 yX7_costOf, Cond.instanceMethod yX7_costOf, Cond.selects RX7 yX7_costOf yX7_costOf, Cond.code yX7_costOf cX7_costOf 4 (some .long), Cond.methodLink RL 121 yX6_best, Cond.instanceMethod yX6_best, Cond.selects RX6 yX6_best yX6_best, Cond.code yX6_best cX6_best 4 (some .int), Cond.methodLink RX6 261 yX0_steps, Cond.instanceMethod yX0_steps, Cond.selects RX0 yX0_steps yX0_steps, Cond.code yX0_steps cX0_steps 1 (some .int), Cond.methodLink RX6 264 yX0_stepAt, Cond.instanceMethod yX0_stepAt, Cond.selects RX0 yX0_stepAt yX0_stepAt, Cond.code yX0_stepAt cX0_stepAt 2 (some .int)]
def wsL_law_r35 : List Cond := [Cond.methodLink RX0 75 yX0_steps, Cond.methodLink RX6 267 yX6_isBetter, Cond.instanceMethod yX6_isBetter, Cond.selects RX6 yX6_isBetter yX6_isBetter, Cond.code yX6_isBetter cX6_isBetter 7 (some .boolean), Cond.methodLink RL 124 yX7_best, Cond.instanceMethod yX7_best, Cond.selects RX7 yX7_best yX7_best, Cond.code yX7_best cX7_best 1 (some .int), Cond.methodLink RX7 291 yX7_bestNow, Cond.instanceMethod yX7_bestNow, Cond.selects RX7 yX7_bestNow yX7_bestNow, Cond.code yX7_bestNow cX7_bestNow 11 (some .int), Cond.methodLink RL 125 yX6_sure, Cond.instanceMethod yX6_sure, Cond.selects RX6 yX6_sure yX6_sure, Cond.code yX6_sure cX6_sure 5 (some .int), Cond.methodLink RX6 270 yX6_isSure, Cond.instanceMethod yX6_isSure, Cond.selects RX6 yX6_isSure yX6_isSure, Cond.code yX6_isSure cX6_isSure 4 (some .boolean), Cond.methodLink RL 128 yX7_sure, Cond.instanceMethod yX7_sure, Cond.selects RX7 yX7_sure yX7_sure]
def wsL_law_r36 : List Cond := [Cond.code yX7_sure cX7_sure 2 (some .int), Cond.methodLink RX7 294 yX7_sureOf, Cond.instanceMethod yX7_sureOf, Cond.selects RX7 yX7_sureOf yX7_sureOf, Cond.code yX7_sureOf cX7_sureOf 5 (some .int), Cond.methodLink RL 129 yX6_sheet, Cond.instanceMethod yX6_sheet, Cond.selects RX6 yX6_sheet yX6_sheet, Cond.code yX6_sheet cX6_sheet 4 (some .int), Cond.methodLink RX6 273 yX6_isForm, Cond.static yX6_isForm, Cond.code yX6_isForm cX6_isForm 1 (some .boolean), Cond.methodLink RX6 276 yX3_renew, Cond.instanceMethod yX3_renew, Cond.selects RX3 yX3_renew yX3_renew, Cond.code yX3_renew cX3_renew 3 none, Cond.methodLink RX3 26 yJ7_fill_53178, Cond.methodLink RL 132 yX7_sheet, Cond.instanceMethod yX7_sheet, Cond.selects RX7 yX7_sheet yX7_sheet, Cond.code yX7_sheet cX7_sheet 5 (some .int), Cond.methodLink RL 133 yX6_lose, Cond.instanceMethod yX6_lose, Cond.selects RX6 yX6_lose yX6_lose]
def wsL_law_r37 : List Cond := [Cond.code yX6_lose cX6_lose 3 (some .int), Cond.methodLink RL 136 yX7_lose, Cond.instanceMethod yX7_lose, Cond.selects RX7 yX7_lose yX7_lose, Cond.code yX7_lose cX7_lose 2 (some .int), Cond.methodLink RL 137 yX6_lay, Cond.instanceMethod yX6_lay, Cond.selects RX6 yX6_lay yX6_lay, Cond.code yX6_lay cX6_lay 6 (some .int), Cond.methodLink RX6 280 yX6_findingAt, Cond.static yX6_findingAt, Cond.code yX6_findingAt cX6_findingAt 3 (some .int), Cond.fieldLink RX6 288 "WallMarks$Sheet" "form" "I", Cond.methodLink RX6 291 yX3_holds, Cond.methodLink RX6 284 yX3_put, Cond.instanceMethod yX3_put, Cond.selects RX3 yX3_put yX3_put, Cond.code yX3_put cX3_put 3 none, Cond.methodLink RX3 36 yX3_narrowed, Cond.instanceMethod yX3_narrowed, Cond.selects RX3 yX3_narrowed yX3_narrowed, Cond.code yX3_narrowed cX3_narrowed 2 (some .int), Cond.methodLink RL 140 yX7_lay, Cond.instanceMethod yX7_lay]
def wsL_law_r38 : List Cond := [Cond.selects RX7 yX7_lay yX7_lay, Cond.code yX7_lay cX7_lay 6 (some .int), Cond.methodLink RX7 96 yX7_lacks, Cond.instanceMethod yX7_lacks, Cond.selects RX7 yX7_lacks yX7_lacks, Cond.code yX7_lacks cX7_lacks 4 (some .int), Cond.methodLink RX7 100 yX7_cut, Cond.static yX7_cut, Cond.code yX7_cut cX7_cut 2 (some .int), Cond.methodLink RL 141 yX6_get, Cond.instanceMethod yX6_get, Cond.selects RX6 yX6_get yX6_get, Cond.code yX6_get cX6_get 5 (some .int), Cond.constant RX6 287 (-2147483648), Cond.methodLink RL 144 yX7_get, Cond.instanceMethod yX7_get, Cond.selects RX7 yX7_get yX7_get, Cond.code yX7_get cX7_get 4 (some .int), Cond.constant RX7 104 (-2147483648), Cond.methodLink RL 145 yX6_copy, Cond.instanceMethod yX6_copy, Cond.selects RX6 yX6_copy yX6_copy, Cond.code yX6_copy cX6_copy 8 (some .int), Cond.fieldLink RX6 294 "WallMarks$Sheet" "items" "[I"]
def wsL_law_r39 : List Cond := [Cond.methodLink RX6 297 arraycopyName, Cond.native arraycopyName, Cond.static arraycopyName, Cond.initialized "java/lang/System", Cond.methodLink RL 149 yX7_copy, Cond.instanceMethod yX7_copy, Cond.selects RX7 yX7_copy yX7_copy, Cond.code yX7_copy cX7_copy 7 (some .int), Cond.methodLink RL 150 yX6_write, Cond.instanceMethod yX6_write, Cond.selects RX6 yX6_write yX6_write, Cond.code yX6_write cX6_write 7 (some .int), Cond.methodLink RX6 303 Lib.Math.min.name, Cond.static Lib.Math.min.name, Cond.code Lib.Math.min.name Lib.Math.min.code 2 (some .int), Cond.methodLink RL 153 yX7_write, Cond.instanceMethod yX7_write, Cond.selects RX7 yX7_write yX7_write, Cond.code yX7_write cX7_write 5 (some .int), Cond.methodLink RL 154 yX6_count, Cond.instanceMethod yX6_count, Cond.selects RX6 yX6_count yX6_count, Cond.code yX6_count cX6_count 2 (some .int), Cond.fieldLink RX6 308 "WallMarks$Counted" "belows" "I"]
def wsL_law_r40 : List Cond := [Cond.fieldLink RX6 311 "WallMarks$Counted" "opens" "I", Cond.fieldLink RX6 314 "WallMarks$Counted" "greatestExact" "I", Cond.methodLink RX6 317 yX6_sisterYears, Cond.instanceMethod yX6_sisterYears, Cond.selects RX6 yX6_sisterYears yX6_sisterYears, Cond.code yX6_sisterYears cX6_sisterYears 3 (some .int), Cond.methodLink RL 157 yX7_count, Cond.instanceMethod yX7_count, Cond.selects RX7 yX7_count yX7_count, Cond.code yX7_count cX7_count 4 (some .int), Cond.methodLink RX7 297 yX7_countKind, Cond.instanceMethod yX7_countKind, Cond.selects RX7 yX7_countKind yX7_countKind, Cond.code yX7_countKind cX7_countKind 4 (some .int), Cond.methodLink RX7 300 yX7_greatest, Cond.instanceMethod yX7_greatest, Cond.selects RX7 yX7_greatest yX7_greatest, Cond.code yX7_greatest cX7_greatest 3 (some .int), Cond.methodLink RL 158 yX6_digest, Cond.instanceMethod yX6_digest, Cond.selects RX6 yX6_digest yX6_digest, Cond.code yX6_digest cX6_digest 5 (some .long), Cond.constantLong RX6 320 (17), Cond.methodLink RX6 322 yX6_count]
def wsL_law_r41 : List Cond := [Cond.methodLink RX6 325 yX6_mixed, Cond.static yX6_mixed, Cond.code yX6_mixed cX6_mixed 4 (some .long), Cond.constantLong RX6 397 (31), Cond.methodLink RX6 329 yX6_known, Cond.methodLink RX6 332 yX6_filled, Cond.methodLink RX6 335 yX6_over, Cond.methodLink RX6 338 yX6_rare, Cond.methodLink RX6 342 yX6_soRare, Cond.methodLink RX6 345 yX6_records, Cond.methodLink RX6 347 yX6_rises, Cond.methodLink RX6 350 yX6_changed, Cond.methodLink RX6 353 yX6_common, Cond.methodLink RX6 356 yX6_fault, Cond.methodLink RX6 359 yX6_best, Cond.methodLink RX6 362 yX6_sure, Cond.methodLink RL 162 yX7_digest, Cond.instanceMethod yX7_digest, Cond.selects RX7 yX7_digest yX7_digest, Cond.code yX7_digest cX7_digest 5 (some .long), Cond.constantLong RX7 303 (17), Cond.constantLong RX7 305 (31), Cond.methodLink RX7 307 yX7_count]
def wsL_law : List Cond := (wsL_law_r1 ++ (wsL_law_r2 ++ (wsL_law_r3 ++ (wsL_law_r4 ++ (wsL_law_r5 ++ (wsL_law_r6 ++ (wsL_law_r7 ++ (wsL_law_r8 ++ (wsL_law_r9 ++ (wsL_law_r10 ++ (wsL_law_r11 ++ (wsL_law_r12 ++ (wsL_law_r13 ++ (wsL_law_r14 ++ (wsL_law_r15 ++ (wsL_law_r16 ++ (wsL_law_r17 ++ (wsL_law_r18 ++ (wsL_law_r19 ++ (wsL_law_r20 ++ (wsL_law_r21 ++ (wsL_law_r22 ++ (wsL_law_r23 ++ (wsL_law_r24 ++ (wsL_law_r25 ++ (wsL_law_r26 ++ (wsL_law_r27 ++ (wsL_law_r28 ++ (wsL_law_r29 ++ (wsL_law_r30 ++ (wsL_law_r31 ++ (wsL_law_r32 ++ (wsL_law_r33 ++ (wsL_law_r34 ++ (wsL_law_r35 ++ (wsL_law_r36 ++ (wsL_law_r37 ++ (wsL_law_r38 ++ (wsL_law_r39 ++ (wsL_law_r40 ++ wsL_law_r41)))))))))))))))))))))))))))))))))))))))) ++ wsX60 ++ wsX70 ++ wsX40 ++ wsX50 ++ wsX20 ++ wsX00 ++ wsX10 ++ wsX30 ++ ([] : List Cond)
set_option maxRecDepth 20000 in
theorem wsL_law_r1_in : GoodIn lw_tbl wsL_law_r1 := goodIn_r _ [72, 73, 61, 767, 768, 70, 74, 75, 76, 77, 78, 79, 80, 81, 62, 295, 112, 113, 63, 296, 132, 133, 64, 297] (by decide +kernel) (by decide +kernel)
set_option maxRecDepth 20000 in
theorem wsL_law_r2_in : GoodIn lw_tbl wsL_law_r2 := goodIn_r _ [149, 150, 65, 298, 198, 200, 201, 202, 203, 204, 206, 299, 111, 300, 210, 211, 67, 301, 236, 302, 238, 68, 326, 303] (by decide +kernel) (by decide +kernel)
set_option maxRecDepth 20000 in
theorem wsL_law_r3_in : GoodIn lw_tbl wsL_law_r3 := goodIn_r _ [304, 83, 84, 85, 86, 88, 90, 92, 94, 96, 115, 116, 117, 118, 119, 120, 121, 135, 136, 137, 138, 141, 152, 153] (by decide +kernel) (by decide +kernel)
set_option maxRecDepth 20000 in
theorem wsL_law_r4_in : GoodIn lw_tbl wsL_law_r4 := goodIn_r _ [154, 155, 157, 159, 160, 162, 164, 166, 167, 169, 171, 173, 207, 208, 66, 209, 213, 214, 215, 216, 217, 218, 219, 221] (by decide +kernel) (by decide +kernel)
set_option maxRecDepth 20000 in
theorem wsL_law_r5_in : GoodIn lw_tbl wsL_law_r5 := goodIn_r _ [222, 240, 241, 242, 243, 245, 247, 249, 260, 262, 0, 263, 95, 93, 87, 89, 91, 140, 264, 265, 266, 267, 268, 269] (by decide +kernel) (by decide +kernel)
set_option maxRecDepth 20000 in
theorem wsL_law_r6_in : GoodIn lw_tbl wsL_law_r6 := goodIn_r _ [270, 271, 272, 274, 275, 276, 277, 278, 279, 280, 281, 282, 283, 139, 142, 284, 286, 1, 287, 288, 290, 2, 291, 292] (by decide +kernel) (by decide +kernel)
set_option maxRecDepth 20000 in
theorem wsL_law_r7_in : GoodIn lw_tbl wsL_law_r7 := goodIn_r _ [293, 69, 294, 769, 770, 771, 772, 773, 774, 775, 776, 779, 780, 781, 782, 784, 785, 786, 787, 788, 789, 790, 792, 793] (by decide +kernel) (by decide +kernel)
set_option maxRecDepth 20000 in
theorem wsL_law_r8_in : GoodIn lw_tbl wsL_law_r8 := goodIn_r _ [794, 795, 799, 800, 327, 328, 329, 330, 331, 332, 333, 334, 335, 336, 337, 338, 340, 3, 341, 97, 342, 343, 344, 345] (by decide +kernel) (by decide +kernel)
set_option maxRecDepth 20000 in
theorem wsL_law_r9_in : GoodIn lw_tbl wsL_law_r9 := goodIn_r _ [346, 347, 348, 349, 350, 898, 899, 900, 901, 905, 778, 902, 903, 904, 866, 867, 868, 906, 907, 908, 909, 910, 912, 29] (by decide +kernel) (by decide +kernel)
set_option maxRecDepth 20000 in
theorem wsL_law_r10_in : GoodIn lw_tbl wsL_law_r10 := goodIn_r _ [913, 351, 352, 353, 354, 246, 250, 355, 356, 357, 358, 360, 4, 361, 362, 363, 364, 365, 366, 367, 368, 369, 914, 915] (by decide +kernel) (by decide +kernel)
set_option maxRecDepth 20000 in
theorem wsL_law_r11_in : GoodIn lw_tbl wsL_law_r11 := goodIn_r _ [916, 917, 862, 863, 864, 865, 870, 872, 27, 873, 777, 918, 370, 371, 372, 373, 122, 374, 375, 376, 377, 378, 379, 380] (by decide +kernel) (by decide +kernel)
set_option maxRecDepth 20000 in
theorem wsL_law_r12_in : GoodIn lw_tbl wsL_law_r12 := goodIn_r _ [381, 382, 919, 920, 921, 922, 783, 383, 384, 385, 386, 387, 389, 923, 924, 925, 926, 927, 928, 929, 930, 391, 392, 393] (by decide +kernel) (by decide +kernel)
set_option maxRecDepth 20000 in
theorem wsL_law_r13_in : GoodIn lw_tbl wsL_law_r13 := goodIn_r _ [394, 143, 395, 396, 397, 931, 932, 933, 934, 935, 936, 937, 938, 940, 30, 941, 791, 942, 944, 31, 945, 946, 948, 32] (by decide +kernel) (by decide +kernel)
set_option maxRecDepth 20000 in
theorem wsL_law_r14_in : GoodIn lw_tbl wsL_law_r14 := goodIn_r _ [949, 398, 399, 400, 401, 402, 403, 404, 405, 406, 407, 408, 409, 410, 411, 413, 5, 414, 415, 416, 417, 418, 950, 951] (by decide +kernel) (by decide +kernel)
set_option maxRecDepth 20000 in
theorem wsL_law_r15_in : GoodIn lw_tbl wsL_law_r15 := goodIn_r _ [952, 953, 869, 954, 956, 33, 957, 958, 960, 34, 961, 962, 964, 35, 965, 966, 968, 36, 969, 419, 420, 421, 422, 423] (by decide +kernel) (by decide +kernel)
set_option maxRecDepth 20000 in
theorem wsL_law_r16_in : GoodIn lw_tbl wsL_law_r16 := goodIn_r _ [424, 425, 426, 427, 428, 429, 430, 431, 432, 433, 434, 435, 436, 437, 438, 439, 440, 441, 442, 443, 970, 971, 972, 973] (by decide +kernel) (by decide +kernel)
set_option maxRecDepth 20000 in
theorem wsL_law_r17_in : GoodIn lw_tbl wsL_law_r17 := goodIn_r _ [974, 976, 37, 977, 978, 979, 980, 981, 982, 983, 984, 985, 986, 987, 444, 445, 446, 447, 161, 158, 448, 449, 450, 988] (by decide +kernel) (by decide +kernel)
set_option maxRecDepth 20000 in
theorem wsL_law_r18_in : GoodIn lw_tbl wsL_law_r18 := goodIn_r _ [989, 990, 991, 992, 993, 994, 995, 996, 998, 38, 999, 451, 452, 453, 454, 455, 457, 6, 458, 1000, 1001, 1002, 1003, 459] (by decide +kernel) (by decide +kernel)
set_option maxRecDepth 20000 in
theorem wsL_law_r19_in : GoodIn lw_tbl wsL_law_r19 := goodIn_r _ [460, 461, 462, 475, 463, 464, 465, 466, 467, 468, 469, 470, 471, 472, 473, 474, 1004, 1005, 1006, 1007, 1008, 1009, 1010, 1011] (by decide +kernel) (by decide +kernel)
set_option maxRecDepth 20000 in
theorem wsL_law_r20_in : GoodIn lw_tbl wsL_law_r20 := goodIn_r _ [1012, 1013, 1014, 1015, 1016, 1017, 1018, 1019, 1020, 1021, 476, 477, 478, 479, 480, 481, 482, 1022, 1023, 1024, 1025, 1026, 483, 484] (by decide +kernel) (by decide +kernel)
set_option maxRecDepth 20000 in
theorem wsL_law_r21_in : GoodIn lw_tbl wsL_law_r21 := goodIn_r _ [485, 486, 1027, 1028, 1029, 1030, 1031, 1032, 487, 488, 489, 490, 1033, 1034, 1035, 1036, 491, 492, 493, 494, 170, 172, 174, 495] (by decide +kernel) (by decide +kernel)
set_option maxRecDepth 20000 in
theorem wsL_law_r22_in : GoodIn lw_tbl wsL_law_r22 := goodIn_r _ [497, 7, 498, 506, 499, 501, 8, 502, 503, 504, 505, 1037, 1038, 1039, 1040, 1041, 1043, 39, 1044, 1045, 1047, 40, 1048, 1049] (by decide +kernel) (by decide +kernel)
set_option maxRecDepth 20000 in
theorem wsL_law_r23_in : GoodIn lw_tbl wsL_law_r23 := goodIn_r _ [1050, 1051, 1052, 507, 508, 509, 510, 511, 512, 513, 1053, 1054, 1055, 1056, 1057, 1059, 41, 1060, 1061, 1062, 1063, 514, 515, 516] (by decide +kernel) (by decide +kernel)
set_option maxRecDepth 20000 in
theorem wsL_law_r24_in : GoodIn lw_tbl wsL_law_r24 := goodIn_r _ [517, 518, 519, 520, 521, 522, 523, 524, 525, 526, 527, 528, 529, 530, 532, 9, 533, 534, 535, 536, 537, 1064, 1065, 1066] (by decide +kernel) (by decide +kernel)
set_option maxRecDepth 20000 in
theorem wsL_law_r25_in : GoodIn lw_tbl wsL_law_r25 := goodIn_r _ [1067, 1068, 1070, 42, 1071, 1072, 1074, 43, 1075, 1076, 1078, 44, 1079, 538, 539, 540, 541, 542, 544, 10, 545, 546, 548, 11] (by decide +kernel) (by decide +kernel)
set_option maxRecDepth 20000 in
theorem wsL_law_r26_in : GoodIn lw_tbl wsL_law_r26 := goodIn_r _ [549, 550, 551, 552, 553, 554, 1080, 1081, 1082, 1083, 1084, 1086, 45, 1087, 1088, 1090, 46, 1091, 1092, 1093, 1094, 1095, 1097, 47] (by decide +kernel) (by decide +kernel)
set_option maxRecDepth 20000 in
theorem wsL_law_r27_in : GoodIn lw_tbl wsL_law_r27 := goodIn_r _ [1098, 555, 556, 557, 558, 1099, 1100, 1101, 1102, 1103, 559, 560, 561, 562, 563, 565, 12, 566, 567, 569, 13, 570, 156, 571] (by decide +kernel) (by decide +kernel)
set_option maxRecDepth 20000 in
theorem wsL_law_r28_in : GoodIn lw_tbl wsL_law_r28 := goodIn_r _ [573, 14, 574, 575, 577, 15, 578, 1104, 1105, 1106, 1107, 1108, 1110, 48, 1111, 1112, 1114, 49, 1115, 579, 580, 581, 582, 583] (by decide +kernel) (by decide +kernel)
set_option maxRecDepth 20000 in
theorem wsL_law_r29_in : GoodIn lw_tbl wsL_law_r29 := goodIn_r _ [585, 16, 586, 587, 589, 17, 590, 1116, 1117, 1118, 1119, 1120, 1122, 50, 1123, 591, 592, 593, 594, 220, 595, 596, 597, 598] (by decide +kernel) (by decide +kernel)
set_option maxRecDepth 20000 in
theorem wsL_law_r30_in : GoodIn lw_tbl wsL_law_r30 := goodIn_r _ [599, 600, 601, 602, 603, 1124, 1125, 1126, 1127, 1128, 796, 604, 605, 606, 607, 1129, 1130, 1131, 1132, 608, 609, 610, 611, 612] (by decide +kernel) (by decide +kernel)
set_option maxRecDepth 20000 in
theorem wsL_law_r31_in : GoodIn lw_tbl wsL_law_r31 := goodIn_r _ [613, 614, 615, 616, 618, 18, 619, 620, 622, 19, 623, 624, 626, 20, 627, 632, 628, 630, 21, 631, 1133, 1134, 1135, 1136] (by decide +kernel) (by decide +kernel)
set_option maxRecDepth 20000 in
theorem wsL_law_r32_in : GoodIn lw_tbl wsL_law_r32 := goodIn_r _ [1137, 1139, 51, 1140, 797, 798, 1141, 1143, 52, 1144, 1145, 1147, 53, 1148, 1153, 1154, 1149, 1151, 54, 1152, 633, 634, 635, 636] (by decide +kernel) (by decide +kernel)
set_option maxRecDepth 20000 in
theorem wsL_law_r33_in : GoodIn lw_tbl wsL_law_r33 := goodIn_r _ [637, 638, 639, 640, 641, 642, 643, 644, 649, 650, 651, 645, 646, 647, 648, 652, 1155, 1156, 1157, 1158, 653, 654, 655, 656] (by decide +kernel) (by decide +kernel)
set_option maxRecDepth 20000 in
theorem wsL_law_r34_in : GoodIn lw_tbl wsL_law_r34 := goodIn_r _ [657, 659, 22, 660, 1159, 1160, 1161, 1162, 1163, 1165, 55, 1166, 661, 662, 663, 664, 665, 666, 667, 668, 669, 670, 671, 672] (by decide +kernel) (by decide +kernel)
set_option maxRecDepth 20000 in
theorem wsL_law_r35_in : GoodIn lw_tbl wsL_law_r35 := goodIn_r _ [673, 674, 676, 23, 677, 1167, 1168, 1169, 1170, 1171, 1173, 56, 1174, 678, 679, 680, 681, 682, 684, 24, 685, 1175, 1176, 1177] (by decide +kernel) (by decide +kernel)
set_option maxRecDepth 20000 in
theorem wsL_law_r36_in : GoodIn lw_tbl wsL_law_r36 := goodIn_r _ [1178, 1179, 1181, 57, 1182, 686, 687, 688, 689, 690, 691, 692, 693, 694, 695, 696, 697, 858, 859, 860, 861, 698, 699, 700] (by decide +kernel) (by decide +kernel)
set_option maxRecDepth 20000 in
theorem wsL_law_r37_in : GoodIn lw_tbl wsL_law_r37 := goodIn_r _ [701, 874, 875, 876, 877, 702, 703, 704, 705, 706, 707, 708, 248, 709, 710, 711, 712, 713, 714, 716, 25, 717, 878, 879] (by decide +kernel) (by decide +kernel)
set_option maxRecDepth 20000 in
theorem wsL_law_r38_in : GoodIn lw_tbl wsL_law_r38 := goodIn_r _ [880, 881, 882, 884, 28, 885, 886, 887, 888, 718, 719, 720, 721, 722, 889, 890, 891, 892, 893, 723, 724, 725, 726, 244] (by decide +kernel) (by decide +kernel)
set_option maxRecDepth 20000 in
theorem wsL_law_r39_in : GoodIn lw_tbl wsL_law_r39 := goodIn_r _ [727, 729, 728, 71, 894, 895, 896, 897, 730, 731, 732, 733, 734, 735, 736, 1183, 1184, 1185, 1186, 737, 738, 739, 740, 163] (by decide +kernel) (by decide +kernel)
set_option maxRecDepth 20000 in
theorem wsL_law_r40_in : GoodIn lw_tbl wsL_law_r40 := goodIn_r _ [165, 168, 741, 743, 26, 744, 1187, 1188, 1189, 1190, 1191, 1193, 58, 1194, 1195, 1197, 59, 1198, 745, 746, 747, 748, 749, 750] (by decide +kernel) (by decide +kernel)
set_option maxRecDepth 20000 in
theorem wsL_law_r41_in : GoodIn lw_tbl wsL_law_r41 := goodIn_r _ [751, 752, 753, 754, 755, 756, 757, 758, 759, 760, 761, 762, 763, 764, 765, 766, 1199, 1200, 1201, 1202, 1203, 1204, 1205] (by decide +kernel) (by decide +kernel)
set_option maxRecDepth 20000 in
theorem wsX60_inL : GoodIn lw_tbl wsX60 := goodIn_r _ [305, 307, 309, 311, 313, 315, 317, 319, 321, 323] (by decide +kernel) (by decide +kernel)
set_option maxRecDepth 20000 in
theorem wsX70_inL : GoodIn lw_tbl wsX70 := goodIn_r _ [801, 803, 805, 807, 809, 811, 813, 815, 817, 819, 821, 823, 825, 827, 829, 831, 833, 835, 837, 839, 841, 843, 845, 847, 849, 851, 853, 855] (by decide +kernel) (by decide +kernel)
set_option maxRecDepth 20000 in
theorem wsX40_inL : GoodIn lw_tbl wsX40 := goodIn_r _ [98, 100, 102, 104, 106, 108] (by decide +kernel) (by decide +kernel)
set_option maxRecDepth 20000 in
theorem wsX50_inL : GoodIn lw_tbl wsX50 := goodIn_r _ [123, 125, 127, 129] (by decide +kernel) (by decide +kernel)
set_option maxRecDepth 20000 in
theorem wsX20_inL : GoodIn lw_tbl wsX20 := goodIn_r _ [144, 146] (by decide +kernel) (by decide +kernel)
set_option maxRecDepth 20000 in
theorem wsX00_inL : GoodIn lw_tbl wsX00 := goodIn_r _ [175, 177, 179, 181, 183, 185, 187, 189, 191, 193, 195] (by decide +kernel) (by decide +kernel)
set_option maxRecDepth 20000 in
theorem wsX10_inL : GoodIn lw_tbl wsX10 := goodIn_r _ [223, 225, 227, 229, 231, 233] (by decide +kernel) (by decide +kernel)
set_option maxRecDepth 20000 in
theorem wsX30_inL : GoodIn lw_tbl wsX30 := goodIn_r _ [251, 253, 255, 257] (by decide +kernel) (by decide +kernel)
theorem wsL_law_in : ∀ w ∈ wsL_law, w ∈ lw_tbl := fun w h => ((show GoodIn lw_tbl wsL_law from goodIn_app (goodIn_app (goodIn_app (goodIn_app (goodIn_app (goodIn_app (goodIn_app (goodIn_app (goodIn_app (goodIn_app (wsL_law_r1_in) (goodIn_app (wsL_law_r2_in) (goodIn_app (wsL_law_r3_in) (goodIn_app (wsL_law_r4_in) (goodIn_app (wsL_law_r5_in) (goodIn_app (wsL_law_r6_in) (goodIn_app (wsL_law_r7_in) (goodIn_app (wsL_law_r8_in) (goodIn_app (wsL_law_r9_in) (goodIn_app (wsL_law_r10_in) (goodIn_app (wsL_law_r11_in) (goodIn_app (wsL_law_r12_in) (goodIn_app (wsL_law_r13_in) (goodIn_app (wsL_law_r14_in) (goodIn_app (wsL_law_r15_in) (goodIn_app (wsL_law_r16_in) (goodIn_app (wsL_law_r17_in) (goodIn_app (wsL_law_r18_in) (goodIn_app (wsL_law_r19_in) (goodIn_app (wsL_law_r20_in) (goodIn_app (wsL_law_r21_in) (goodIn_app (wsL_law_r22_in) (goodIn_app (wsL_law_r23_in) (goodIn_app (wsL_law_r24_in) (goodIn_app (wsL_law_r25_in) (goodIn_app (wsL_law_r26_in) (goodIn_app (wsL_law_r27_in) (goodIn_app (wsL_law_r28_in) (goodIn_app (wsL_law_r29_in) (goodIn_app (wsL_law_r30_in) (goodIn_app (wsL_law_r31_in) (goodIn_app (wsL_law_r32_in) (goodIn_app (wsL_law_r33_in) (goodIn_app (wsL_law_r34_in) (goodIn_app (wsL_law_r35_in) (goodIn_app (wsL_law_r36_in) (goodIn_app (wsL_law_r37_in) (goodIn_app (wsL_law_r38_in) (goodIn_app (wsL_law_r39_in) (goodIn_app (wsL_law_r40_in) (wsL_law_r41_in))))))))))))))))))))))))))))))))))))))))) (wsX60_inL)) (wsX70_inL)) (wsX40_inL)) (wsX50_inL)) (wsX20_inL)) (wsX00_inL)) (wsX10_inL)) (wsX30_inL)) ((fun w h => absurd h List.not_mem_nil : GoodIn lw_tbl ([] : List Cond)))) w h).1
theorem inlX0 : ∀ w ∈ wsX00, w ∈ wsL_law := fun _ h => List.mem_append_left _ (List.mem_append_left _ (List.mem_append_left _ (List.mem_append_right _ h)))
theorem inX0 : ∀ w ∈ wsX00, w ∈ lw_tbl := fun w h => wsL_law_in w (inlX0 w h)
theorem inlX1 : ∀ w ∈ wsX10, w ∈ wsL_law := fun _ h => List.mem_append_left _ (List.mem_append_left _ (List.mem_append_right _ h))
theorem inX1 : ∀ w ∈ wsX10, w ∈ lw_tbl := fun w h => wsL_law_in w (inlX1 w h)
theorem inlX2 : ∀ w ∈ wsX20, w ∈ wsL_law := fun _ h => List.mem_append_left _ (List.mem_append_left _ (List.mem_append_left _ (List.mem_append_left _ (List.mem_append_right _ h))))
theorem inX2 : ∀ w ∈ wsX20, w ∈ lw_tbl := fun w h => wsL_law_in w (inlX2 w h)
theorem inlX3 : ∀ w ∈ wsX30, w ∈ wsL_law := fun _ h => List.mem_append_left _ (List.mem_append_right _ h)
theorem inX3 : ∀ w ∈ wsX30, w ∈ lw_tbl := fun w h => wsL_law_in w (inlX3 w h)
theorem inlX4 : ∀ w ∈ wsX40, w ∈ wsL_law := fun _ h => List.mem_append_left _ (List.mem_append_left _ (List.mem_append_left _ (List.mem_append_left _ (List.mem_append_left _ (List.mem_append_left _ (List.mem_append_right _ h))))))
theorem inX4 : ∀ w ∈ wsX40, w ∈ lw_tbl := fun w h => wsL_law_in w (inlX4 w h)
theorem inlX5 : ∀ w ∈ wsX50, w ∈ wsL_law := fun _ h => List.mem_append_left _ (List.mem_append_left _ (List.mem_append_left _ (List.mem_append_left _ (List.mem_append_left _ (List.mem_append_right _ h)))))
theorem inX5 : ∀ w ∈ wsX50, w ∈ lw_tbl := fun w h => wsL_law_in w (inlX5 w h)
theorem inlX6 : ∀ w ∈ wsX60, w ∈ wsL_law := fun _ h => List.mem_append_left _ (List.mem_append_left _ (List.mem_append_left _ (List.mem_append_left _ (List.mem_append_left _ (List.mem_append_left _ (List.mem_append_left _ (List.mem_append_left _ (List.mem_append_right _ h))))))))
theorem inX6 : ∀ w ∈ wsX60, w ∈ lw_tbl := fun w h => wsL_law_in w (inlX6 w h)
theorem inlX7 : ∀ w ∈ wsX70, w ∈ wsL_law := fun _ h => List.mem_append_left _ (List.mem_append_left _ (List.mem_append_left _ (List.mem_append_left _ (List.mem_append_left _ (List.mem_append_left _ (List.mem_append_left _ (List.mem_append_right _ h)))))))
theorem inX7 : ∀ w ∈ wsX70, w ∈ lw_tbl := fun w h => wsL_law_in w (inlX7 w h)
theorem inJx8e188 : ∀ w ∈ wsJx8e1880, w ∈ lw_tbl := by decide +kernel
theorem inJ9 : ∀ w ∈ wsJ90, w ∈ lw_tbl := by decide +kernel
theorem inJ10 : ∀ w ∈ wsJ100, w ∈ lw_tbl := by decide +kernel
theorem inJ7 : ∀ w ∈ wsJ70, w ∈ lw_tbl := by decide +kernel
theorem dX0_init_0 : decode cX0_init 0 = .ok (.aload_n 0, 1) := by decide +kernel
theorem dX0_init_1 : decode cX0_init 1 = .ok (.invokespecial 3, 3) := by decide +kernel
theorem dX0_init_4 : decode cX0_init 4 = .ok (.aload_n 0, 1) := by decide +kernel
theorem dX0_init_5 : decode cX0_init 5 = .ok (.bipush 60, 2) := by decide +kernel
theorem dX0_init_7 : decode cX0_init 7 = .ok (.newarray .int, 2) := by decide +kernel
theorem dX0_init_9 : decode cX0_init 9 = .ok (.putfield 9, 3) := by decide +kernel
theorem dX0_init_12 : decode cX0_init 12 = .ok (.aload_n 0, 1) := by decide +kernel
theorem dX0_init_13 : decode cX0_init 13 = .ok (.bipush 60, 2) := by decide +kernel
theorem dX0_init_15 : decode cX0_init 15 = .ok (.newarray .int, 2) := by decide +kernel
theorem dX0_init_17 : decode cX0_init 17 = .ok (.putfield 15, 3) := by decide +kernel
theorem dX0_init_20 : decode cX0_init 20 = .ok (.aload_n 0, 1) := by decide +kernel
theorem dX0_init_21 : decode cX0_init 21 = .ok (.bipush 60, 2) := by decide +kernel
theorem dX0_init_23 : decode cX0_init 23 = .ok (.newarray .int, 2) := by decide +kernel
theorem dX0_init_25 : decode cX0_init 25 = .ok (.putfield 18, 3) := by decide +kernel
theorem dX0_init_28 : decode cX0_init 28 = .ok (.aload_n 0, 1) := by decide +kernel
theorem dX0_init_29 : decode cX0_init 29 = .ok (.iconst 0, 1) := by decide +kernel
theorem dX0_init_30 : decode cX0_init 30 = .ok (.putfield 21, 3) := by decide +kernel
theorem dX0_init_33 : decode cX0_init 33 = .ok (.aload_n 0, 1) := by decide +kernel
theorem dX0_init_34 : decode cX0_init 34 = .ok (.iconst 0, 1) := by decide +kernel
theorem dX0_init_35 : decode cX0_init 35 = .ok (.putfield 25, 3) := by decide +kernel
theorem dX0_init_38 : decode cX0_init 38 = .ok (.aload_n 0, 1) := by decide +kernel
theorem dX0_init_39 : decode cX0_init 39 = .ok (.iconst 0, 1) := by decide +kernel
theorem dX0_init_40 : decode cX0_init 40 = .ok (.putfield 28, 3) := by decide +kernel
theorem dX0_init_43 : decode cX0_init 43 = .ok (.aload_n 0, 1) := by decide +kernel
theorem dX0_init_44 : decode cX0_init 44 = .ok (.iconst 0, 1) := by decide +kernel
theorem dX0_init_45 : decode cX0_init 45 = .ok (.putfield 31, 3) := by decide +kernel
theorem dX0_init_48 : decode cX0_init 48 = .ok (.aload_n 0, 1) := by decide +kernel
theorem dX0_init_49 : decode cX0_init 49 = .ok (.iconst (-1), 1) := by decide +kernel
theorem dX0_init_50 : decode cX0_init 50 = .ok (.putfield 34, 3) := by decide +kernel
theorem dX0_init_53 : decode cX0_init 53 = .ok (.aload_n 0, 1) := by decide +kernel
theorem dX0_init_54 : decode cX0_init 54 = .ok (.iconst 0, 1) := by decide +kernel
theorem dX0_init_55 : decode cX0_init 55 = .ok (.putfield 37, 3) := by decide +kernel
theorem dX0_init_58 : decode cX0_init 58 = .ok (.aload_n 0, 1) := by decide +kernel
theorem dX0_init_59 : decode cX0_init 59 = .ok (.iconst (-1), 1) := by decide +kernel
theorem dX0_init_60 : decode cX0_init 60 = .ok (.putfield 40, 3) := by decide +kernel
theorem dX0_init_63 : decode cX0_init 63 = .ok (.aload_n 0, 1) := by decide +kernel
theorem dX0_init_64 : decode cX0_init 64 = .ok (.iconst 0, 1) := by decide +kernel
theorem dX0_init_65 : decode cX0_init 65 = .ok (.putfield 43, 3) := by decide +kernel
theorem dX0_init_68 : decode cX0_init 68 = .ok (.return_, 1) := by decide +kernel
set_option maxRecDepth 20000 in
theorem ggX0_gather_X0_add : GoodIn wsX0_gather wsX0_add := goodIn_r _ [15, 1, 16, 17, 4, 2, 18, 3, 19, 20, 21, 14, 22, 5, 7, 8, 23, 24, 25, 26, 6, 27, 28, 29, 30, 31, 32, 33, 34, 35, 36, 37] (by decide +kernel) (by decide +kernel)
set_option maxRecDepth 20000 in
theorem gX0_gather_X0_add : GoodIn wsX0_gather (wsV RX0 54 RX0 yX0_add wsX0_add) := goodIn_app (goodIn_of _ (by decide +kernel)) ggX0_gather_X0_add
theorem dX0_gather_0 : decode cX0_gather 0 = .ok (.aload_n 0, 1) := by decide +kernel
theorem dX0_gather_1 : decode cX0_gather 1 = .ok (.iconst 0, 1) := by decide +kernel
theorem dX0_gather_2 : decode cX0_gather 2 = .ok (.putfield 21, 3) := by decide +kernel
theorem dX0_gather_5 : decode cX0_gather 5 = .ok (.aload_n 0, 1) := by decide +kernel
theorem dX0_gather_6 : decode cX0_gather 6 = .ok (.iconst 0, 1) := by decide +kernel
theorem dX0_gather_7 : decode cX0_gather 7 = .ok (.putfield 25, 3) := by decide +kernel
theorem dX0_gather_10 : decode cX0_gather 10 = .ok (.aload_n 0, 1) := by decide +kernel
theorem dX0_gather_11 : decode cX0_gather 11 = .ok (.iconst 0, 1) := by decide +kernel
theorem dX0_gather_12 : decode cX0_gather 12 = .ok (.putfield 28, 3) := by decide +kernel
theorem dX0_gather_15 : decode cX0_gather 15 = .ok (.aload_n 0, 1) := by decide +kernel
theorem dX0_gather_16 : decode cX0_gather 16 = .ok (.iconst 0, 1) := by decide +kernel
theorem dX0_gather_17 : decode cX0_gather 17 = .ok (.putfield 31, 3) := by decide +kernel
theorem dX0_gather_20 : decode cX0_gather 20 = .ok (.aload_n 0, 1) := by decide +kernel
theorem dX0_gather_21 : decode cX0_gather 21 = .ok (.iconst (-1), 1) := by decide +kernel
theorem dX0_gather_22 : decode cX0_gather 22 = .ok (.putfield 34, 3) := by decide +kernel
theorem dX0_gather_25 : decode cX0_gather 25 = .ok (.aload_n 0, 1) := by decide +kernel
theorem dX0_gather_26 : decode cX0_gather 26 = .ok (.iconst 0, 1) := by decide +kernel
theorem dX0_gather_27 : decode cX0_gather 27 = .ok (.putfield 37, 3) := by decide +kernel
theorem dX0_gather_30 : decode cX0_gather 30 = .ok (.aload_n 0, 1) := by decide +kernel
theorem dX0_gather_31 : decode cX0_gather 31 = .ok (.iconst (-1), 1) := by decide +kernel
theorem dX0_gather_32 : decode cX0_gather 32 = .ok (.putfield 40, 3) := by decide +kernel
theorem dX0_gather_35 : decode cX0_gather 35 = .ok (.aload_n 0, 1) := by decide +kernel
theorem dX0_gather_36 : decode cX0_gather 36 = .ok (.iconst 0, 1) := by decide +kernel
theorem dX0_gather_37 : decode cX0_gather 37 = .ok (.putfield 43, 3) := by decide +kernel
theorem dX0_gather_40 : decode cX0_gather 40 = .ok (.iconst 0, 1) := by decide +kernel
theorem dX0_gather_41 : decode cX0_gather 41 = .ok (.istore 4, 2) := by decide +kernel
theorem dX0_gather_43 : decode cX0_gather 43 = .ok (.iload 4, 2) := by decide +kernel
theorem dX0_gather_45 : decode cX0_gather 45 = .ok (.bipush 60, 2) := by decide +kernel
theorem dX0_gather_47 : decode cX0_gather 47 = .ok (.if_icmp .ge 41, 3) := by decide +kernel
theorem dX0_gather_50 : decode cX0_gather 50 = .ok (.iload_n 2, 1) := by decide +kernel
theorem dX0_gather_51 : decode cX0_gather 51 = .ok (.iload 4, 2) := by decide +kernel
theorem dX0_gather_53 : decode cX0_gather 53 = .ok (.if_icmp .gt 29, 3) := by decide +kernel
theorem dX0_gather_56 : decode cX0_gather 56 = .ok (.iload 4, 2) := by decide +kernel
theorem dX0_gather_58 : decode cX0_gather 58 = .ok (.iload_n 3, 1) := by decide +kernel
theorem dX0_gather_59 : decode cX0_gather 59 = .ok (.if_icmp .gt 23, 3) := by decide +kernel
theorem dX0_gather_62 : decode cX0_gather 62 = .ok (.aload_n 0, 1) := by decide +kernel
theorem dX0_gather_63 : decode cX0_gather 63 = .ok (.iload 4, 2) := by decide +kernel
theorem dX0_gather_65 : decode cX0_gather 65 = .ok (.aload_n 1, 1) := by decide +kernel
theorem dX0_gather_66 : decode cX0_gather 66 = .ok (.getfield 46, 3) := by decide +kernel
theorem dX0_gather_69 : decode cX0_gather 69 = .ok (.iload 4, 2) := by decide +kernel
theorem dX0_gather_71 : decode cX0_gather 71 = .ok (.iaload, 1) := by decide +kernel
theorem dX0_gather_72 : decode cX0_gather 72 = .ok (.aload_n 1, 1) := by decide +kernel
theorem dX0_gather_73 : decode cX0_gather 73 = .ok (.getfield 51, 3) := by decide +kernel
theorem dX0_gather_76 : decode cX0_gather 76 = .ok (.iload 4, 2) := by decide +kernel
theorem dX0_gather_78 : decode cX0_gather 78 = .ok (.iaload, 1) := by decide +kernel
theorem dX0_gather_79 : decode cX0_gather 79 = .ok (.invokevirtual 54, 3) := by decide +kernel
theorem dX0_gather_82 : decode cX0_gather 82 = .ok (.iinc 4 1, 3) := by decide +kernel
theorem dX0_gather_85 : decode cX0_gather 85 = .ok (.goto (-42), 3) := by decide +kernel
theorem dX0_gather_88 : decode cX0_gather 88 = .ok (.return_, 1) := by decide +kernel
set_option maxRecDepth 20000 in
theorem ggX0_add_X0_holdAgainstRecord : GoodIn wsX0_add wsX0_holdAgainstRecord := goodIn_r _ [12, 13, 14, 15, 16, 17, 18, 19, 20, 21, 22, 23, 24, 25, 26, 27, 28, 29, 30, 31] (by decide +kernel) (by decide +kernel)
set_option maxRecDepth 20000 in
theorem gX0_add_X0_holdAgainstRecord : GoodIn wsX0_add (wsV RX0 58 RX0 yX0_holdAgainstRecord wsX0_holdAgainstRecord) := goodIn_app (goodIn_of _ (by decide +kernel)) ggX0_add_X0_holdAgainstRecord
theorem dX0_add_0 : decode cX0_add 0 = .ok (.iload_n 2, 1) := by decide +kernel
theorem dX0_add_1 : decode cX0_add 1 = .ok (.ifCond .ne 61, 3) := by decide +kernel
theorem dX0_add_4 : decode cX0_add 4 = .ok (.aload_n 0, 1) := by decide +kernel
theorem dX0_add_5 : decode cX0_add 5 = .ok (.getfield 21, 3) := by decide +kernel
theorem dX0_add_8 : decode cX0_add 8 = .ok (.bipush 60, 2) := by decide +kernel
theorem dX0_add_10 : decode cX0_add 10 = .ok (.if_icmp .ge 52, 3) := by decide +kernel
theorem dX0_add_13 : decode cX0_add 13 = .ok (.aload_n 0, 1) := by decide +kernel
theorem dX0_add_14 : decode cX0_add 14 = .ok (.getfield 9, 3) := by decide +kernel
theorem dX0_add_17 : decode cX0_add 17 = .ok (.aload_n 0, 1) := by decide +kernel
theorem dX0_add_18 : decode cX0_add 18 = .ok (.getfield 21, 3) := by decide +kernel
theorem dX0_add_21 : decode cX0_add 21 = .ok (.iload_n 1, 1) := by decide +kernel
theorem dX0_add_22 : decode cX0_add 22 = .ok (.iastore, 1) := by decide +kernel
theorem dX0_add_23 : decode cX0_add 23 = .ok (.aload_n 0, 1) := by decide +kernel
theorem dX0_add_24 : decode cX0_add 24 = .ok (.getfield 15, 3) := by decide +kernel
theorem dX0_add_27 : decode cX0_add 27 = .ok (.aload_n 0, 1) := by decide +kernel
theorem dX0_add_28 : decode cX0_add 28 = .ok (.getfield 21, 3) := by decide +kernel
theorem dX0_add_31 : decode cX0_add 31 = .ok (.iload_n 3, 1) := by decide +kernel
theorem dX0_add_32 : decode cX0_add 32 = .ok (.iastore, 1) := by decide +kernel
theorem dX0_add_33 : decode cX0_add 33 = .ok (.aload_n 0, 1) := by decide +kernel
theorem dX0_add_34 : decode cX0_add 34 = .ok (.dup, 1) := by decide +kernel
theorem dX0_add_35 : decode cX0_add 35 = .ok (.getfield 31, 3) := by decide +kernel
theorem dX0_add_38 : decode cX0_add 38 = .ok (.iload_n 3, 1) := by decide +kernel
theorem dX0_add_39 : decode cX0_add 39 = .ok (.iadd, 1) := by decide +kernel
theorem dX0_add_40 : decode cX0_add 40 = .ok (.putfield 31, 3) := by decide +kernel
theorem dX0_add_43 : decode cX0_add 43 = .ok (.aload_n 0, 1) := by decide +kernel
theorem dX0_add_44 : decode cX0_add 44 = .ok (.dup, 1) := by decide +kernel
theorem dX0_add_45 : decode cX0_add 45 = .ok (.getfield 21, 3) := by decide +kernel
theorem dX0_add_48 : decode cX0_add 48 = .ok (.iconst 1, 1) := by decide +kernel
theorem dX0_add_49 : decode cX0_add 49 = .ok (.iadd, 1) := by decide +kernel
theorem dX0_add_50 : decode cX0_add 50 = .ok (.putfield 21, 3) := by decide +kernel
theorem dX0_add_53 : decode cX0_add 53 = .ok (.aload_n 0, 1) := by decide +kernel
theorem dX0_add_54 : decode cX0_add 54 = .ok (.iload_n 1, 1) := by decide +kernel
theorem dX0_add_55 : decode cX0_add 55 = .ok (.iload_n 3, 1) := by decide +kernel
theorem dX0_add_56 : decode cX0_add 56 = .ok (.invokevirtual 58, 3) := by decide +kernel
theorem dX0_add_59 : decode cX0_add 59 = .ok (.goto 50, 3) := by decide +kernel
theorem dX0_add_62 : decode cX0_add 62 = .ok (.iload_n 2, 1) := by decide +kernel
theorem dX0_add_63 : decode cX0_add 63 = .ok (.iconst 1, 1) := by decide +kernel
theorem dX0_add_64 : decode cX0_add 64 = .ok (.if_icmp .ne 35, 3) := by decide +kernel
theorem dX0_add_67 : decode cX0_add 67 = .ok (.aload_n 0, 1) := by decide +kernel
theorem dX0_add_68 : decode cX0_add 68 = .ok (.getfield 25, 3) := by decide +kernel
theorem dX0_add_71 : decode cX0_add 71 = .ok (.bipush 60, 2) := by decide +kernel
theorem dX0_add_73 : decode cX0_add 73 = .ok (.if_icmp .ge 26, 3) := by decide +kernel
theorem dX0_add_76 : decode cX0_add 76 = .ok (.aload_n 0, 1) := by decide +kernel
theorem dX0_add_77 : decode cX0_add 77 = .ok (.getfield 18, 3) := by decide +kernel
theorem dX0_add_80 : decode cX0_add 80 = .ok (.aload_n 0, 1) := by decide +kernel
theorem dX0_add_81 : decode cX0_add 81 = .ok (.getfield 25, 3) := by decide +kernel
theorem dX0_add_84 : decode cX0_add 84 = .ok (.iload_n 3, 1) := by decide +kernel
theorem dX0_add_85 : decode cX0_add 85 = .ok (.iastore, 1) := by decide +kernel
theorem dX0_add_86 : decode cX0_add 86 = .ok (.aload_n 0, 1) := by decide +kernel
theorem dX0_add_87 : decode cX0_add 87 = .ok (.dup, 1) := by decide +kernel
theorem dX0_add_88 : decode cX0_add 88 = .ok (.getfield 25, 3) := by decide +kernel
theorem dX0_add_91 : decode cX0_add 91 = .ok (.iconst 1, 1) := by decide +kernel
theorem dX0_add_92 : decode cX0_add 92 = .ok (.iadd, 1) := by decide +kernel
theorem dX0_add_93 : decode cX0_add 93 = .ok (.putfield 25, 3) := by decide +kernel
theorem dX0_add_96 : decode cX0_add 96 = .ok (.goto 13, 3) := by decide +kernel
theorem dX0_add_99 : decode cX0_add 99 = .ok (.aload_n 0, 1) := by decide +kernel
theorem dX0_add_100 : decode cX0_add 100 = .ok (.dup, 1) := by decide +kernel
theorem dX0_add_101 : decode cX0_add 101 = .ok (.getfield 28, 3) := by decide +kernel
theorem dX0_add_104 : decode cX0_add 104 = .ok (.iconst 1, 1) := by decide +kernel
theorem dX0_add_105 : decode cX0_add 105 = .ok (.iadd, 1) := by decide +kernel
theorem dX0_add_106 : decode cX0_add 106 = .ok (.putfield 28, 3) := by decide +kernel
theorem dX0_add_109 : decode cX0_add 109 = .ok (.return_, 1) := by decide +kernel
theorem dX0_holdAgainstRecord_0 : decode cX0_holdAgainstRecord 0 = .ok (.iload_n 2, 1) := by decide +kernel
theorem dX0_holdAgainstRecord_1 : decode cX0_holdAgainstRecord 1 = .ok (.aload_n 0, 1) := by decide +kernel
theorem dX0_holdAgainstRecord_2 : decode cX0_holdAgainstRecord 2 = .ok (.getfield 34, 3) := by decide +kernel
theorem dX0_holdAgainstRecord_5 : decode cX0_holdAgainstRecord 5 = .ok (.if_icmp .le 52, 3) := by decide +kernel
theorem dX0_holdAgainstRecord_8 : decode cX0_holdAgainstRecord 8 = .ok (.aload_n 0, 1) := by decide +kernel
theorem dX0_holdAgainstRecord_9 : decode cX0_holdAgainstRecord 9 = .ok (.aload_n 0, 1) := by decide +kernel
theorem dX0_holdAgainstRecord_10 : decode cX0_holdAgainstRecord 10 = .ok (.getfield 40, 3) := by decide +kernel
theorem dX0_holdAgainstRecord_13 : decode cX0_holdAgainstRecord 13 = .ok (.iconst (-1), 1) := by decide +kernel
theorem dX0_holdAgainstRecord_14 : decode cX0_holdAgainstRecord 14 = .ok (.if_icmp .ne 7, 3) := by decide +kernel
theorem dX0_holdAgainstRecord_17 : decode cX0_holdAgainstRecord 17 = .ok (.iconst 0, 1) := by decide +kernel
theorem dX0_holdAgainstRecord_18 : decode cX0_holdAgainstRecord 18 = .ok (.goto 16, 3) := by decide +kernel
theorem dX0_holdAgainstRecord_21 : decode cX0_holdAgainstRecord 21 = .ok (.aload_n 0, 1) := by decide +kernel
theorem dX0_holdAgainstRecord_22 : decode cX0_holdAgainstRecord 22 = .ok (.getfield 43, 3) := by decide +kernel
theorem dX0_holdAgainstRecord_25 : decode cX0_holdAgainstRecord 25 = .ok (.iload_n 1, 1) := by decide +kernel
theorem dX0_holdAgainstRecord_26 : decode cX0_holdAgainstRecord 26 = .ok (.aload_n 0, 1) := by decide +kernel
theorem dX0_holdAgainstRecord_27 : decode cX0_holdAgainstRecord 27 = .ok (.getfield 40, 3) := by decide +kernel
theorem dX0_holdAgainstRecord_30 : decode cX0_holdAgainstRecord 30 = .ok (.isub, 1) := by decide +kernel
theorem dX0_holdAgainstRecord_31 : decode cX0_holdAgainstRecord 31 = .ok (.invokestatic 62, 3) := by decide +kernel
theorem dX0_holdAgainstRecord_34 : decode cX0_holdAgainstRecord 34 = .ok (.putfield 43, 3) := by decide +kernel
theorem dX0_holdAgainstRecord_37 : decode cX0_holdAgainstRecord 37 = .ok (.aload_n 0, 1) := by decide +kernel
theorem dX0_holdAgainstRecord_38 : decode cX0_holdAgainstRecord 38 = .ok (.iload_n 1, 1) := by decide +kernel
theorem dX0_holdAgainstRecord_39 : decode cX0_holdAgainstRecord 39 = .ok (.putfield 40, 3) := by decide +kernel
theorem dX0_holdAgainstRecord_42 : decode cX0_holdAgainstRecord 42 = .ok (.aload_n 0, 1) := by decide +kernel
theorem dX0_holdAgainstRecord_43 : decode cX0_holdAgainstRecord 43 = .ok (.iload_n 2, 1) := by decide +kernel
theorem dX0_holdAgainstRecord_44 : decode cX0_holdAgainstRecord 44 = .ok (.putfield 34, 3) := by decide +kernel
theorem dX0_holdAgainstRecord_47 : decode cX0_holdAgainstRecord 47 = .ok (.aload_n 0, 1) := by decide +kernel
theorem dX0_holdAgainstRecord_48 : decode cX0_holdAgainstRecord 48 = .ok (.dup, 1) := by decide +kernel
theorem dX0_holdAgainstRecord_49 : decode cX0_holdAgainstRecord 49 = .ok (.getfield 37, 3) := by decide +kernel
theorem dX0_holdAgainstRecord_52 : decode cX0_holdAgainstRecord 52 = .ok (.iconst 1, 1) := by decide +kernel
theorem dX0_holdAgainstRecord_53 : decode cX0_holdAgainstRecord 53 = .ok (.iadd, 1) := by decide +kernel
theorem dX0_holdAgainstRecord_54 : decode cX0_holdAgainstRecord 54 = .ok (.putfield 37, 3) := by decide +kernel
theorem dX0_holdAgainstRecord_57 : decode cX0_holdAgainstRecord 57 = .ok (.return_, 1) := by decide +kernel
theorem dX0_all_0 : decode cX0_all 0 = .ok (.aload_n 0, 1) := by decide +kernel
theorem dX0_all_1 : decode cX0_all 1 = .ok (.getfield 21, 3) := by decide +kernel
theorem dX0_all_4 : decode cX0_all 4 = .ok (.aload_n 0, 1) := by decide +kernel
theorem dX0_all_5 : decode cX0_all 5 = .ok (.getfield 25, 3) := by decide +kernel
theorem dX0_all_8 : decode cX0_all 8 = .ok (.iadd, 1) := by decide +kernel
theorem dX0_all_9 : decode cX0_all 9 = .ok (.aload_n 0, 1) := by decide +kernel
theorem dX0_all_10 : decode cX0_all 10 = .ok (.getfield 28, 3) := by decide +kernel
theorem dX0_all_13 : decode cX0_all 13 = .ok (.iadd, 1) := by decide +kernel
theorem dX0_all_14 : decode cX0_all 14 = .ok (.ireturn, 1) := by decide +kernel
theorem dX0_overs_0 : decode cX0_overs 0 = .ok (.iconst 0, 1) := by decide +kernel
theorem dX0_overs_1 : decode cX0_overs 1 = .ok (.istore_n 2, 1) := by decide +kernel
theorem dX0_overs_2 : decode cX0_overs 2 = .ok (.iconst 0, 1) := by decide +kernel
theorem dX0_overs_3 : decode cX0_overs 3 = .ok (.istore_n 3, 1) := by decide +kernel
theorem dX0_overs_4 : decode cX0_overs 4 = .ok (.iload_n 3, 1) := by decide +kernel
theorem dX0_overs_5 : decode cX0_overs 5 = .ok (.aload_n 0, 1) := by decide +kernel
theorem dX0_overs_6 : decode cX0_overs 6 = .ok (.getfield 21, 3) := by decide +kernel
theorem dX0_overs_9 : decode cX0_overs 9 = .ok (.if_icmp .ge 22, 3) := by decide +kernel
theorem dX0_overs_12 : decode cX0_overs 12 = .ok (.aload_n 0, 1) := by decide +kernel
theorem dX0_overs_13 : decode cX0_overs 13 = .ok (.getfield 15, 3) := by decide +kernel
theorem dX0_overs_16 : decode cX0_overs 16 = .ok (.iload_n 3, 1) := by decide +kernel
theorem dX0_overs_17 : decode cX0_overs 17 = .ok (.iaload, 1) := by decide +kernel
theorem dX0_overs_18 : decode cX0_overs 18 = .ok (.iload_n 1, 1) := by decide +kernel
theorem dX0_overs_19 : decode cX0_overs 19 = .ok (.if_icmp .lt 6, 3) := by decide +kernel
theorem dX0_overs_22 : decode cX0_overs 22 = .ok (.iinc 2 1, 3) := by decide +kernel
theorem dX0_overs_25 : decode cX0_overs 25 = .ok (.iinc 3 1, 3) := by decide +kernel
theorem dX0_overs_28 : decode cX0_overs 28 = .ok (.goto (-24), 3) := by decide +kernel
theorem dX0_overs_31 : decode cX0_overs 31 = .ok (.iload_n 2, 1) := by decide +kernel
theorem dX0_overs_32 : decode cX0_overs 32 = .ok (.ireturn, 1) := by decide +kernel
theorem dX0_belowsUnder_0 : decode cX0_belowsUnder 0 = .ok (.iconst 0, 1) := by decide +kernel
theorem dX0_belowsUnder_1 : decode cX0_belowsUnder 1 = .ok (.istore_n 2, 1) := by decide +kernel
theorem dX0_belowsUnder_2 : decode cX0_belowsUnder 2 = .ok (.iconst 0, 1) := by decide +kernel
theorem dX0_belowsUnder_3 : decode cX0_belowsUnder 3 = .ok (.istore_n 3, 1) := by decide +kernel
theorem dX0_belowsUnder_4 : decode cX0_belowsUnder 4 = .ok (.iload_n 3, 1) := by decide +kernel
theorem dX0_belowsUnder_5 : decode cX0_belowsUnder 5 = .ok (.aload_n 0, 1) := by decide +kernel
theorem dX0_belowsUnder_6 : decode cX0_belowsUnder 6 = .ok (.getfield 25, 3) := by decide +kernel
theorem dX0_belowsUnder_9 : decode cX0_belowsUnder 9 = .ok (.if_icmp .ge 22, 3) := by decide +kernel
theorem dX0_belowsUnder_12 : decode cX0_belowsUnder 12 = .ok (.aload_n 0, 1) := by decide +kernel
theorem dX0_belowsUnder_13 : decode cX0_belowsUnder 13 = .ok (.getfield 18, 3) := by decide +kernel
theorem dX0_belowsUnder_16 : decode cX0_belowsUnder 16 = .ok (.iload_n 3, 1) := by decide +kernel
theorem dX0_belowsUnder_17 : decode cX0_belowsUnder 17 = .ok (.iaload, 1) := by decide +kernel
theorem dX0_belowsUnder_18 : decode cX0_belowsUnder 18 = .ok (.iload_n 1, 1) := by decide +kernel
theorem dX0_belowsUnder_19 : decode cX0_belowsUnder 19 = .ok (.if_icmp .gt 6, 3) := by decide +kernel
theorem dX0_belowsUnder_22 : decode cX0_belowsUnder 22 = .ok (.iinc 2 1, 3) := by decide +kernel
theorem dX0_belowsUnder_25 : decode cX0_belowsUnder 25 = .ok (.iinc 3 1, 3) := by decide +kernel
theorem dX0_belowsUnder_28 : decode cX0_belowsUnder 28 = .ok (.goto (-24), 3) := by decide +kernel
theorem dX0_belowsUnder_31 : decode cX0_belowsUnder 31 = .ok (.iload_n 2, 1) := by decide +kernel
theorem dX0_belowsUnder_32 : decode cX0_belowsUnder 32 = .ok (.ireturn, 1) := by decide +kernel
set_option maxRecDepth 20000 in
theorem ggX0_unders_X0_overs : GoodIn wsX0_unders wsX0_overs := goodIn_r _ [6, 1, 7, 14, 15, 16, 17, 18, 19, 20, 21, 22, 23, 24] (by decide +kernel) (by decide +kernel)
set_option maxRecDepth 20000 in
theorem gX0_unders_X0_overs : GoodIn wsX0_unders (wsV RX0 68 RX0 yX0_overs wsX0_overs) := goodIn_app (goodIn_of _ (by decide +kernel)) ggX0_unders_X0_overs
set_option maxRecDepth 20000 in
theorem ggX0_unders_X0_belowsUnder : GoodIn wsX0_unders wsX0_belowsUnder := goodIn_r _ [11, 12, 13, 14, 15, 16, 17, 18, 19, 20, 21, 22, 23, 24] (by decide +kernel) (by decide +kernel)
set_option maxRecDepth 20000 in
theorem gX0_unders_X0_belowsUnder : GoodIn wsX0_unders (wsV RX0 72 RX0 yX0_belowsUnder wsX0_belowsUnder) := goodIn_app (goodIn_of _ (by decide +kernel)) ggX0_unders_X0_belowsUnder
theorem dX0_unders_0 : decode cX0_unders 0 = .ok (.aload_n 0, 1) := by decide +kernel
theorem dX0_unders_1 : decode cX0_unders 1 = .ok (.getfield 21, 3) := by decide +kernel
theorem dX0_unders_4 : decode cX0_unders 4 = .ok (.aload_n 0, 1) := by decide +kernel
theorem dX0_unders_5 : decode cX0_unders 5 = .ok (.iload_n 1, 1) := by decide +kernel
theorem dX0_unders_6 : decode cX0_unders 6 = .ok (.invokevirtual 68, 3) := by decide +kernel
theorem dX0_unders_9 : decode cX0_unders 9 = .ok (.isub, 1) := by decide +kernel
theorem dX0_unders_10 : decode cX0_unders 10 = .ok (.aload_n 0, 1) := by decide +kernel
theorem dX0_unders_11 : decode cX0_unders 11 = .ok (.iload_n 1, 1) := by decide +kernel
theorem dX0_unders_12 : decode cX0_unders 12 = .ok (.invokevirtual 72, 3) := by decide +kernel
theorem dX0_unders_15 : decode cX0_unders 15 = .ok (.iadd, 1) := by decide +kernel
theorem dX0_unders_16 : decode cX0_unders 16 = .ok (.ireturn, 1) := by decide +kernel
set_option maxRecDepth 20000 in
theorem ggX0_darks_X0_belowsUnder : GoodIn wsX0_darks wsX0_belowsUnder := goodIn_r _ [7, 2, 8, 9, 10, 11, 12, 13, 14, 15, 16, 17, 18, 19] (by decide +kernel) (by decide +kernel)
set_option maxRecDepth 20000 in
theorem gX0_darks_X0_belowsUnder : GoodIn wsX0_darks (wsV RX0 72 RX0 yX0_belowsUnder wsX0_belowsUnder) := goodIn_app (goodIn_of _ (by decide +kernel)) ggX0_darks_X0_belowsUnder
theorem dX0_darks_0 : decode cX0_darks 0 = .ok (.aload_n 0, 1) := by decide +kernel
theorem dX0_darks_1 : decode cX0_darks 1 = .ok (.getfield 28, 3) := by decide +kernel
theorem dX0_darks_4 : decode cX0_darks 4 = .ok (.aload_n 0, 1) := by decide +kernel
theorem dX0_darks_5 : decode cX0_darks 5 = .ok (.getfield 25, 3) := by decide +kernel
theorem dX0_darks_8 : decode cX0_darks 8 = .ok (.iadd, 1) := by decide +kernel
theorem dX0_darks_9 : decode cX0_darks 9 = .ok (.aload_n 0, 1) := by decide +kernel
theorem dX0_darks_10 : decode cX0_darks 10 = .ok (.iload_n 1, 1) := by decide +kernel
theorem dX0_darks_11 : decode cX0_darks 11 = .ok (.invokevirtual 72, 3) := by decide +kernel
theorem dX0_darks_14 : decode cX0_darks 14 = .ok (.isub, 1) := by decide +kernel
theorem dX0_darks_15 : decode cX0_darks 15 = .ok (.ireturn, 1) := by decide +kernel
set_option maxRecDepth 20000 in
theorem ggX0_rareBelow_X0_belowsUnder : GoodIn wsX0_rareBelow wsX0_belowsUnder := goodIn_r _ [6, 7, 8, 9, 10, 11, 12, 13, 14, 15, 16, 17, 18, 19] (by decide +kernel) (by decide +kernel)
set_option maxRecDepth 20000 in
theorem gX0_rareBelow_X0_belowsUnder : GoodIn wsX0_rareBelow (wsV RX0 72 RX0 yX0_belowsUnder wsX0_belowsUnder) := goodIn_app (goodIn_of _ (by decide +kernel)) ggX0_rareBelow_X0_belowsUnder
theorem dX0_rareBelow_0 : decode cX0_rareBelow 0 = .ok (.aload_n 0, 1) := by decide +kernel
theorem dX0_rareBelow_1 : decode cX0_rareBelow 1 = .ok (.getfield 21, 3) := by decide +kernel
theorem dX0_rareBelow_4 : decode cX0_rareBelow 4 = .ok (.aload_n 0, 1) := by decide +kernel
theorem dX0_rareBelow_5 : decode cX0_rareBelow 5 = .ok (.iload_n 1, 1) := by decide +kernel
theorem dX0_rareBelow_6 : decode cX0_rareBelow 6 = .ok (.invokevirtual 72, 3) := by decide +kernel
theorem dX0_rareBelow_9 : decode cX0_rareBelow 9 = .ok (.iadd, 1) := by decide +kernel
theorem dX0_rareBelow_10 : decode cX0_rareBelow 10 = .ok (.iconst 1, 1) := by decide +kernel
theorem dX0_rareBelow_11 : decode cX0_rareBelow 11 = .ok (.iadd, 1) := by decide +kernel
theorem dX0_rareBelow_12 : decode cX0_rareBelow 12 = .ok (.ireturn, 1) := by decide +kernel
theorem dX0_steps_0 : decode cX0_steps 0 = .ok (.aload_n 0, 1) := by decide +kernel
theorem dX0_steps_1 : decode cX0_steps 1 = .ok (.getfield 21, 3) := by decide +kernel
theorem dX0_steps_4 : decode cX0_steps 4 = .ok (.aload_n 0, 1) := by decide +kernel
theorem dX0_steps_5 : decode cX0_steps 5 = .ok (.getfield 25, 3) := by decide +kernel
theorem dX0_steps_8 : decode cX0_steps 8 = .ok (.iadd, 1) := by decide +kernel
theorem dX0_steps_9 : decode cX0_steps 9 = .ok (.ireturn, 1) := by decide +kernel
set_option maxRecDepth 20000 in
theorem ggX0_stepAt_X0_steps : GoodIn wsX0_stepAt wsX0_steps := goodIn_r _ [8, 1, 9, 10, 11, 12, 13, 14, 15, 16, 17, 18, 19, 20] (by decide +kernel) (by decide +kernel)
set_option maxRecDepth 20000 in
theorem gX0_stepAt_X0_steps : GoodIn wsX0_stepAt (wsV RX0 75 RX0 yX0_steps wsX0_steps) := goodIn_app (goodIn_of _ (by decide +kernel)) ggX0_stepAt_X0_steps
theorem dX0_stepAt_0 : decode cX0_stepAt 0 = .ok (.iload_n 1, 1) := by decide +kernel
theorem dX0_stepAt_1 : decode cX0_stepAt 1 = .ok (.ifCond .lt 11, 3) := by decide +kernel
theorem dX0_stepAt_4 : decode cX0_stepAt 4 = .ok (.iload_n 1, 1) := by decide +kernel
theorem dX0_stepAt_5 : decode cX0_stepAt 5 = .ok (.aload_n 0, 1) := by decide +kernel
theorem dX0_stepAt_6 : decode cX0_stepAt 6 = .ok (.invokevirtual 75, 3) := by decide +kernel
theorem dX0_stepAt_9 : decode cX0_stepAt 9 = .ok (.if_icmp .lt 5, 3) := by decide +kernel
theorem dX0_stepAt_12 : decode cX0_stepAt 12 = .ok (.iconst 0, 1) := by decide +kernel
theorem dX0_stepAt_13 : decode cX0_stepAt 13 = .ok (.ireturn, 1) := by decide +kernel
theorem dX0_stepAt_14 : decode cX0_stepAt 14 = .ok (.iload_n 1, 1) := by decide +kernel
theorem dX0_stepAt_15 : decode cX0_stepAt 15 = .ok (.aload_n 0, 1) := by decide +kernel
theorem dX0_stepAt_16 : decode cX0_stepAt 16 = .ok (.getfield 21, 3) := by decide +kernel
theorem dX0_stepAt_19 : decode cX0_stepAt 19 = .ok (.if_icmp .ge 14, 3) := by decide +kernel
theorem dX0_stepAt_22 : decode cX0_stepAt 22 = .ok (.aload_n 0, 1) := by decide +kernel
theorem dX0_stepAt_23 : decode cX0_stepAt 23 = .ok (.getfield 15, 3) := by decide +kernel
theorem dX0_stepAt_26 : decode cX0_stepAt 26 = .ok (.iload_n 1, 1) := by decide +kernel
theorem dX0_stepAt_27 : decode cX0_stepAt 27 = .ok (.iaload, 1) := by decide +kernel
theorem dX0_stepAt_28 : decode cX0_stepAt 28 = .ok (.iconst 1, 1) := by decide +kernel
theorem dX0_stepAt_29 : decode cX0_stepAt 29 = .ok (.iadd, 1) := by decide +kernel
theorem dX0_stepAt_30 : decode cX0_stepAt 30 = .ok (.goto 14, 3) := by decide +kernel
theorem dX0_stepAt_33 : decode cX0_stepAt 33 = .ok (.aload_n 0, 1) := by decide +kernel
theorem dX0_stepAt_34 : decode cX0_stepAt 34 = .ok (.getfield 18, 3) := by decide +kernel
theorem dX0_stepAt_37 : decode cX0_stepAt 37 = .ok (.iload_n 1, 1) := by decide +kernel
theorem dX0_stepAt_38 : decode cX0_stepAt 38 = .ok (.aload_n 0, 1) := by decide +kernel
theorem dX0_stepAt_39 : decode cX0_stepAt 39 = .ok (.getfield 21, 3) := by decide +kernel
theorem dX0_stepAt_42 : decode cX0_stepAt 42 = .ok (.isub, 1) := by decide +kernel
theorem dX0_stepAt_43 : decode cX0_stepAt 43 = .ok (.iaload, 1) := by decide +kernel
theorem dX0_stepAt_44 : decode cX0_stepAt 44 = .ok (.ireturn, 1) := by decide +kernel
theorem dX0_exactsAhead_0 : decode cX0_exactsAhead 0 = .ok (.iconst 0, 1) := by decide +kernel
theorem dX0_exactsAhead_1 : decode cX0_exactsAhead 1 = .ok (.istore_n 2, 1) := by decide +kernel
theorem dX0_exactsAhead_2 : decode cX0_exactsAhead 2 = .ok (.iconst 0, 1) := by decide +kernel
theorem dX0_exactsAhead_3 : decode cX0_exactsAhead 3 = .ok (.istore_n 3, 1) := by decide +kernel
theorem dX0_exactsAhead_4 : decode cX0_exactsAhead 4 = .ok (.iload_n 3, 1) := by decide +kernel
theorem dX0_exactsAhead_5 : decode cX0_exactsAhead 5 = .ok (.aload_n 0, 1) := by decide +kernel
theorem dX0_exactsAhead_6 : decode cX0_exactsAhead 6 = .ok (.getfield 21, 3) := by decide +kernel
theorem dX0_exactsAhead_9 : decode cX0_exactsAhead 9 = .ok (.if_icmp .ge 22, 3) := by decide +kernel
theorem dX0_exactsAhead_12 : decode cX0_exactsAhead 12 = .ok (.aload_n 0, 1) := by decide +kernel
theorem dX0_exactsAhead_13 : decode cX0_exactsAhead 13 = .ok (.getfield 9, 3) := by decide +kernel
theorem dX0_exactsAhead_16 : decode cX0_exactsAhead 16 = .ok (.iload_n 3, 1) := by decide +kernel
theorem dX0_exactsAhead_17 : decode cX0_exactsAhead 17 = .ok (.iaload, 1) := by decide +kernel
theorem dX0_exactsAhead_18 : decode cX0_exactsAhead 18 = .ok (.iload_n 1, 1) := by decide +kernel
theorem dX0_exactsAhead_19 : decode cX0_exactsAhead 19 = .ok (.if_icmp .ge 6, 3) := by decide +kernel
theorem dX0_exactsAhead_22 : decode cX0_exactsAhead 22 = .ok (.iinc 2 1, 3) := by decide +kernel
theorem dX0_exactsAhead_25 : decode cX0_exactsAhead 25 = .ok (.iinc 3 1, 3) := by decide +kernel
theorem dX0_exactsAhead_28 : decode cX0_exactsAhead 28 = .ok (.goto (-24), 3) := by decide +kernel
theorem dX0_exactsAhead_31 : decode cX0_exactsAhead 31 = .ok (.iload_n 2, 1) := by decide +kernel
theorem dX0_exactsAhead_32 : decode cX0_exactsAhead 32 = .ok (.ireturn, 1) := by decide +kernel
theorem dX0_sumAhead_0 : decode cX0_sumAhead 0 = .ok (.iconst 0, 1) := by decide +kernel
theorem dX0_sumAhead_1 : decode cX0_sumAhead 1 = .ok (.istore_n 2, 1) := by decide +kernel
theorem dX0_sumAhead_2 : decode cX0_sumAhead 2 = .ok (.iconst 0, 1) := by decide +kernel
theorem dX0_sumAhead_3 : decode cX0_sumAhead 3 = .ok (.istore_n 3, 1) := by decide +kernel
theorem dX0_sumAhead_4 : decode cX0_sumAhead 4 = .ok (.iload_n 3, 1) := by decide +kernel
theorem dX0_sumAhead_5 : decode cX0_sumAhead 5 = .ok (.aload_n 0, 1) := by decide +kernel
theorem dX0_sumAhead_6 : decode cX0_sumAhead 6 = .ok (.getfield 21, 3) := by decide +kernel
theorem dX0_sumAhead_9 : decode cX0_sumAhead 9 = .ok (.if_icmp .ge 28, 3) := by decide +kernel
theorem dX0_sumAhead_12 : decode cX0_sumAhead 12 = .ok (.aload_n 0, 1) := by decide +kernel
theorem dX0_sumAhead_13 : decode cX0_sumAhead 13 = .ok (.getfield 9, 3) := by decide +kernel
theorem dX0_sumAhead_16 : decode cX0_sumAhead 16 = .ok (.iload_n 3, 1) := by decide +kernel
theorem dX0_sumAhead_17 : decode cX0_sumAhead 17 = .ok (.iaload, 1) := by decide +kernel
theorem dX0_sumAhead_18 : decode cX0_sumAhead 18 = .ok (.iload_n 1, 1) := by decide +kernel
theorem dX0_sumAhead_19 : decode cX0_sumAhead 19 = .ok (.if_icmp .ge 12, 3) := by decide +kernel
theorem dX0_sumAhead_22 : decode cX0_sumAhead 22 = .ok (.iload_n 2, 1) := by decide +kernel
theorem dX0_sumAhead_23 : decode cX0_sumAhead 23 = .ok (.aload_n 0, 1) := by decide +kernel
theorem dX0_sumAhead_24 : decode cX0_sumAhead 24 = .ok (.getfield 15, 3) := by decide +kernel
theorem dX0_sumAhead_27 : decode cX0_sumAhead 27 = .ok (.iload_n 3, 1) := by decide +kernel
theorem dX0_sumAhead_28 : decode cX0_sumAhead 28 = .ok (.iaload, 1) := by decide +kernel
theorem dX0_sumAhead_29 : decode cX0_sumAhead 29 = .ok (.iadd, 1) := by decide +kernel
theorem dX0_sumAhead_30 : decode cX0_sumAhead 30 = .ok (.istore_n 2, 1) := by decide +kernel
theorem dX0_sumAhead_31 : decode cX0_sumAhead 31 = .ok (.iinc 3 1, 3) := by decide +kernel
theorem dX0_sumAhead_34 : decode cX0_sumAhead 34 = .ok (.goto (-30), 3) := by decide +kernel
theorem dX0_sumAhead_37 : decode cX0_sumAhead 37 = .ok (.iload_n 2, 1) := by decide +kernel
theorem dX0_sumAhead_38 : decode cX0_sumAhead 38 = .ok (.ireturn, 1) := by decide +kernel
set_option maxRecDepth 20000 in
theorem ggX0_meansBelow_X0_exactsAhead : GoodIn wsX0_meansBelow wsX0_exactsAhead := goodIn_r _ [6, 1, 7, 8, 9, 10, 11, 12, 13, 14, 15, 16, 17, 18] (by decide +kernel) (by decide +kernel)
set_option maxRecDepth 20000 in
theorem gX0_meansBelow_X0_exactsAhead : GoodIn wsX0_meansBelow (wsV RX0 79 RX0 yX0_exactsAhead wsX0_exactsAhead) := goodIn_app (goodIn_of _ (by decide +kernel)) ggX0_meansBelow_X0_exactsAhead
theorem dX0_meansBelow_0 : decode cX0_meansBelow 0 = .ok (.aload_n 0, 1) := by decide +kernel
theorem dX0_meansBelow_1 : decode cX0_meansBelow 1 = .ok (.iload_n 1, 1) := by decide +kernel
theorem dX0_meansBelow_2 : decode cX0_meansBelow 2 = .ok (.invokevirtual 79, 3) := by decide +kernel
theorem dX0_meansBelow_5 : decode cX0_meansBelow 5 = .ok (.istore_n 2, 1) := by decide +kernel
theorem dX0_meansBelow_6 : decode cX0_meansBelow 6 = .ok (.iload_n 2, 1) := by decide +kernel
theorem dX0_meansBelow_7 : decode cX0_meansBelow 7 = .ok (.i2l, 1) := by decide +kernel
theorem dX0_meansBelow_8 : decode cX0_meansBelow 8 = .ok (.aload_n 0, 1) := by decide +kernel
theorem dX0_meansBelow_9 : decode cX0_meansBelow 9 = .ok (.getfield 21, 3) := by decide +kernel
theorem dX0_meansBelow_12 : decode cX0_meansBelow 12 = .ok (.iload_n 2, 1) := by decide +kernel
theorem dX0_meansBelow_13 : decode cX0_meansBelow 13 = .ok (.isub, 1) := by decide +kernel
theorem dX0_meansBelow_14 : decode cX0_meansBelow 14 = .ok (.i2l, 1) := by decide +kernel
theorem dX0_meansBelow_15 : decode cX0_meansBelow 15 = .ok (.lmul, 1) := by decide +kernel
theorem dX0_meansBelow_16 : decode cX0_meansBelow 16 = .ok (.lreturn, 1) := by decide +kernel
set_option maxRecDepth 20000 in
theorem ggX0_meansAbove_X0_exactsAhead : GoodIn wsX0_meansAbove wsX0_exactsAhead := goodIn_r _ [5, 6, 7, 18, 19, 20, 21, 22, 23, 24, 25, 26, 27, 28] (by decide +kernel) (by decide +kernel)
set_option maxRecDepth 20000 in
theorem gX0_meansAbove_X0_exactsAhead : GoodIn wsX0_meansAbove (wsV RX0 79 RX0 yX0_exactsAhead wsX0_exactsAhead) := goodIn_app (goodIn_of _ (by decide +kernel)) ggX0_meansAbove_X0_exactsAhead
set_option maxRecDepth 20000 in
theorem ggX0_meansAbove_X0_sumAhead : GoodIn wsX0_meansAbove wsX0_sumAhead := goodIn_r _ [11, 6, 7, 12, 18, 19, 20, 21, 22, 23, 24, 25, 26, 27, 28] (by decide +kernel) (by decide +kernel)
set_option maxRecDepth 20000 in
theorem gX0_meansAbove_X0_sumAhead : GoodIn wsX0_meansAbove (wsV RX0 82 RX0 yX0_sumAhead wsX0_sumAhead) := goodIn_app (goodIn_of _ (by decide +kernel)) ggX0_meansAbove_X0_sumAhead
set_option maxRecDepth 20000 in
theorem ggX0_meansAbove_X0_meansApart : GoodIn wsX0_meansAbove wsX0_meansApart := goodIn_r _ [16, 17, 6, 18, 19, 20, 21, 22, 23, 24, 25, 26, 27, 28] (by decide +kernel) (by decide +kernel)
set_option maxRecDepth 20000 in
theorem gX0_meansAbove_X0_meansApart : GoodIn wsX0_meansAbove (wsV RX0 85 RX0 yX0_meansApart wsX0_meansApart) := goodIn_app (goodIn_of _ (by decide +kernel)) ggX0_meansAbove_X0_meansApart
theorem dX0_meansAbove_0 : decode cX0_meansAbove 0 = .ok (.aload_n 0, 1) := by decide +kernel
theorem dX0_meansAbove_1 : decode cX0_meansAbove 1 = .ok (.aload_n 0, 1) := by decide +kernel
theorem dX0_meansAbove_2 : decode cX0_meansAbove 2 = .ok (.iload_n 1, 1) := by decide +kernel
theorem dX0_meansAbove_3 : decode cX0_meansAbove 3 = .ok (.invokevirtual 79, 3) := by decide +kernel
theorem dX0_meansAbove_6 : decode cX0_meansAbove 6 = .ok (.aload_n 0, 1) := by decide +kernel
theorem dX0_meansAbove_7 : decode cX0_meansAbove 7 = .ok (.iload_n 1, 1) := by decide +kernel
theorem dX0_meansAbove_8 : decode cX0_meansAbove 8 = .ok (.invokevirtual 82, 3) := by decide +kernel
theorem dX0_meansAbove_11 : decode cX0_meansAbove 11 = .ok (.invokevirtual 85, 3) := by decide +kernel
theorem dX0_meansAbove_14 : decode cX0_meansAbove 14 = .ok (.lreturn, 1) := by decide +kernel
theorem dX0_meansApart_0 : decode cX0_meansApart 0 = .ok (.iload_n 1, 1) := by decide +kernel
theorem dX0_meansApart_1 : decode cX0_meansApart 1 = .ok (.i2l, 1) := by decide +kernel
theorem dX0_meansApart_2 : decode cX0_meansApart 2 = .ok (.aload_n 0, 1) := by decide +kernel
theorem dX0_meansApart_3 : decode cX0_meansApart 3 = .ok (.getfield 31, 3) := by decide +kernel
theorem dX0_meansApart_6 : decode cX0_meansApart 6 = .ok (.iload_n 2, 1) := by decide +kernel
theorem dX0_meansApart_7 : decode cX0_meansApart 7 = .ok (.isub, 1) := by decide +kernel
theorem dX0_meansApart_8 : decode cX0_meansApart 8 = .ok (.i2l, 1) := by decide +kernel
theorem dX0_meansApart_9 : decode cX0_meansApart 9 = .ok (.lmul, 1) := by decide +kernel
theorem dX0_meansApart_10 : decode cX0_meansApart 10 = .ok (.aload_n 0, 1) := by decide +kernel
theorem dX0_meansApart_11 : decode cX0_meansApart 11 = .ok (.getfield 21, 3) := by decide +kernel
theorem dX0_meansApart_14 : decode cX0_meansApart 14 = .ok (.iload_n 1, 1) := by decide +kernel
theorem dX0_meansApart_15 : decode cX0_meansApart 15 = .ok (.isub, 1) := by decide +kernel
theorem dX0_meansApart_16 : decode cX0_meansApart 16 = .ok (.i2l, 1) := by decide +kernel
theorem dX0_meansApart_17 : decode cX0_meansApart 17 = .ok (.iload_n 2, 1) := by decide +kernel
theorem dX0_meansApart_18 : decode cX0_meansApart 18 = .ok (.i2l, 1) := by decide +kernel
theorem dX0_meansApart_19 : decode cX0_meansApart 19 = .ok (.lmul, 1) := by decide +kernel
theorem dX0_meansApart_20 : decode cX0_meansApart 20 = .ok (.lsub, 1) := by decide +kernel
theorem dX0_meansApart_21 : decode cX0_meansApart 21 = .ok (.lreturn, 1) := by decide +kernel
theorem dX1_init_0 : decode cX1_init 0 = .ok (.aload_n 0, 1) := by decide +kernel
theorem dX1_init_1 : decode cX1_init 1 = .ok (.invokespecial 3, 3) := by decide +kernel
theorem dX1_init_4 : decode cX1_init 4 = .ok (.aload_n 0, 1) := by decide +kernel
theorem dX1_init_5 : decode cX1_init 5 = .ok (.bipush 60, 2) := by decide +kernel
theorem dX1_init_7 : decode cX1_init 7 = .ok (.newarray .int, 2) := by decide +kernel
theorem dX1_init_9 : decode cX1_init 9 = .ok (.putfield 9, 3) := by decide +kernel
theorem dX1_init_12 : decode cX1_init 12 = .ok (.aload_n 0, 1) := by decide +kernel
theorem dX1_init_13 : decode cX1_init 13 = .ok (.bipush 6, 2) := by decide +kernel
theorem dX1_init_15 : decode cX1_init 15 = .ok (.newarray .int, 2) := by decide +kernel
theorem dX1_init_17 : decode cX1_init 17 = .ok (.putfield 15, 3) := by decide +kernel
theorem dX1_init_20 : decode cX1_init 20 = .ok (.aload_n 0, 1) := by decide +kernel
theorem dX1_init_21 : decode cX1_init 21 = .ok (.bipush 6, 2) := by decide +kernel
theorem dX1_init_23 : decode cX1_init 23 = .ok (.newarray .int, 2) := by decide +kernel
theorem dX1_init_25 : decode cX1_init 25 = .ok (.putfield 18, 3) := by decide +kernel
theorem dX1_init_28 : decode cX1_init 28 = .ok (.aload_n 0, 1) := by decide +kernel
theorem dX1_init_29 : decode cX1_init 29 = .ok (.iconst 0, 1) := by decide +kernel
theorem dX1_init_30 : decode cX1_init 30 = .ok (.putfield 21, 3) := by decide +kernel
theorem dX1_init_33 : decode cX1_init 33 = .ok (.aload_n 0, 1) := by decide +kernel
theorem dX1_init_34 : decode cX1_init 34 = .ok (.iconst 0, 1) := by decide +kernel
theorem dX1_init_35 : decode cX1_init 35 = .ok (.putfield 25, 3) := by decide +kernel
theorem dX1_init_38 : decode cX1_init 38 = .ok (.aload_n 0, 1) := by decide +kernel
theorem dX1_init_39 : decode cX1_init 39 = .ok (.iconst 0, 1) := by decide +kernel
theorem dX1_init_40 : decode cX1_init 40 = .ok (.putfield 28, 3) := by decide +kernel
theorem dX1_init_43 : decode cX1_init 43 = .ok (.return_, 1) := by decide +kernel
theorem dX1_hasRoom_0 : decode cX1_hasRoom 0 = .ok (.aload_n 0, 1) := by decide +kernel
theorem dX1_hasRoom_1 : decode cX1_hasRoom 1 = .ok (.getfield 21, 3) := by decide +kernel
theorem dX1_hasRoom_4 : decode cX1_hasRoom 4 = .ok (.bipush 60, 2) := by decide +kernel
theorem dX1_hasRoom_6 : decode cX1_hasRoom 6 = .ok (.if_icmp .ge 7, 3) := by decide +kernel
theorem dX1_hasRoom_9 : decode cX1_hasRoom 9 = .ok (.iconst 1, 1) := by decide +kernel
theorem dX1_hasRoom_10 : decode cX1_hasRoom 10 = .ok (.goto 4, 3) := by decide +kernel
theorem dX1_hasRoom_13 : decode cX1_hasRoom 13 = .ok (.iconst 0, 1) := by decide +kernel
theorem dX1_hasRoom_14 : decode cX1_hasRoom 14 = .ok (.ireturn, 1) := by decide +kernel
set_option maxRecDepth 20000 in
theorem ggX1_add_X1_hasRoom : GoodIn wsX1_add wsX1_hasRoom := goodIn_r _ [7, 2, 8, 9, 10, 11, 12, 13] (by decide +kernel) (by decide +kernel)
set_option maxRecDepth 20000 in
theorem gX1_add_X1_hasRoom : GoodIn wsX1_add (wsV RX1 31 RX1 yX1_hasRoom wsX1_hasRoom) := goodIn_app (goodIn_of _ (by decide +kernel)) ggX1_add_X1_hasRoom
theorem dX1_add_0 : decode cX1_add 0 = .ok (.aload_n 0, 1) := by decide +kernel
theorem dX1_add_1 : decode cX1_add 1 = .ok (.invokevirtual 31, 3) := by decide +kernel
theorem dX1_add_4 : decode cX1_add 4 = .ok (.ifCond .eq 23, 3) := by decide +kernel
theorem dX1_add_7 : decode cX1_add 7 = .ok (.aload_n 0, 1) := by decide +kernel
theorem dX1_add_8 : decode cX1_add 8 = .ok (.getfield 9, 3) := by decide +kernel
theorem dX1_add_11 : decode cX1_add 11 = .ok (.aload_n 0, 1) := by decide +kernel
theorem dX1_add_12 : decode cX1_add 12 = .ok (.getfield 21, 3) := by decide +kernel
theorem dX1_add_15 : decode cX1_add 15 = .ok (.iload_n 1, 1) := by decide +kernel
theorem dX1_add_16 : decode cX1_add 16 = .ok (.iastore, 1) := by decide +kernel
theorem dX1_add_17 : decode cX1_add 17 = .ok (.aload_n 0, 1) := by decide +kernel
theorem dX1_add_18 : decode cX1_add 18 = .ok (.dup, 1) := by decide +kernel
theorem dX1_add_19 : decode cX1_add 19 = .ok (.getfield 21, 3) := by decide +kernel
theorem dX1_add_22 : decode cX1_add 22 = .ok (.iconst 1, 1) := by decide +kernel
theorem dX1_add_23 : decode cX1_add 23 = .ok (.iadd, 1) := by decide +kernel
theorem dX1_add_24 : decode cX1_add 24 = .ok (.putfield 21, 3) := by decide +kernel
theorem dX1_add_27 : decode cX1_add 27 = .ok (.return_, 1) := by decide +kernel
set_option maxRecDepth 20000 in
theorem ggX1_parse_X1_passes : GoodIn wsX1_parse wsX1_passes := goodIn_r _ [8, 1, 3, 9, 28, 29, 30, 31, 32, 33] (by decide +kernel) (by decide +kernel)
set_option maxRecDepth 20000 in
theorem gX1_parse_X1_passes : GoodIn wsX1_parse (wsV RX1 35 RX1 yX1_passes wsX1_passes) := goodIn_app (goodIn_of _ (by decide +kernel)) ggX1_parse_X1_passes
set_option maxRecDepth 20000 in
theorem ggX1_parse_X1_parsePair : GoodIn wsX1_parse wsX1_parsePair := goodIn_r _ [13, 1, 2, 14, 15, 16, 17, 18, 7, 19, 20, 21, 22, 23, 9, 24, 25, 26, 27, 3, 4, 5, 6, 8, 28, 29, 30, 31, 32, 33] (by decide +kernel) (by decide +kernel)
set_option maxRecDepth 20000 in
theorem gX1_parse_X1_parsePair : GoodIn wsX1_parse (wsV RX1 39 RX1 yX1_parsePair wsX1_parsePair) := goodIn_app (goodIn_of _ (by decide +kernel)) ggX1_parse_X1_parsePair
theorem dX1_parse_0 : decode cX1_parse 0 = .ok (.aload_n 0, 1) := by decide +kernel
theorem dX1_parse_1 : decode cX1_parse 1 = .ok (.iconst 0, 1) := by decide +kernel
theorem dX1_parse_2 : decode cX1_parse 2 = .ok (.putfield 28, 3) := by decide +kernel
theorem dX1_parse_5 : decode cX1_parse 5 = .ok (.aload_n 0, 1) := by decide +kernel
theorem dX1_parse_6 : decode cX1_parse 6 = .ok (.iconst 0, 1) := by decide +kernel
theorem dX1_parse_7 : decode cX1_parse 7 = .ok (.putfield 25, 3) := by decide +kernel
theorem dX1_parse_10 : decode cX1_parse 10 = .ok (.aload_n 0, 1) := by decide +kernel
theorem dX1_parse_11 : decode cX1_parse 11 = .ok (.getfield 25, 3) := by decide +kernel
theorem dX1_parse_14 : decode cX1_parse 14 = .ok (.bipush 6, 2) := by decide +kernel
theorem dX1_parse_16 : decode cX1_parse 16 = .ok (.if_icmp .ge 70, 3) := by decide +kernel
theorem dX1_parse_19 : decode cX1_parse 19 = .ok (.aload_n 0, 1) := by decide +kernel
theorem dX1_parse_20 : decode cX1_parse 20 = .ok (.getfield 25, 3) := by decide +kernel
theorem dX1_parse_23 : decode cX1_parse 23 = .ok (.iconst 2, 1) := by decide +kernel
theorem dX1_parse_24 : decode cX1_parse 24 = .ok (.if_icmp .lt 16, 3) := by decide +kernel
theorem dX1_parse_27 : decode cX1_parse 27 = .ok (.aload_n 0, 1) := by decide +kernel
theorem dX1_parse_28 : decode cX1_parse 28 = .ok (.getfield 28, 3) := by decide +kernel
theorem dX1_parse_31 : decode cX1_parse 31 = .ok (.aload_n 0, 1) := by decide +kernel
theorem dX1_parse_32 : decode cX1_parse 32 = .ok (.getfield 21, 3) := by decide +kernel
theorem dX1_parse_35 : decode cX1_parse 35 = .ok (.if_icmp .ne 5, 3) := by decide +kernel
theorem dX1_parse_38 : decode cX1_parse 38 = .ok (.iconst (-1), 1) := by decide +kernel
theorem dX1_parse_39 : decode cX1_parse 39 = .ok (.ireturn, 1) := by decide +kernel
theorem dX1_parse_40 : decode cX1_parse 40 = .ok (.aload_n 0, 1) := by decide +kernel
theorem dX1_parse_41 : decode cX1_parse 41 = .ok (.getfield 25, 3) := by decide +kernel
theorem dX1_parse_44 : decode cX1_parse 44 = .ok (.ifCond .le 17, 3) := by decide +kernel
theorem dX1_parse_47 : decode cX1_parse 47 = .ok (.aload_n 0, 1) := by decide +kernel
theorem dX1_parse_48 : decode cX1_parse 48 = .ok (.bipush 59, 2) := by decide +kernel
theorem dX1_parse_50 : decode cX1_parse 50 = .ok (.invokevirtual 35, 3) := by decide +kernel
theorem dX1_parse_53 : decode cX1_parse 53 = .ok (.ifCond .ne 8, 3) := by decide +kernel
theorem dX1_parse_56 : decode cX1_parse 56 = .ok (.aload_n 0, 1) := by decide +kernel
theorem dX1_parse_57 : decode cX1_parse 57 = .ok (.getfield 28, 3) := by decide +kernel
theorem dX1_parse_60 : decode cX1_parse 60 = .ok (.ireturn, 1) := by decide +kernel
theorem dX1_parse_61 : decode cX1_parse 61 = .ok (.aload_n 0, 1) := by decide +kernel
theorem dX1_parse_62 : decode cX1_parse 62 = .ok (.invokevirtual 39, 3) := by decide +kernel
theorem dX1_parse_65 : decode cX1_parse 65 = .ok (.istore_n 1, 1) := by decide +kernel
theorem dX1_parse_66 : decode cX1_parse 66 = .ok (.iload_n 1, 1) := by decide +kernel
theorem dX1_parse_67 : decode cX1_parse 67 = .ok (.iconst (-1), 1) := by decide +kernel
theorem dX1_parse_68 : decode cX1_parse 68 = .ok (.if_icmp .eq 5, 3) := by decide +kernel
theorem dX1_parse_71 : decode cX1_parse 71 = .ok (.iload_n 1, 1) := by decide +kernel
theorem dX1_parse_72 : decode cX1_parse 72 = .ok (.ireturn, 1) := by decide +kernel
theorem dX1_parse_73 : decode cX1_parse 73 = .ok (.aload_n 0, 1) := by decide +kernel
theorem dX1_parse_74 : decode cX1_parse 74 = .ok (.dup, 1) := by decide +kernel
theorem dX1_parse_75 : decode cX1_parse 75 = .ok (.getfield 25, 3) := by decide +kernel
theorem dX1_parse_78 : decode cX1_parse 78 = .ok (.iconst 1, 1) := by decide +kernel
theorem dX1_parse_79 : decode cX1_parse 79 = .ok (.iadd, 1) := by decide +kernel
theorem dX1_parse_80 : decode cX1_parse 80 = .ok (.putfield 25, 3) := by decide +kernel
theorem dX1_parse_83 : decode cX1_parse 83 = .ok (.goto (-73), 3) := by decide +kernel
theorem dX1_parse_86 : decode cX1_parse 86 = .ok (.aload_n 0, 1) := by decide +kernel
theorem dX1_parse_87 : decode cX1_parse 87 = .ok (.getfield 28, 3) := by decide +kernel
theorem dX1_parse_90 : decode cX1_parse 90 = .ok (.aload_n 0, 1) := by decide +kernel
theorem dX1_parse_91 : decode cX1_parse 91 = .ok (.getfield 21, 3) := by decide +kernel
theorem dX1_parse_94 : decode cX1_parse 94 = .ok (.if_icmp .ne 7, 3) := by decide +kernel
theorem dX1_parse_97 : decode cX1_parse 97 = .ok (.iconst (-1), 1) := by decide +kernel
theorem dX1_parse_98 : decode cX1_parse 98 = .ok (.goto 7, 3) := by decide +kernel
theorem dX1_parse_101 : decode cX1_parse 101 = .ok (.aload_n 0, 1) := by decide +kernel
theorem dX1_parse_102 : decode cX1_parse 102 = .ok (.getfield 28, 3) := by decide +kernel
theorem dX1_parse_105 : decode cX1_parse 105 = .ok (.ireturn, 1) := by decide +kernel
set_option maxRecDepth 20000 in
theorem ggX1_parsePair_X1_parseNumber : GoodIn wsX1_parsePair wsX1_parseNumber := goodIn_r _ [9, 10, 11, 12, 13, 14, 1, 15, 16, 17, 8, 18, 19, 24, 25, 26, 27, 28, 29] (by decide +kernel) (by decide +kernel)
set_option maxRecDepth 20000 in
theorem gX1_parsePair_X1_parseNumber : GoodIn wsX1_parsePair (wsV RX1 43 RX1 yX1_parseNumber wsX1_parseNumber) := goodIn_app (goodIn_of _ (by decide +kernel)) ggX1_parsePair_X1_parseNumber
set_option maxRecDepth 20000 in
theorem ggX1_parsePair_X1_passes : GoodIn wsX1_parsePair wsX1_passes := goodIn_r _ [23, 1, 19, 14, 24, 25, 26, 27, 28, 29] (by decide +kernel) (by decide +kernel)
set_option maxRecDepth 20000 in
theorem gX1_parsePair_X1_passes : GoodIn wsX1_parsePair (wsV RX1 35 RX1 yX1_passes wsX1_passes) := goodIn_app (goodIn_of _ (by decide +kernel)) ggX1_parsePair_X1_passes
theorem dX1_parsePair_0 : decode cX1_parsePair 0 = .ok (.aload_n 0, 1) := by decide +kernel
theorem dX1_parsePair_1 : decode cX1_parsePair 1 = .ok (.getfield 28, 3) := by decide +kernel
theorem dX1_parsePair_4 : decode cX1_parsePair 4 = .ok (.istore_n 1, 1) := by decide +kernel
theorem dX1_parsePair_5 : decode cX1_parsePair 5 = .ok (.aload_n 0, 1) := by decide +kernel
theorem dX1_parsePair_6 : decode cX1_parsePair 6 = .ok (.invokevirtual 43, 3) := by decide +kernel
theorem dX1_parsePair_9 : decode cX1_parsePair 9 = .ok (.istore_n 2, 1) := by decide +kernel
theorem dX1_parsePair_10 : decode cX1_parsePair 10 = .ok (.iload_n 2, 1) := by decide +kernel
theorem dX1_parsePair_11 : decode cX1_parsePair 11 = .ok (.iconst (-1), 1) := by decide +kernel
theorem dX1_parsePair_12 : decode cX1_parsePair 12 = .ok (.if_icmp .eq 25, 3) := by decide +kernel
theorem dX1_parsePair_15 : decode cX1_parsePair 15 = .ok (.aload_n 0, 1) := by decide +kernel
theorem dX1_parsePair_16 : decode cX1_parsePair 16 = .ok (.getfield 25, 3) := by decide +kernel
theorem dX1_parsePair_19 : decode cX1_parsePair 19 = .ok (.ifCond .le 20, 3) := by decide +kernel
theorem dX1_parsePair_22 : decode cX1_parsePair 22 = .ok (.iload_n 2, 1) := by decide +kernel
theorem dX1_parsePair_23 : decode cX1_parsePair 23 = .ok (.aload_n 0, 1) := by decide +kernel
theorem dX1_parsePair_24 : decode cX1_parsePair 24 = .ok (.getfield 15, 3) := by decide +kernel
theorem dX1_parsePair_27 : decode cX1_parsePair 27 = .ok (.aload_n 0, 1) := by decide +kernel
theorem dX1_parsePair_28 : decode cX1_parsePair 28 = .ok (.getfield 25, 3) := by decide +kernel
theorem dX1_parsePair_31 : decode cX1_parsePair 31 = .ok (.iconst 1, 1) := by decide +kernel
theorem dX1_parsePair_32 : decode cX1_parsePair 32 = .ok (.isub, 1) := by decide +kernel
theorem dX1_parsePair_33 : decode cX1_parsePair 33 = .ok (.iaload, 1) := by decide +kernel
theorem dX1_parsePair_34 : decode cX1_parsePair 34 = .ok (.if_icmp .gt 5, 3) := by decide +kernel
theorem dX1_parsePair_37 : decode cX1_parsePair 37 = .ok (.iload_n 1, 1) := by decide +kernel
theorem dX1_parsePair_38 : decode cX1_parsePair 38 = .ok (.ireturn, 1) := by decide +kernel
theorem dX1_parsePair_39 : decode cX1_parsePair 39 = .ok (.aload_n 0, 1) := by decide +kernel
theorem dX1_parsePair_40 : decode cX1_parsePair 40 = .ok (.bipush 58, 2) := by decide +kernel
theorem dX1_parsePair_42 : decode cX1_parsePair 42 = .ok (.invokevirtual 35, 3) := by decide +kernel
theorem dX1_parsePair_45 : decode cX1_parsePair 45 = .ok (.ifCond .ne 8, 3) := by decide +kernel
theorem dX1_parsePair_48 : decode cX1_parsePair 48 = .ok (.aload_n 0, 1) := by decide +kernel
theorem dX1_parsePair_49 : decode cX1_parsePair 49 = .ok (.getfield 28, 3) := by decide +kernel
theorem dX1_parsePair_52 : decode cX1_parsePair 52 = .ok (.ireturn, 1) := by decide +kernel
theorem dX1_parsePair_53 : decode cX1_parsePair 53 = .ok (.aload_n 0, 1) := by decide +kernel
theorem dX1_parsePair_54 : decode cX1_parsePair 54 = .ok (.getfield 28, 3) := by decide +kernel
theorem dX1_parsePair_57 : decode cX1_parsePair 57 = .ok (.istore_n 1, 1) := by decide +kernel
theorem dX1_parsePair_58 : decode cX1_parsePair 58 = .ok (.aload_n 0, 1) := by decide +kernel
theorem dX1_parsePair_59 : decode cX1_parsePair 59 = .ok (.invokevirtual 43, 3) := by decide +kernel
theorem dX1_parsePair_62 : decode cX1_parsePair 62 = .ok (.istore_n 3, 1) := by decide +kernel
theorem dX1_parsePair_63 : decode cX1_parsePair 63 = .ok (.iload_n 3, 1) := by decide +kernel
theorem dX1_parsePair_64 : decode cX1_parsePair 64 = .ok (.iconst (-1), 1) := by decide +kernel
theorem dX1_parsePair_65 : decode cX1_parsePair 65 = .ok (.if_icmp .eq 25, 3) := by decide +kernel
theorem dX1_parsePair_68 : decode cX1_parsePair 68 = .ok (.aload_n 0, 1) := by decide +kernel
theorem dX1_parsePair_69 : decode cX1_parsePair 69 = .ok (.getfield 25, 3) := by decide +kernel
theorem dX1_parsePair_72 : decode cX1_parsePair 72 = .ok (.ifCond .le 20, 3) := by decide +kernel
theorem dX1_parsePair_75 : decode cX1_parsePair 75 = .ok (.iload_n 3, 1) := by decide +kernel
theorem dX1_parsePair_76 : decode cX1_parsePair 76 = .ok (.aload_n 0, 1) := by decide +kernel
theorem dX1_parsePair_77 : decode cX1_parsePair 77 = .ok (.getfield 18, 3) := by decide +kernel
theorem dX1_parsePair_80 : decode cX1_parsePair 80 = .ok (.aload_n 0, 1) := by decide +kernel
theorem dX1_parsePair_81 : decode cX1_parsePair 81 = .ok (.getfield 25, 3) := by decide +kernel
theorem dX1_parsePair_84 : decode cX1_parsePair 84 = .ok (.iconst 1, 1) := by decide +kernel
theorem dX1_parsePair_85 : decode cX1_parsePair 85 = .ok (.isub, 1) := by decide +kernel
theorem dX1_parsePair_86 : decode cX1_parsePair 86 = .ok (.iaload, 1) := by decide +kernel
theorem dX1_parsePair_87 : decode cX1_parsePair 87 = .ok (.if_icmp .ge 5, 3) := by decide +kernel
theorem dX1_parsePair_90 : decode cX1_parsePair 90 = .ok (.iload_n 1, 1) := by decide +kernel
theorem dX1_parsePair_91 : decode cX1_parsePair 91 = .ok (.ireturn, 1) := by decide +kernel
theorem dX1_parsePair_92 : decode cX1_parsePair 92 = .ok (.aload_n 0, 1) := by decide +kernel
theorem dX1_parsePair_93 : decode cX1_parsePair 93 = .ok (.getfield 15, 3) := by decide +kernel
theorem dX1_parsePair_96 : decode cX1_parsePair 96 = .ok (.aload_n 0, 1) := by decide +kernel
theorem dX1_parsePair_97 : decode cX1_parsePair 97 = .ok (.getfield 25, 3) := by decide +kernel
theorem dX1_parsePair_100 : decode cX1_parsePair 100 = .ok (.iload_n 2, 1) := by decide +kernel
theorem dX1_parsePair_101 : decode cX1_parsePair 101 = .ok (.iastore, 1) := by decide +kernel
theorem dX1_parsePair_102 : decode cX1_parsePair 102 = .ok (.aload_n 0, 1) := by decide +kernel
theorem dX1_parsePair_103 : decode cX1_parsePair 103 = .ok (.getfield 18, 3) := by decide +kernel
theorem dX1_parsePair_106 : decode cX1_parsePair 106 = .ok (.aload_n 0, 1) := by decide +kernel
theorem dX1_parsePair_107 : decode cX1_parsePair 107 = .ok (.getfield 25, 3) := by decide +kernel
theorem dX1_parsePair_110 : decode cX1_parsePair 110 = .ok (.iload_n 3, 1) := by decide +kernel
theorem dX1_parsePair_111 : decode cX1_parsePair 111 = .ok (.iastore, 1) := by decide +kernel
theorem dX1_parsePair_112 : decode cX1_parsePair 112 = .ok (.iconst (-1), 1) := by decide +kernel
theorem dX1_parsePair_113 : decode cX1_parsePair 113 = .ok (.ireturn, 1) := by decide +kernel
theorem dX1_passes_0 : decode cX1_passes 0 = .ok (.aload_n 0, 1) := by decide +kernel
theorem dX1_passes_1 : decode cX1_passes 1 = .ok (.getfield 28, 3) := by decide +kernel
theorem dX1_passes_4 : decode cX1_passes 4 = .ok (.aload_n 0, 1) := by decide +kernel
theorem dX1_passes_5 : decode cX1_passes 5 = .ok (.getfield 21, 3) := by decide +kernel
theorem dX1_passes_8 : decode cX1_passes 8 = .ok (.if_icmp .ge 16, 3) := by decide +kernel
theorem dX1_passes_11 : decode cX1_passes 11 = .ok (.aload_n 0, 1) := by decide +kernel
theorem dX1_passes_12 : decode cX1_passes 12 = .ok (.getfield 9, 3) := by decide +kernel
theorem dX1_passes_15 : decode cX1_passes 15 = .ok (.aload_n 0, 1) := by decide +kernel
theorem dX1_passes_16 : decode cX1_passes 16 = .ok (.getfield 28, 3) := by decide +kernel
theorem dX1_passes_19 : decode cX1_passes 19 = .ok (.iaload, 1) := by decide +kernel
theorem dX1_passes_20 : decode cX1_passes 20 = .ok (.iload_n 1, 1) := by decide +kernel
theorem dX1_passes_21 : decode cX1_passes 21 = .ok (.if_icmp .eq 5, 3) := by decide +kernel
theorem dX1_passes_24 : decode cX1_passes 24 = .ok (.iconst 0, 1) := by decide +kernel
theorem dX1_passes_25 : decode cX1_passes 25 = .ok (.ireturn, 1) := by decide +kernel
theorem dX1_passes_26 : decode cX1_passes 26 = .ok (.aload_n 0, 1) := by decide +kernel
theorem dX1_passes_27 : decode cX1_passes 27 = .ok (.dup, 1) := by decide +kernel
theorem dX1_passes_28 : decode cX1_passes 28 = .ok (.getfield 28, 3) := by decide +kernel
theorem dX1_passes_31 : decode cX1_passes 31 = .ok (.iconst 1, 1) := by decide +kernel
theorem dX1_passes_32 : decode cX1_passes 32 = .ok (.iadd, 1) := by decide +kernel
theorem dX1_passes_33 : decode cX1_passes 33 = .ok (.putfield 28, 3) := by decide +kernel
theorem dX1_passes_36 : decode cX1_passes 36 = .ok (.iconst 1, 1) := by decide +kernel
theorem dX1_passes_37 : decode cX1_passes 37 = .ok (.ireturn, 1) := by decide +kernel
set_option maxRecDepth 20000 in
theorem ggX1_parseNumber_X1_isFigure : GoodIn wsX1_parseNumber wsX1_isFigure := goodIn_r _ [11, 6, 12, 5, 13, 14, 15, 16, 17, 18] (by decide +kernel) (by decide +kernel)
set_option maxRecDepth 20000 in
theorem gX1_parseNumber_X1_isFigure : GoodIn wsX1_parseNumber (wsV RX1 46 RX1 yX1_isFigure wsX1_isFigure) := goodIn_app (goodIn_of _ (by decide +kernel)) ggX1_parseNumber_X1_isFigure
theorem dX1_parseNumber_0 : decode cX1_parseNumber 0 = .ok (.iconst (-1), 1) := by decide +kernel
theorem dX1_parseNumber_1 : decode cX1_parseNumber 1 = .ok (.istore_n 1, 1) := by decide +kernel
theorem dX1_parseNumber_2 : decode cX1_parseNumber 2 = .ok (.iconst 0, 1) := by decide +kernel
theorem dX1_parseNumber_3 : decode cX1_parseNumber 3 = .ok (.istore_n 2, 1) := by decide +kernel
theorem dX1_parseNumber_4 : decode cX1_parseNumber 4 = .ok (.iload_n 2, 1) := by decide +kernel
theorem dX1_parseNumber_5 : decode cX1_parseNumber 5 = .ok (.iconst 3, 1) := by decide +kernel
theorem dX1_parseNumber_6 : decode cX1_parseNumber 6 = .ok (.if_icmp .ge 48, 3) := by decide +kernel
theorem dX1_parseNumber_9 : decode cX1_parseNumber 9 = .ok (.aload_n 0, 1) := by decide +kernel
theorem dX1_parseNumber_10 : decode cX1_parseNumber 10 = .ok (.invokevirtual 46, 3) := by decide +kernel
theorem dX1_parseNumber_13 : decode cX1_parseNumber 13 = .ok (.ifCond .eq 41, 3) := by decide +kernel
theorem dX1_parseNumber_16 : decode cX1_parseNumber 16 = .ok (.iload_n 1, 1) := by decide +kernel
theorem dX1_parseNumber_17 : decode cX1_parseNumber 17 = .ok (.iconst 0, 1) := by decide +kernel
theorem dX1_parseNumber_18 : decode cX1_parseNumber 18 = .ok (.invokestatic 49, 3) := by decide +kernel
theorem dX1_parseNumber_21 : decode cX1_parseNumber 21 = .ok (.bipush 10, 2) := by decide +kernel
theorem dX1_parseNumber_23 : decode cX1_parseNumber 23 = .ok (.imul, 1) := by decide +kernel
theorem dX1_parseNumber_24 : decode cX1_parseNumber 24 = .ok (.aload_n 0, 1) := by decide +kernel
theorem dX1_parseNumber_25 : decode cX1_parseNumber 25 = .ok (.getfield 9, 3) := by decide +kernel
theorem dX1_parseNumber_28 : decode cX1_parseNumber 28 = .ok (.aload_n 0, 1) := by decide +kernel
theorem dX1_parseNumber_29 : decode cX1_parseNumber 29 = .ok (.getfield 28, 3) := by decide +kernel
theorem dX1_parseNumber_32 : decode cX1_parseNumber 32 = .ok (.iaload, 1) := by decide +kernel
theorem dX1_parseNumber_33 : decode cX1_parseNumber 33 = .ok (.iadd, 1) := by decide +kernel
theorem dX1_parseNumber_34 : decode cX1_parseNumber 34 = .ok (.bipush 48, 2) := by decide +kernel
theorem dX1_parseNumber_36 : decode cX1_parseNumber 36 = .ok (.isub, 1) := by decide +kernel
theorem dX1_parseNumber_37 : decode cX1_parseNumber 37 = .ok (.istore_n 1, 1) := by decide +kernel
theorem dX1_parseNumber_38 : decode cX1_parseNumber 38 = .ok (.aload_n 0, 1) := by decide +kernel
theorem dX1_parseNumber_39 : decode cX1_parseNumber 39 = .ok (.dup, 1) := by decide +kernel
theorem dX1_parseNumber_40 : decode cX1_parseNumber 40 = .ok (.getfield 28, 3) := by decide +kernel
theorem dX1_parseNumber_43 : decode cX1_parseNumber 43 = .ok (.iconst 1, 1) := by decide +kernel
theorem dX1_parseNumber_44 : decode cX1_parseNumber 44 = .ok (.iadd, 1) := by decide +kernel
theorem dX1_parseNumber_45 : decode cX1_parseNumber 45 = .ok (.putfield 28, 3) := by decide +kernel
theorem dX1_parseNumber_48 : decode cX1_parseNumber 48 = .ok (.iinc 2 1, 3) := by decide +kernel
theorem dX1_parseNumber_51 : decode cX1_parseNumber 51 = .ok (.goto (-47), 3) := by decide +kernel
theorem dX1_parseNumber_54 : decode cX1_parseNumber 54 = .ok (.iload_n 1, 1) := by decide +kernel
theorem dX1_parseNumber_55 : decode cX1_parseNumber 55 = .ok (.ireturn, 1) := by decide +kernel
theorem dX1_isFigure_0 : decode cX1_isFigure 0 = .ok (.aload_n 0, 1) := by decide +kernel
theorem dX1_isFigure_1 : decode cX1_isFigure 1 = .ok (.getfield 28, 3) := by decide +kernel
theorem dX1_isFigure_4 : decode cX1_isFigure 4 = .ok (.aload_n 0, 1) := by decide +kernel
theorem dX1_isFigure_5 : decode cX1_isFigure 5 = .ok (.getfield 21, 3) := by decide +kernel
theorem dX1_isFigure_8 : decode cX1_isFigure 8 = .ok (.if_icmp .ge 35, 3) := by decide +kernel
theorem dX1_isFigure_11 : decode cX1_isFigure 11 = .ok (.aload_n 0, 1) := by decide +kernel
theorem dX1_isFigure_12 : decode cX1_isFigure 12 = .ok (.getfield 9, 3) := by decide +kernel
theorem dX1_isFigure_15 : decode cX1_isFigure 15 = .ok (.aload_n 0, 1) := by decide +kernel
theorem dX1_isFigure_16 : decode cX1_isFigure 16 = .ok (.getfield 28, 3) := by decide +kernel
theorem dX1_isFigure_19 : decode cX1_isFigure 19 = .ok (.iaload, 1) := by decide +kernel
theorem dX1_isFigure_20 : decode cX1_isFigure 20 = .ok (.bipush 48, 2) := by decide +kernel
theorem dX1_isFigure_22 : decode cX1_isFigure 22 = .ok (.if_icmp .lt 21, 3) := by decide +kernel
theorem dX1_isFigure_25 : decode cX1_isFigure 25 = .ok (.aload_n 0, 1) := by decide +kernel
theorem dX1_isFigure_26 : decode cX1_isFigure 26 = .ok (.getfield 9, 3) := by decide +kernel
theorem dX1_isFigure_29 : decode cX1_isFigure 29 = .ok (.aload_n 0, 1) := by decide +kernel
theorem dX1_isFigure_30 : decode cX1_isFigure 30 = .ok (.getfield 28, 3) := by decide +kernel
theorem dX1_isFigure_33 : decode cX1_isFigure 33 = .ok (.iaload, 1) := by decide +kernel
theorem dX1_isFigure_34 : decode cX1_isFigure 34 = .ok (.bipush 57, 2) := by decide +kernel
theorem dX1_isFigure_36 : decode cX1_isFigure 36 = .ok (.if_icmp .gt 7, 3) := by decide +kernel
theorem dX1_isFigure_39 : decode cX1_isFigure 39 = .ok (.iconst 1, 1) := by decide +kernel
theorem dX1_isFigure_40 : decode cX1_isFigure 40 = .ok (.goto 4, 3) := by decide +kernel
theorem dX1_isFigure_43 : decode cX1_isFigure 43 = .ok (.iconst 0, 1) := by decide +kernel
theorem dX1_isFigure_44 : decode cX1_isFigure 44 = .ok (.ireturn, 1) := by decide +kernel
theorem dX1_pairBeside_0 : decode cX1_pairBeside 0 = .ok (.iconst 0, 1) := by decide +kernel
theorem dX1_pairBeside_1 : decode cX1_pairBeside 1 = .ok (.istore_n 2, 1) := by decide +kernel
theorem dX1_pairBeside_2 : decode cX1_pairBeside 2 = .ok (.iload_n 2, 1) := by decide +kernel
theorem dX1_pairBeside_3 : decode cX1_pairBeside 3 = .ok (.iconst 2, 1) := by decide +kernel
theorem dX1_pairBeside_4 : decode cX1_pairBeside 4 = .ok (.iadd, 1) := by decide +kernel
theorem dX1_pairBeside_5 : decode cX1_pairBeside 5 = .ok (.aload_n 0, 1) := by decide +kernel
theorem dX1_pairBeside_6 : decode cX1_pairBeside 6 = .ok (.getfield 25, 3) := by decide +kernel
theorem dX1_pairBeside_9 : decode cX1_pairBeside 9 = .ok (.if_icmp .ge 21, 3) := by decide +kernel
theorem dX1_pairBeside_12 : decode cX1_pairBeside 12 = .ok (.iload_n 1, 1) := by decide +kernel
theorem dX1_pairBeside_13 : decode cX1_pairBeside 13 = .ok (.aload_n 0, 1) := by decide +kernel
theorem dX1_pairBeside_14 : decode cX1_pairBeside 14 = .ok (.getfield 15, 3) := by decide +kernel
theorem dX1_pairBeside_17 : decode cX1_pairBeside 17 = .ok (.iload_n 2, 1) := by decide +kernel
theorem dX1_pairBeside_18 : decode cX1_pairBeside 18 = .ok (.iconst 1, 1) := by decide +kernel
theorem dX1_pairBeside_19 : decode cX1_pairBeside 19 = .ok (.iadd, 1) := by decide +kernel
theorem dX1_pairBeside_20 : decode cX1_pairBeside 20 = .ok (.iaload, 1) := by decide +kernel
theorem dX1_pairBeside_21 : decode cX1_pairBeside 21 = .ok (.if_icmp .le 9, 3) := by decide +kernel
theorem dX1_pairBeside_24 : decode cX1_pairBeside 24 = .ok (.iinc 2 1, 3) := by decide +kernel
theorem dX1_pairBeside_27 : decode cX1_pairBeside 27 = .ok (.goto (-25), 3) := by decide +kernel
theorem dX1_pairBeside_30 : decode cX1_pairBeside 30 = .ok (.iload_n 2, 1) := by decide +kernel
theorem dX1_pairBeside_31 : decode cX1_pairBeside 31 = .ok (.ireturn, 1) := by decide +kernel
theorem dX1_lineBelow_0 : decode cX1_lineBelow 0 = .ok (.aload_n 0, 1) := by decide +kernel
theorem dX1_lineBelow_1 : decode cX1_lineBelow 1 = .ok (.getfield 15, 3) := by decide +kernel
theorem dX1_lineBelow_4 : decode cX1_lineBelow 4 = .ok (.iload_n 1, 1) := by decide +kernel
theorem dX1_lineBelow_5 : decode cX1_lineBelow 5 = .ok (.iconst 1, 1) := by decide +kernel
theorem dX1_lineBelow_6 : decode cX1_lineBelow 6 = .ok (.iadd, 1) := by decide +kernel
theorem dX1_lineBelow_7 : decode cX1_lineBelow 7 = .ok (.iaload, 1) := by decide +kernel
theorem dX1_lineBelow_8 : decode cX1_lineBelow 8 = .ok (.i2l, 1) := by decide +kernel
theorem dX1_lineBelow_9 : decode cX1_lineBelow 9 = .ok (.aload_n 0, 1) := by decide +kernel
theorem dX1_lineBelow_10 : decode cX1_lineBelow 10 = .ok (.getfield 15, 3) := by decide +kernel
theorem dX1_lineBelow_13 : decode cX1_lineBelow 13 = .ok (.iload_n 1, 1) := by decide +kernel
theorem dX1_lineBelow_14 : decode cX1_lineBelow 14 = .ok (.iaload, 1) := by decide +kernel
theorem dX1_lineBelow_15 : decode cX1_lineBelow 15 = .ok (.i2l, 1) := by decide +kernel
theorem dX1_lineBelow_16 : decode cX1_lineBelow 16 = .ok (.lsub, 1) := by decide +kernel
theorem dX1_lineBelow_17 : decode cX1_lineBelow 17 = .ok (.lreturn, 1) := by decide +kernel
set_option maxRecDepth 20000 in
theorem ggX1_lineAbove_X1_lineBelow : GoodIn wsX1_lineAbove wsX1_lineBelow := goodIn_r _ [11, 2, 12, 13, 14, 15, 16, 17] (by decide +kernel) (by decide +kernel)
set_option maxRecDepth 20000 in
theorem gX1_lineAbove_X1_lineBelow : GoodIn wsX1_lineAbove (wsV RX1 55 RX1 yX1_lineBelow wsX1_lineBelow) := goodIn_app (goodIn_of _ (by decide +kernel)) ggX1_lineAbove_X1_lineBelow
theorem dX1_lineAbove_0 : decode cX1_lineAbove 0 = .ok (.aload_n 0, 1) := by decide +kernel
theorem dX1_lineAbove_1 : decode cX1_lineAbove 1 = .ok (.getfield 18, 3) := by decide +kernel
theorem dX1_lineAbove_4 : decode cX1_lineAbove 4 = .ok (.iload_n 1, 1) := by decide +kernel
theorem dX1_lineAbove_5 : decode cX1_lineAbove 5 = .ok (.iconst 1, 1) := by decide +kernel
theorem dX1_lineAbove_6 : decode cX1_lineAbove 6 = .ok (.iadd, 1) := by decide +kernel
theorem dX1_lineAbove_7 : decode cX1_lineAbove 7 = .ok (.iaload, 1) := by decide +kernel
theorem dX1_lineAbove_8 : decode cX1_lineAbove 8 = .ok (.aload_n 0, 1) := by decide +kernel
theorem dX1_lineAbove_9 : decode cX1_lineAbove 9 = .ok (.getfield 18, 3) := by decide +kernel
theorem dX1_lineAbove_12 : decode cX1_lineAbove 12 = .ok (.iload_n 1, 1) := by decide +kernel
theorem dX1_lineAbove_13 : decode cX1_lineAbove 13 = .ok (.iaload, 1) := by decide +kernel
theorem dX1_lineAbove_14 : decode cX1_lineAbove 14 = .ok (.isub, 1) := by decide +kernel
theorem dX1_lineAbove_15 : decode cX1_lineAbove 15 = .ok (.i2l, 1) := by decide +kernel
theorem dX1_lineAbove_16 : decode cX1_lineAbove 16 = .ok (.iload_n 2, 1) := by decide +kernel
theorem dX1_lineAbove_17 : decode cX1_lineAbove 17 = .ok (.aload_n 0, 1) := by decide +kernel
theorem dX1_lineAbove_18 : decode cX1_lineAbove 18 = .ok (.getfield 15, 3) := by decide +kernel
theorem dX1_lineAbove_21 : decode cX1_lineAbove 21 = .ok (.iload_n 1, 1) := by decide +kernel
theorem dX1_lineAbove_22 : decode cX1_lineAbove 22 = .ok (.iaload, 1) := by decide +kernel
theorem dX1_lineAbove_23 : decode cX1_lineAbove 23 = .ok (.isub, 1) := by decide +kernel
theorem dX1_lineAbove_24 : decode cX1_lineAbove 24 = .ok (.i2l, 1) := by decide +kernel
theorem dX1_lineAbove_25 : decode cX1_lineAbove 25 = .ok (.lmul, 1) := by decide +kernel
theorem dX1_lineAbove_26 : decode cX1_lineAbove 26 = .ok (.lstore_n 3, 1) := by decide +kernel
theorem dX1_lineAbove_27 : decode cX1_lineAbove 27 = .ok (.lconst 0, 1) := by decide +kernel
theorem dX1_lineAbove_28 : decode cX1_lineAbove 28 = .ok (.aload_n 0, 1) := by decide +kernel
theorem dX1_lineAbove_29 : decode cX1_lineAbove 29 = .ok (.getfield 18, 3) := by decide +kernel
theorem dX1_lineAbove_32 : decode cX1_lineAbove 32 = .ok (.iload_n 1, 1) := by decide +kernel
theorem dX1_lineAbove_33 : decode cX1_lineAbove 33 = .ok (.iaload, 1) := by decide +kernel
theorem dX1_lineAbove_34 : decode cX1_lineAbove 34 = .ok (.i2l, 1) := by decide +kernel
theorem dX1_lineAbove_35 : decode cX1_lineAbove 35 = .ok (.aload_n 0, 1) := by decide +kernel
theorem dX1_lineAbove_36 : decode cX1_lineAbove 36 = .ok (.iload_n 1, 1) := by decide +kernel
theorem dX1_lineAbove_37 : decode cX1_lineAbove 37 = .ok (.invokevirtual 55, 3) := by decide +kernel
theorem dX1_lineAbove_40 : decode cX1_lineAbove 40 = .ok (.lmul, 1) := by decide +kernel
theorem dX1_lineAbove_41 : decode cX1_lineAbove 41 = .ok (.lload_n 3, 1) := by decide +kernel
theorem dX1_lineAbove_42 : decode cX1_lineAbove 42 = .ok (.ladd, 1) := by decide +kernel
theorem dX1_lineAbove_43 : decode cX1_lineAbove 43 = .ok (.invokestatic 59, 3) := by decide +kernel
theorem dX1_lineAbove_46 : decode cX1_lineAbove 46 = .ok (.lreturn, 1) := by decide +kernel
