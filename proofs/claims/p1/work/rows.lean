section
-- ===== PART A: goes FIRST, ahead of the names: the tables' words, and 'selects' of the private methods out of them =====
/-- a private method of a class that the tables say can be made, by its rows of tables_1 -/
def lw_okq (q : MethodName × Nat) : Prop := (q.1.cls ≠ "java/lang/invoke/MethodHandle" ∧ q.1.cls ≠ "java/lang/invoke/VarHandle") ∧ Cond.instantiable q.1.cls q.2 ∈ tables_1 ∧ Cond.privateMethod q.1 ∈ tables_1 ∧ Cond.instanceMethod q.1 ∈ tables_1
theorem lw_p0 : lw_okq (⟨"TabledGoals", "putBytes", "(I)V"⟩, 9) := ⟨⟨by decide +kernel, by decide +kernel⟩, List.mem_of_getElem? (i := 23) (by decide +kernel), List.mem_of_getElem? (i := 323) (by decide +kernel), List.mem_of_getElem? (i := 324) (by decide +kernel)⟩
theorem lw_p1 : lw_okq (⟨"TabledGoals", "refuseArgument", "()V"⟩, 9) := ⟨⟨by decide +kernel, by decide +kernel⟩, List.mem_of_getElem? (i := 23) (by decide +kernel), List.mem_of_getElem? (i := 373) (by decide +kernel), List.mem_of_getElem? (i := 374) (by decide +kernel)⟩
theorem lw_p2 : lw_okq (⟨"java/lang/Throwable", "fillInStackTrace", "(I)Ljava/lang/Throwable;"⟩, 6) := ⟨⟨by decide +kernel, by decide +kernel⟩, List.mem_of_getElem? (i := 415) (by decide +kernel), List.mem_of_getElem? (i := 413) (by decide +kernel), List.mem_of_getElem? (i := 414) (by decide +kernel)⟩
theorem lw_p3 : lw_okq (⟨"TabledGoals$Reader", "next", "()I"⟩, 10) := ⟨⟨by decide +kernel, by decide +kernel⟩, List.mem_of_getElem? (i := 445) (by decide +kernel), List.mem_of_getElem? (i := 495) (by decide +kernel), List.mem_of_getElem? (i := 496) (by decide +kernel)⟩
theorem lw_p4 : lw_okq (⟨"TabledGoals$Reader", "readClause", "()Z"⟩, 10) := ⟨⟨by decide +kernel, by decide +kernel⟩, List.mem_of_getElem? (i := 445) (by decide +kernel), List.mem_of_getElem? (i := 499) (by decide +kernel), List.mem_of_getElem? (i := 500) (by decide +kernel)⟩
theorem lw_p5 : lw_okq (⟨"TabledGoals$Reader", "smallNext", "()Z"⟩, 10) := ⟨⟨by decide +kernel, by decide +kernel⟩, List.mem_of_getElem? (i := 445) (by decide +kernel), List.mem_of_getElem? (i := 503) (by decide +kernel), List.mem_of_getElem? (i := 504) (by decide +kernel)⟩
theorem lw_p6 : lw_okq (⟨"TabledGoals$Reader", "fail", "(II)Z"⟩, 10) := ⟨⟨by decide +kernel, by decide +kernel⟩, List.mem_of_getElem? (i := 445) (by decide +kernel), List.mem_of_getElem? (i := 507) (by decide +kernel), List.mem_of_getElem? (i := 508) (by decide +kernel)⟩
theorem lw_p7 : lw_okq (⟨"TabledGoals$Reader", "readAtom", "(II)Z"⟩, 10) := ⟨⟨by decide +kernel, by decide +kernel⟩, List.mem_of_getElem? (i := 445) (by decide +kernel), List.mem_of_getElem? (i := 511) (by decide +kernel), List.mem_of_getElem? (i := 512) (by decide +kernel)⟩
theorem lw_p8 : lw_okq (⟨"TabledGoals$Reader", "readName", "(Z)I"⟩, 10) := ⟨⟨by decide +kernel, by decide +kernel⟩, List.mem_of_getElem? (i := 445) (by decide +kernel), List.mem_of_getElem? (i := 515) (by decide +kernel), List.mem_of_getElem? (i := 516) (by decide +kernel)⟩
theorem lw_p9 : lw_okq (⟨"TabledGoals$Reader", "wordLength", "()I"⟩, 10) := ⟨⟨by decide +kernel, by decide +kernel⟩, List.mem_of_getElem? (i := 445) (by decide +kernel), List.mem_of_getElem? (i := 519) (by decide +kernel), List.mem_of_getElem? (i := 520) (by decide +kernel)⟩
theorem lw_p10 : lw_okq (⟨"TabledGoals$Reader", "isNot", "(I)Z"⟩, 10) := ⟨⟨by decide +kernel, by decide +kernel⟩, List.mem_of_getElem? (i := 445) (by decide +kernel), List.mem_of_getElem? (i := 523) (by decide +kernel), List.mem_of_getElem? (i := 524) (by decide +kernel)⟩
theorem lw_p11 : lw_okq (⟨"TabledGoals$Program", "putAtom", "(IIII)V"⟩, 9) := ⟨⟨by decide +kernel, by decide +kernel⟩, List.mem_of_getElem? (i := 31) (by decide +kernel), List.mem_of_getElem? (i := 542) (by decide +kernel), List.mem_of_getElem? (i := 543) (by decide +kernel)⟩
theorem lw_p12 : lw_okq (⟨"TabledGoals$Reader", "readTerm", "(III)Z"⟩, 10) := ⟨⟨by decide +kernel, by decide +kernel⟩, List.mem_of_getElem? (i := 445) (by decide +kernel), List.mem_of_getElem? (i := 554) (by decide +kernel), List.mem_of_getElem? (i := 555) (by decide +kernel)⟩
theorem lw_p13 : lw_okq (⟨"TabledGoals$Reader", "readVariable", "(I)I"⟩, 10) := ⟨⟨by decide +kernel, by decide +kernel⟩, List.mem_of_getElem? (i := 445) (by decide +kernel), List.mem_of_getElem? (i := 558) (by decide +kernel), List.mem_of_getElem? (i := 559) (by decide +kernel)⟩
theorem lw_p14 : lw_okq (⟨"TabledGoals$Reader", "isSafe", "(I)Z"⟩, 10) := ⟨⟨by decide +kernel, by decide +kernel⟩, List.mem_of_getElem? (i := 445) (by decide +kernel), List.mem_of_getElem? (i := 562) (by decide +kernel), List.mem_of_getElem? (i := 563) (by decide +kernel)⟩
theorem lw_p15 : lw_okq (⟨"TabledGoals$Reader", "readBody", "()Z"⟩, 10) := ⟨⟨by decide +kernel, by decide +kernel⟩, List.mem_of_getElem? (i := 445) (by decide +kernel), List.mem_of_getElem? (i := 567) (by decide +kernel), List.mem_of_getElem? (i := 568) (by decide +kernel)⟩
def lw_privs_1 : List (MethodName × Nat) := [(⟨"TabledGoals", "putBytes", "(I)V"⟩, 9), (⟨"TabledGoals", "refuseArgument", "()V"⟩, 9), (⟨"java/lang/Throwable", "fillInStackTrace", "(I)Ljava/lang/Throwable;"⟩, 6), (⟨"TabledGoals$Reader", "next", "()I"⟩, 10), (⟨"TabledGoals$Reader", "readClause", "()Z"⟩, 10), (⟨"TabledGoals$Reader", "smallNext", "()Z"⟩, 10), (⟨"TabledGoals$Reader", "fail", "(II)Z"⟩, 10), (⟨"TabledGoals$Reader", "readAtom", "(II)Z"⟩, 10), (⟨"TabledGoals$Reader", "readName", "(Z)I"⟩, 10), (⟨"TabledGoals$Reader", "wordLength", "()I"⟩, 10), (⟨"TabledGoals$Reader", "isNot", "(I)Z"⟩, 10), (⟨"TabledGoals$Program", "putAtom", "(IIII)V"⟩, 9), (⟨"TabledGoals$Reader", "readTerm", "(III)Z"⟩, 10), (⟨"TabledGoals$Reader", "readVariable", "(I)I"⟩, 10), (⟨"TabledGoals$Reader", "isSafe", "(I)Z"⟩, 10), (⟨"TabledGoals$Reader", "readBody", "()Z"⟩, 10)]
theorem lw_r1 : ∀ q ∈ lw_privs_1, lw_okq q := List.forall_mem_cons.mpr ⟨lw_p0, List.forall_mem_cons.mpr ⟨lw_p1, List.forall_mem_cons.mpr ⟨lw_p2, List.forall_mem_cons.mpr ⟨lw_p3, List.forall_mem_cons.mpr ⟨lw_p4, List.forall_mem_cons.mpr ⟨lw_p5, List.forall_mem_cons.mpr ⟨lw_p6, List.forall_mem_cons.mpr ⟨lw_p7, List.forall_mem_cons.mpr ⟨lw_p8, List.forall_mem_cons.mpr ⟨lw_p9, List.forall_mem_cons.mpr ⟨lw_p10, List.forall_mem_cons.mpr ⟨lw_p11, List.forall_mem_cons.mpr ⟨lw_p12, List.forall_mem_cons.mpr ⟨lw_p13, List.forall_mem_cons.mpr ⟨lw_p14, List.forall_mem_cons.mpr ⟨lw_p15, fun _ h => absurd h List.not_mem_nil⟩⟩⟩⟩⟩⟩⟩⟩⟩⟩⟩⟩⟩⟩⟩⟩
theorem lw_p16 : lw_okq (⟨"TabledGoals$Reader", "closeClause", "()Z"⟩, 10) := ⟨⟨by decide +kernel, by decide +kernel⟩, List.mem_of_getElem? (i := 445) (by decide +kernel), List.mem_of_getElem? (i := 571) (by decide +kernel), List.mem_of_getElem? (i := 572) (by decide +kernel)⟩
theorem lw_p17 : lw_okq (⟨"TabledGoals", "needAtom", "(III)V"⟩, 9) := ⟨⟨by decide +kernel, by decide +kernel⟩, List.mem_of_getElem? (i := 23) (by decide +kernel), List.mem_of_getElem? (i := 593) (by decide +kernel), List.mem_of_getElem? (i := 594) (by decide +kernel)⟩
theorem lw_p18 : lw_okq (⟨"TabledGoals", "needPredicate", "(I)V"⟩, 9) := ⟨⟨by decide +kernel, by decide +kernel⟩, List.mem_of_getElem? (i := 23) (by decide +kernel), List.mem_of_getElem? (i := 597) (by decide +kernel), List.mem_of_getElem? (i := 598) (by decide +kernel)⟩
theorem lw_p19 : lw_okq (⟨"TabledGoals", "needIndex", "(II)V"⟩, 9) := ⟨⟨by decide +kernel, by decide +kernel⟩, List.mem_of_getElem? (i := 23) (by decide +kernel), List.mem_of_getElem? (i := 601) (by decide +kernel), List.mem_of_getElem? (i := 602) (by decide +kernel)⟩
theorem lw_p20 : lw_okq (⟨"TabledGoals", "refuseMissing", "()V"⟩, 9) := ⟨⟨by decide +kernel, by decide +kernel⟩, List.mem_of_getElem? (i := 23) (by decide +kernel), List.mem_of_getElem? (i := 605) (by decide +kernel), List.mem_of_getElem? (i := 606) (by decide +kernel)⟩
theorem lw_p21 : lw_okq (⟨"TabledGoals", "needConstant", "(I)V"⟩, 9) := ⟨⟨by decide +kernel, by decide +kernel⟩, List.mem_of_getElem? (i := 23) (by decide +kernel), List.mem_of_getElem? (i := 625) (by decide +kernel), List.mem_of_getElem? (i := 626) (by decide +kernel)⟩
theorem lw_p22 : lw_okq (⟨"TabledGoals", "needNoMoreTerms", "(III)V"⟩, 9) := ⟨⟨by decide +kernel, by decide +kernel⟩, List.mem_of_getElem? (i := 23) (by decide +kernel), List.mem_of_getElem? (i := 629) (by decide +kernel), List.mem_of_getElem? (i := 630) (by decide +kernel)⟩
theorem lw_p23 : lw_okq (⟨"TabledGoals", "refuseState", "()V"⟩, 9) := ⟨⟨by decide +kernel, by decide +kernel⟩, List.mem_of_getElem? (i := 23) (by decide +kernel), List.mem_of_getElem? (i := 638) (by decide +kernel), List.mem_of_getElem? (i := 639) (by decide +kernel)⟩
theorem lw_p24 : lw_okq (⟨"TabledGoals$Tables", "spreadBack", "()V"⟩, 14) := ⟨⟨by decide +kernel, by decide +kernel⟩, List.mem_of_getElem? (i := 203) (by decide +kernel), List.mem_of_getElem? (i := 681) (by decide +kernel), List.mem_of_getElem? (i := 682) (by decide +kernel)⟩
theorem lw_p25 : lw_okq (⟨"TabledGoals$Tables", "callsMarked", "(LTabledGoals$Table;)Z"⟩, 14) := ⟨⟨by decide +kernel, by decide +kernel⟩, List.mem_of_getElem? (i := 203) (by decide +kernel), List.mem_of_getElem? (i := 685) (by decide +kernel), List.mem_of_getElem? (i := 686) (by decide +kernel)⟩
theorem lw_p26 : lw_okq (⟨"TabledGoals$Tables", "ofKey", "(I)LTabledGoals$Table;"⟩, 14) := ⟨⟨by decide +kernel, by decide +kernel⟩, List.mem_of_getElem? (i := 203) (by decide +kernel), List.mem_of_getElem? (i := 693) (by decide +kernel), List.mem_of_getElem? (i := 694) (by decide +kernel)⟩
theorem lw_p27 : lw_okq (⟨"TabledGoals", "needGoal", "(III)V"⟩, 9) := ⟨⟨by decide +kernel, by decide +kernel⟩, List.mem_of_getElem? (i := 23) (by decide +kernel), List.mem_of_getElem? (i := 719) (by decide +kernel), List.mem_of_getElem? (i := 720) (by decide +kernel)⟩
theorem lw_p28 : lw_okq (⟨"TabledGoals$Model", "growPossible", "(LTabledGoals$Program;)V"⟩, 7) := ⟨⟨by decide +kernel, by decide +kernel⟩, List.mem_of_getElem? (i := 83) (by decide +kernel), List.mem_of_getElem? (i := 731) (by decide +kernel), List.mem_of_getElem? (i := 732) (by decide +kernel)⟩
theorem lw_p29 : lw_okq (⟨"TabledGoals$Model", "noteStage", "(I)V"⟩, 7) := ⟨⟨by decide +kernel, by decide +kernel⟩, List.mem_of_getElem? (i := 83) (by decide +kernel), List.mem_of_getElem? (i := 810) (by decide +kernel), List.mem_of_getElem? (i := 811) (by decide +kernel)⟩
theorem lw_p30 : lw_okq (⟨"TabledGoals$Model", "growTruth", "(LTabledGoals$Program;)Z"⟩, 7) := ⟨⟨by decide +kernel, by decide +kernel⟩, List.mem_of_getElem? (i := 83) (by decide +kernel), List.mem_of_getElem? (i := 815) (by decide +kernel), List.mem_of_getElem? (i := 816) (by decide +kernel)⟩
theorem lw_p31 : lw_okq (⟨"TabledGoals$Tables", "goInto", "(ILTabledGoals$Program;)V"⟩, 14) := ⟨⟨by decide +kernel, by decide +kernel⟩, List.mem_of_getElem? (i := 203) (by decide +kernel), List.mem_of_getElem? (i := 824) (by decide +kernel), List.mem_of_getElem? (i := 825) (by decide +kernel)⟩
def lw_privs_2 : List (MethodName × Nat) := [(⟨"TabledGoals$Reader", "closeClause", "()Z"⟩, 10), (⟨"TabledGoals", "needAtom", "(III)V"⟩, 9), (⟨"TabledGoals", "needPredicate", "(I)V"⟩, 9), (⟨"TabledGoals", "needIndex", "(II)V"⟩, 9), (⟨"TabledGoals", "refuseMissing", "()V"⟩, 9), (⟨"TabledGoals", "needConstant", "(I)V"⟩, 9), (⟨"TabledGoals", "needNoMoreTerms", "(III)V"⟩, 9), (⟨"TabledGoals", "refuseState", "()V"⟩, 9), (⟨"TabledGoals$Tables", "spreadBack", "()V"⟩, 14), (⟨"TabledGoals$Tables", "callsMarked", "(LTabledGoals$Table;)Z"⟩, 14), (⟨"TabledGoals$Tables", "ofKey", "(I)LTabledGoals$Table;"⟩, 14), (⟨"TabledGoals", "needGoal", "(III)V"⟩, 9), (⟨"TabledGoals$Model", "growPossible", "(LTabledGoals$Program;)V"⟩, 7), (⟨"TabledGoals$Model", "noteStage", "(I)V"⟩, 7), (⟨"TabledGoals$Model", "growTruth", "(LTabledGoals$Program;)Z"⟩, 7), (⟨"TabledGoals$Tables", "goInto", "(ILTabledGoals$Program;)V"⟩, 14)]
theorem lw_r2 : ∀ q ∈ lw_privs_2, lw_okq q := List.forall_mem_cons.mpr ⟨lw_p16, List.forall_mem_cons.mpr ⟨lw_p17, List.forall_mem_cons.mpr ⟨lw_p18, List.forall_mem_cons.mpr ⟨lw_p19, List.forall_mem_cons.mpr ⟨lw_p20, List.forall_mem_cons.mpr ⟨lw_p21, List.forall_mem_cons.mpr ⟨lw_p22, List.forall_mem_cons.mpr ⟨lw_p23, List.forall_mem_cons.mpr ⟨lw_p24, List.forall_mem_cons.mpr ⟨lw_p25, List.forall_mem_cons.mpr ⟨lw_p26, List.forall_mem_cons.mpr ⟨lw_p27, List.forall_mem_cons.mpr ⟨lw_p28, List.forall_mem_cons.mpr ⟨lw_p29, List.forall_mem_cons.mpr ⟨lw_p30, List.forall_mem_cons.mpr ⟨lw_p31, fun _ h => absurd h List.not_mem_nil⟩⟩⟩⟩⟩⟩⟩⟩⟩⟩⟩⟩⟩⟩⟩⟩
theorem lw_p32 : lw_okq (⟨"TabledGoals$Tables", "hit", "(LTabledGoals$Table;)V"⟩, 14) := ⟨⟨by decide +kernel, by decide +kernel⟩, List.mem_of_getElem? (i := 203) (by decide +kernel), List.mem_of_getElem? (i := 828) (by decide +kernel), List.mem_of_getElem? (i := 829) (by decide +kernel)⟩
theorem lw_p33 : lw_okq (⟨"TabledGoals$Tables", "add", "(I)LTabledGoals$Table;"⟩, 14) := ⟨⟨by decide +kernel, by decide +kernel⟩, List.mem_of_getElem? (i := 203) (by decide +kernel), List.mem_of_getElem? (i := 833) (by decide +kernel), List.mem_of_getElem? (i := 834) (by decide +kernel)⟩
theorem lw_p34 : lw_okq (⟨"TabledGoals$Tables", "leave", "(LTabledGoals$Table;)V"⟩, 14) := ⟨⟨by decide +kernel, by decide +kernel⟩, List.mem_of_getElem? (i := 203) (by decide +kernel), List.mem_of_getElem? (i := 947) (by decide +kernel), List.mem_of_getElem? (i := 948) (by decide +kernel)⟩
theorem lw_p35 : lw_okq (⟨"TabledGoals$Tables", "complete", "(LTabledGoals$Table;)V"⟩, 14) := ⟨⟨by decide +kernel, by decide +kernel⟩, List.mem_of_getElem? (i := 203) (by decide +kernel), List.mem_of_getElem? (i := 951) (by decide +kernel), List.mem_of_getElem? (i := 952) (by decide +kernel)⟩
theorem lw_p36 : lw_okq (⟨"TabledGoals$Tables", "putCompleted", "(II)V"⟩, 14) := ⟨⟨by decide +kernel, by decide +kernel⟩, List.mem_of_getElem? (i := 203) (by decide +kernel), List.mem_of_getElem? (i := 955) (by decide +kernel), List.mem_of_getElem? (i := 956) (by decide +kernel)⟩
theorem lw_p37 : lw_okq (⟨"TabledGoals", "needWhat", "(II)V"⟩, 9) := ⟨⟨by decide +kernel, by decide +kernel⟩, List.mem_of_getElem? (i := 23) (by decide +kernel), List.mem_of_getElem? (i := 966) (by decide +kernel), List.mem_of_getElem? (i := 967) (by decide +kernel)⟩
theorem lw_p38 : lw_okq (⟨"TabledGoals$Program", "raiseHead", "(I[I)Z"⟩, 9) := ⟨⟨by decide +kernel, by decide +kernel⟩, List.mem_of_getElem? (i := 31) (by decide +kernel), List.mem_of_getElem? (i := 1003) (by decide +kernel), List.mem_of_getElem? (i := 1004) (by decide +kernel)⟩
theorem lw_p39 : lw_okq (⟨"TabledGoals$Tables", "spreadOn", "(I)V"⟩, 14) := ⟨⟨by decide +kernel, by decide +kernel⟩, List.mem_of_getElem? (i := 203) (by decide +kernel), List.mem_of_getElem? (i := 1065) (by decide +kernel), List.mem_of_getElem? (i := 1066) (by decide +kernel)⟩
theorem lw_p40 : lw_okq (⟨"TabledGoals$Table", "nodes", "()I"⟩, 18) := ⟨⟨by decide +kernel, by decide +kernel⟩, List.mem_of_getElem? (i := 836) (by decide +kernel), List.mem_of_getElem? (i := 1079) (by decide +kernel), List.mem_of_getElem? (i := 1080) (by decide +kernel)⟩
theorem lw_p41 : lw_okq (⟨"TabledGoalsModel", "puts", "(I)V"⟩, 77) := ⟨⟨by decide +kernel, by decide +kernel⟩, List.mem_of_getElem? (i := 1137) (by decide +kernel), List.mem_of_getElem? (i := 1386) (by decide +kernel), List.mem_of_getElem? (i := 1387) (by decide +kernel)⟩
theorem lw_p42 : lw_okq (⟨"TabledGoalsModel", "isFine", "(ZII)Z"⟩, 77) := ⟨⟨by decide +kernel, by decide +kernel⟩, List.mem_of_getElem? (i := 1137) (by decide +kernel), List.mem_of_getElem? (i := 1397) (by decide +kernel), List.mem_of_getElem? (i := 1398) (by decide +kernel)⟩
theorem lw_p43 : lw_okq (⟨"TabledGoalsModel", "sign", "()I"⟩, 77) := ⟨⟨by decide +kernel, by decide +kernel⟩, List.mem_of_getElem? (i := 1137) (by decide +kernel), List.mem_of_getElem? (i := 1401) (by decide +kernel), List.mem_of_getElem? (i := 1402) (by decide +kernel)⟩
theorem lw_p44 : lw_okq (⟨"TabledGoalsModel", "clauseRead", "()V"⟩, 77) := ⟨⟨by decide +kernel, by decide +kernel⟩, List.mem_of_getElem? (i := 1137) (by decide +kernel), List.mem_of_getElem? (i := 1405) (by decide +kernel), List.mem_of_getElem? (i := 1406) (by decide +kernel)⟩
theorem lw_p45 : lw_okq (⟨"TabledGoalsModel", "wrong", "(II)V"⟩, 77) := ⟨⟨by decide +kernel, by decide +kernel⟩, List.mem_of_getElem? (i := 1137) (by decide +kernel), List.mem_of_getElem? (i := 1412) (by decide +kernel), List.mem_of_getElem? (i := 1413) (by decide +kernel)⟩
theorem lw_p46 : lw_okq (⟨"TabledGoalsModel", "reads", "()V"⟩, 77) := ⟨⟨by decide +kernel, by decide +kernel⟩, List.mem_of_getElem? (i := 1137) (by decide +kernel), List.mem_of_getElem? (i := 1416) (by decide +kernel), List.mem_of_getElem? (i := 1417) (by decide +kernel)⟩
theorem lw_p47 : lw_okq (⟨"TabledGoalsModel", "at", "(I)I"⟩, 77) := ⟨⟨by decide +kernel, by decide +kernel⟩, List.mem_of_getElem? (i := 1137) (by decide +kernel), List.mem_of_getElem? (i := 1420) (by decide +kernel), List.mem_of_getElem? (i := 1421) (by decide +kernel)⟩
def lw_privs_3 : List (MethodName × Nat) := [(⟨"TabledGoals$Tables", "hit", "(LTabledGoals$Table;)V"⟩, 14), (⟨"TabledGoals$Tables", "add", "(I)LTabledGoals$Table;"⟩, 14), (⟨"TabledGoals$Tables", "leave", "(LTabledGoals$Table;)V"⟩, 14), (⟨"TabledGoals$Tables", "complete", "(LTabledGoals$Table;)V"⟩, 14), (⟨"TabledGoals$Tables", "putCompleted", "(II)V"⟩, 14), (⟨"TabledGoals", "needWhat", "(II)V"⟩, 9), (⟨"TabledGoals$Program", "raiseHead", "(I[I)Z"⟩, 9), (⟨"TabledGoals$Tables", "spreadOn", "(I)V"⟩, 14), (⟨"TabledGoals$Table", "nodes", "()I"⟩, 18), (⟨"TabledGoalsModel", "puts", "(I)V"⟩, 77), (⟨"TabledGoalsModel", "isFine", "(ZII)Z"⟩, 77), (⟨"TabledGoalsModel", "sign", "()I"⟩, 77), (⟨"TabledGoalsModel", "clauseRead", "()V"⟩, 77), (⟨"TabledGoalsModel", "wrong", "(II)V"⟩, 77), (⟨"TabledGoalsModel", "reads", "()V"⟩, 77), (⟨"TabledGoalsModel", "at", "(I)I"⟩, 77)]
theorem lw_r3 : ∀ q ∈ lw_privs_3, lw_okq q := List.forall_mem_cons.mpr ⟨lw_p32, List.forall_mem_cons.mpr ⟨lw_p33, List.forall_mem_cons.mpr ⟨lw_p34, List.forall_mem_cons.mpr ⟨lw_p35, List.forall_mem_cons.mpr ⟨lw_p36, List.forall_mem_cons.mpr ⟨lw_p37, List.forall_mem_cons.mpr ⟨lw_p38, List.forall_mem_cons.mpr ⟨lw_p39, List.forall_mem_cons.mpr ⟨lw_p40, List.forall_mem_cons.mpr ⟨lw_p41, List.forall_mem_cons.mpr ⟨lw_p42, List.forall_mem_cons.mpr ⟨lw_p43, List.forall_mem_cons.mpr ⟨lw_p44, List.forall_mem_cons.mpr ⟨lw_p45, List.forall_mem_cons.mpr ⟨lw_p46, List.forall_mem_cons.mpr ⟨lw_p47, fun _ h => absurd h List.not_mem_nil⟩⟩⟩⟩⟩⟩⟩⟩⟩⟩⟩⟩⟩⟩⟩⟩
theorem lw_p48 : lw_okq (⟨"TabledGoalsModel", "atomRead", "(IZZ)V"⟩, 77) := ⟨⟨by decide +kernel, by decide +kernel⟩, List.mem_of_getElem? (i := 1137) (by decide +kernel), List.mem_of_getElem? (i := 1426) (by decide +kernel), List.mem_of_getElem? (i := 1427) (by decide +kernel)⟩
theorem lw_p49 : lw_okq (⟨"TabledGoalsModel", "predicateRead", "()I"⟩, 77) := ⟨⟨by decide +kernel, by decide +kernel⟩, List.mem_of_getElem? (i := 1137) (by decide +kernel), List.mem_of_getElem? (i := 1430) (by decide +kernel), List.mem_of_getElem? (i := 1431) (by decide +kernel)⟩
theorem lw_p50 : lw_okq (⟨"TabledGoalsModel", "named", "()V"⟩, 77) := ⟨⟨by decide +kernel, by decide +kernel⟩, List.mem_of_getElem? (i := 1137) (by decide +kernel), List.mem_of_getElem? (i := 1434) (by decide +kernel), List.mem_of_getElem? (i := 1435) (by decide +kernel)⟩
theorem lw_p51 : lw_okq (⟨"TabledGoalsModel", "isNot", "()Z"⟩, 77) := ⟨⟨by decide +kernel, by decide +kernel⟩, List.mem_of_getElem? (i := 1137) (by decide +kernel), List.mem_of_getElem? (i := 1438) (by decide +kernel), List.mem_of_getElem? (i := 1439) (by decide +kernel)⟩
theorem lw_p52 : lw_okq (⟨"TabledGoalsModel", "passes", "(I)Z"⟩, 77) := ⟨⟨by decide +kernel, by decide +kernel⟩, List.mem_of_getElem? (i := 1137) (by decide +kernel), List.mem_of_getElem? (i := 1443) (by decide +kernel), List.mem_of_getElem? (i := 1444) (by decide +kernel)⟩
theorem lw_p53 : lw_okq (⟨"TabledGoalsModel", "termRead", "(Z)I"⟩, 77) := ⟨⟨by decide +kernel, by decide +kernel⟩, List.mem_of_getElem? (i := 1137) (by decide +kernel), List.mem_of_getElem? (i := 1447) (by decide +kernel), List.mem_of_getElem? (i := 1448) (by decide +kernel)⟩
theorem lw_p54 : lw_okq (⟨"TabledGoalsModel", "constant", "()I"⟩, 77) := ⟨⟨by decide +kernel, by decide +kernel⟩, List.mem_of_getElem? (i := 1137) (by decide +kernel), List.mem_of_getElem? (i := 1454) (by decide +kernel), List.mem_of_getElem? (i := 1455) (by decide +kernel)⟩
theorem lw_p55 : lw_okq (⟨"TabledGoalsModel", "variable", "()I"⟩, 77) := ⟨⟨by decide +kernel, by decide +kernel⟩, List.mem_of_getElem? (i := 1137) (by decide +kernel), List.mem_of_getElem? (i := 1458) (by decide +kernel), List.mem_of_getElem? (i := 1459) (by decide +kernel)⟩
theorem lw_p56 : lw_okq (⟨"TabledGoalsModel", "needs", "(I)V"⟩, 77) := ⟨⟨by decide +kernel, by decide +kernel⟩, List.mem_of_getElem? (i := 1137) (by decide +kernel), List.mem_of_getElem? (i := 1462) (by decide +kernel), List.mem_of_getElem? (i := 1463) (by decide +kernel)⟩
theorem lw_p57 : lw_okq (⟨"TabledGoalsModel", "literalRead", "(I)V"⟩, 77) := ⟨⟨by decide +kernel, by decide +kernel⟩, List.mem_of_getElem? (i := 1137) (by decide +kernel), List.mem_of_getElem? (i := 1466) (by decide +kernel), List.mem_of_getElem? (i := 1467) (by decide +kernel)⟩
theorem lw_p58 : lw_okq (⟨"TabledGoalsModel", "stands", "()V"⟩, 77) := ⟨⟨by decide +kernel, by decide +kernel⟩, List.mem_of_getElem? (i := 1137) (by decide +kernel), List.mem_of_getElem? (i := 1470) (by decide +kernel), List.mem_of_getElem? (i := 1471) (by decide +kernel)⟩
theorem lw_p59 : lw_okq (⟨"TabledGoalsModel", "noTables", "()V"⟩, 77) := ⟨⟨by decide +kernel, by decide +kernel⟩, List.mem_of_getElem? (i := 1137) (by decide +kernel), List.mem_of_getElem? (i := 1474) (by decide +kernel), List.mem_of_getElem? (i := 1475) (by decide +kernel)⟩
theorem lw_p60 : lw_okq (⟨"TabledGoalsModel", "isGiven", "(IIIZI)Z"⟩, 77) := ⟨⟨by decide +kernel, by decide +kernel⟩, List.mem_of_getElem? (i := 1137) (by decide +kernel), List.mem_of_getElem? (i := 1486) (by decide +kernel), List.mem_of_getElem? (i := 1487) (by decide +kernel)⟩
theorem lw_p61 : lw_okq (⟨"TabledGoalsModel", "isTerm", "(IIIZ)Z"⟩, 77) := ⟨⟨by decide +kernel, by decide +kernel⟩, List.mem_of_getElem? (i := 1137) (by decide +kernel), List.mem_of_getElem? (i := 1490) (by decide +kernel), List.mem_of_getElem? (i := 1491) (by decide +kernel)⟩
theorem lw_p62 : lw_okq (⟨"TabledGoalsModel", "isConstant", "(I)Z"⟩, 77) := ⟨⟨by decide +kernel, by decide +kernel⟩, List.mem_of_getElem? (i := 1137) (by decide +kernel), List.mem_of_getElem? (i := 1494) (by decide +kernel), List.mem_of_getElem? (i := 1495) (by decide +kernel)⟩
theorem lw_p63 : lw_okq (⟨"TabledGoalsModel", "factAt", "(III)I"⟩, 77) := ⟨⟨by decide +kernel, by decide +kernel⟩, List.mem_of_getElem? (i := 1137) (by decide +kernel), List.mem_of_getElem? (i := 1498) (by decide +kernel), List.mem_of_getElem? (i := 1499) (by decide +kernel)⟩
def lw_privs_4 : List (MethodName × Nat) := [(⟨"TabledGoalsModel", "atomRead", "(IZZ)V"⟩, 77), (⟨"TabledGoalsModel", "predicateRead", "()I"⟩, 77), (⟨"TabledGoalsModel", "named", "()V"⟩, 77), (⟨"TabledGoalsModel", "isNot", "()Z"⟩, 77), (⟨"TabledGoalsModel", "passes", "(I)Z"⟩, 77), (⟨"TabledGoalsModel", "termRead", "(Z)I"⟩, 77), (⟨"TabledGoalsModel", "constant", "()I"⟩, 77), (⟨"TabledGoalsModel", "variable", "()I"⟩, 77), (⟨"TabledGoalsModel", "needs", "(I)V"⟩, 77), (⟨"TabledGoalsModel", "literalRead", "(I)V"⟩, 77), (⟨"TabledGoalsModel", "stands", "()V"⟩, 77), (⟨"TabledGoalsModel", "noTables", "()V"⟩, 77), (⟨"TabledGoalsModel", "isGiven", "(IIIZI)Z"⟩, 77), (⟨"TabledGoalsModel", "isTerm", "(IIIZ)Z"⟩, 77), (⟨"TabledGoalsModel", "isConstant", "(I)Z"⟩, 77), (⟨"TabledGoalsModel", "factAt", "(III)I"⟩, 77)]
theorem lw_r4 : ∀ q ∈ lw_privs_4, lw_okq q := List.forall_mem_cons.mpr ⟨lw_p48, List.forall_mem_cons.mpr ⟨lw_p49, List.forall_mem_cons.mpr ⟨lw_p50, List.forall_mem_cons.mpr ⟨lw_p51, List.forall_mem_cons.mpr ⟨lw_p52, List.forall_mem_cons.mpr ⟨lw_p53, List.forall_mem_cons.mpr ⟨lw_p54, List.forall_mem_cons.mpr ⟨lw_p55, List.forall_mem_cons.mpr ⟨lw_p56, List.forall_mem_cons.mpr ⟨lw_p57, List.forall_mem_cons.mpr ⟨lw_p58, List.forall_mem_cons.mpr ⟨lw_p59, List.forall_mem_cons.mpr ⟨lw_p60, List.forall_mem_cons.mpr ⟨lw_p61, List.forall_mem_cons.mpr ⟨lw_p62, List.forall_mem_cons.mpr ⟨lw_p63, fun _ h => absurd h List.not_mem_nil⟩⟩⟩⟩⟩⟩⟩⟩⟩⟩⟩⟩⟩⟩⟩⟩
theorem lw_p64 : lw_okq (⟨"TabledGoalsModel", "literalsOf", "(I)I"⟩, 77) := ⟨⟨by decide +kernel, by decide +kernel⟩, List.mem_of_getElem? (i := 1137) (by decide +kernel), List.mem_of_getElem? (i := 1502) (by decide +kernel), List.mem_of_getElem? (i := 1503) (by decide +kernel)⟩
theorem lw_p65 : lw_okq (⟨"TabledGoalsModel", "part", "(III)I"⟩, 77) := ⟨⟨by decide +kernel, by decide +kernel⟩, List.mem_of_getElem? (i := 1137) (by decide +kernel), List.mem_of_getElem? (i := 1506) (by decide +kernel), List.mem_of_getElem? (i := 1507) (by decide +kernel)⟩
theorem lw_p66 : lw_okq (⟨"TabledGoalsModel", "stales", "(III)I"⟩, 77) := ⟨⟨by decide +kernel, by decide +kernel⟩, List.mem_of_getElem? (i := 1137) (by decide +kernel), List.mem_of_getElem? (i := 1510) (by decide +kernel), List.mem_of_getElem? (i := 1511) (by decide +kernel)⟩
theorem lw_p67 : lw_okq (⟨"TabledGoalsModel", "isLike", "(III)Z"⟩, 77) := ⟨⟨by decide +kernel, by decide +kernel⟩, List.mem_of_getElem? (i := 1137) (by decide +kernel), List.mem_of_getElem? (i := 1517) (by decide +kernel), List.mem_of_getElem? (i := 1518) (by decide +kernel)⟩
theorem lw_p68 : lw_okq (⟨"TabledGoalsModel", "callsStale", "(I)Z"⟩, 77) := ⟨⟨by decide +kernel, by decide +kernel⟩, List.mem_of_getElem? (i := 1137) (by decide +kernel), List.mem_of_getElem? (i := 1524) (by decide +kernel), List.mem_of_getElem? (i := 1525) (by decide +kernel)⟩
theorem lw_p69 : lw_okq (⟨"TabledGoalsModel", "callAt", "(II)I"⟩, 77) := ⟨⟨by decide +kernel, by decide +kernel⟩, List.mem_of_getElem? (i := 1137) (by decide +kernel), List.mem_of_getElem? (i := 1528) (by decide +kernel), List.mem_of_getElem? (i := 1529) (by decide +kernel)⟩
theorem lw_p70 : lw_okq (⟨"TabledGoalsModel", "tableFor", "(I)I"⟩, 77) := ⟨⟨by decide +kernel, by decide +kernel⟩, List.mem_of_getElem? (i := 1137) (by decide +kernel), List.mem_of_getElem? (i := 1532) (by decide +kernel), List.mem_of_getElem? (i := 1533) (by decide +kernel)⟩
theorem lw_p71 : lw_okq (⟨"TabledGoalsModel", "variant", "(III)I"⟩, 77) := ⟨⟨by decide +kernel, by decide +kernel⟩, List.mem_of_getElem? (i := 1137) (by decide +kernel), List.mem_of_getElem? (i := 1544) (by decide +kernel), List.mem_of_getElem? (i := 1545) (by decide +kernel)⟩
theorem lw_p72 : lw_okq (⟨"TabledGoalsModel", "goesInto", "(II)V"⟩, 77) := ⟨⟨by decide +kernel, by decide +kernel⟩, List.mem_of_getElem? (i := 1137) (by decide +kernel), List.mem_of_getElem? (i := 1551) (by decide +kernel), List.mem_of_getElem? (i := 1552) (by decide +kernel)⟩
theorem lw_p73 : lw_okq (⟨"TabledGoalsModel", "tableMade", "(II)I"⟩, 77) := ⟨⟨by decide +kernel, by decide +kernel⟩, List.mem_of_getElem? (i := 1137) (by decide +kernel), List.mem_of_getElem? (i := 1555) (by decide +kernel), List.mem_of_getElem? (i := 1556) (by decide +kernel)⟩
theorem lw_p74 : lw_okq (⟨"TabledGoalsModel", "laysCalls", "(I)V"⟩, 77) := ⟨⟨by decide +kernel, by decide +kernel⟩, List.mem_of_getElem? (i := 1137) (by decide +kernel), List.mem_of_getElem? (i := 1559) (by decide +kernel), List.mem_of_getElem? (i := 1560) (by decide +kernel)⟩
theorem lw_p75 : lw_okq (⟨"TabledGoalsModel", "makes", "()V"⟩, 77) := ⟨⟨by decide +kernel, by decide +kernel⟩, List.mem_of_getElem? (i := 1137) (by decide +kernel), List.mem_of_getElem? (i := 1563) (by decide +kernel), List.mem_of_getElem? (i := 1564) (by decide +kernel)⟩
theorem lw_p76 : lw_okq (⟨"TabledGoalsModel", "follows", "([Z[Z)V"⟩, 77) := ⟨⟨by decide +kernel, by decide +kernel⟩, List.mem_of_getElem? (i := 1137) (by decide +kernel), List.mem_of_getElem? (i := 1567) (by decide +kernel), List.mem_of_getElem? (i := 1568) (by decide +kernel)⟩
theorem lw_p77 : lw_okq (⟨"TabledGoalsModel", "firstInstance", "(I)Z"⟩, 77) := ⟨⟨by decide +kernel, by decide +kernel⟩, List.mem_of_getElem? (i := 1137) (by decide +kernel), List.mem_of_getElem? (i := 1571) (by decide +kernel), List.mem_of_getElem? (i := 1572) (by decide +kernel)⟩
theorem lw_p78 : lw_okq (⟨"TabledGoalsModel", "variablesOf", "(I)I"⟩, 77) := ⟨⟨by decide +kernel, by decide +kernel⟩, List.mem_of_getElem? (i := 1137) (by decide +kernel), List.mem_of_getElem? (i := 1575) (by decide +kernel), List.mem_of_getElem? (i := 1576) (by decide +kernel)⟩
theorem lw_p79 : lw_okq (⟨"TabledGoalsModel", "atomOf", "(II)I"⟩, 77) := ⟨⟨by decide +kernel, by decide +kernel⟩, List.mem_of_getElem? (i := 1137) (by decide +kernel), List.mem_of_getElem? (i := 1579) (by decide +kernel), List.mem_of_getElem? (i := 1580) (by decide +kernel)⟩
def lw_privs_5 : List (MethodName × Nat) := [(⟨"TabledGoalsModel", "literalsOf", "(I)I"⟩, 77), (⟨"TabledGoalsModel", "part", "(III)I"⟩, 77), (⟨"TabledGoalsModel", "stales", "(III)I"⟩, 77), (⟨"TabledGoalsModel", "isLike", "(III)Z"⟩, 77), (⟨"TabledGoalsModel", "callsStale", "(I)Z"⟩, 77), (⟨"TabledGoalsModel", "callAt", "(II)I"⟩, 77), (⟨"TabledGoalsModel", "tableFor", "(I)I"⟩, 77), (⟨"TabledGoalsModel", "variant", "(III)I"⟩, 77), (⟨"TabledGoalsModel", "goesInto", "(II)V"⟩, 77), (⟨"TabledGoalsModel", "tableMade", "(II)I"⟩, 77), (⟨"TabledGoalsModel", "laysCalls", "(I)V"⟩, 77), (⟨"TabledGoalsModel", "makes", "()V"⟩, 77), (⟨"TabledGoalsModel", "follows", "([Z[Z)V"⟩, 77), (⟨"TabledGoalsModel", "firstInstance", "(I)Z"⟩, 77), (⟨"TabledGoalsModel", "variablesOf", "(I)I"⟩, 77), (⟨"TabledGoalsModel", "atomOf", "(II)I"⟩, 77)]
theorem lw_r5 : ∀ q ∈ lw_privs_5, lw_okq q := List.forall_mem_cons.mpr ⟨lw_p64, List.forall_mem_cons.mpr ⟨lw_p65, List.forall_mem_cons.mpr ⟨lw_p66, List.forall_mem_cons.mpr ⟨lw_p67, List.forall_mem_cons.mpr ⟨lw_p68, List.forall_mem_cons.mpr ⟨lw_p69, List.forall_mem_cons.mpr ⟨lw_p70, List.forall_mem_cons.mpr ⟨lw_p71, List.forall_mem_cons.mpr ⟨lw_p72, List.forall_mem_cons.mpr ⟨lw_p73, List.forall_mem_cons.mpr ⟨lw_p74, List.forall_mem_cons.mpr ⟨lw_p75, List.forall_mem_cons.mpr ⟨lw_p76, List.forall_mem_cons.mpr ⟨lw_p77, List.forall_mem_cons.mpr ⟨lw_p78, List.forall_mem_cons.mpr ⟨lw_p79, fun _ h => absurd h List.not_mem_nil⟩⟩⟩⟩⟩⟩⟩⟩⟩⟩⟩⟩⟩⟩⟩⟩
theorem lw_p80 : lw_okq (⟨"TabledGoalsModel", "term", "(I)I"⟩, 77) := ⟨⟨by decide +kernel, by decide +kernel⟩, List.mem_of_getElem? (i := 1137) (by decide +kernel), List.mem_of_getElem? (i := 1583) (by decide +kernel), List.mem_of_getElem? (i := 1584) (by decide +kernel)⟩
theorem lw_p81 : lw_okq (⟨"TabledGoalsModel", "holds", "(I[Z[Z)Z"⟩, 77) := ⟨⟨by decide +kernel, by decide +kernel⟩, List.mem_of_getElem? (i := 1137) (by decide +kernel), List.mem_of_getElem? (i := 1590) (by decide +kernel), List.mem_of_getElem? (i := 1591) (by decide +kernel)⟩
theorem lw_p82 : lw_okq (⟨"TabledGoalsModel", "nextInstance", "(I)Z"⟩, 77) := ⟨⟨by decide +kernel, by decide +kernel⟩, List.mem_of_getElem? (i := 1137) (by decide +kernel), List.mem_of_getElem? (i := 1594) (by decide +kernel), List.mem_of_getElem? (i := 1595) (by decide +kernel)⟩
theorem lw_p83 : lw_okq (⟨"TabledGoalsModel", "marks", "(I)V"⟩, 77) := ⟨⟨by decide +kernel, by decide +kernel⟩, List.mem_of_getElem? (i := 1137) (by decide +kernel), List.mem_of_getElem? (i := 1598) (by decide +kernel), List.mem_of_getElem? (i := 1599) (by decide +kernel)⟩
theorem lw_p84 : lw_okq (⟨"TabledGoalsModel", "meets", "(II)Z"⟩, 77) := ⟨⟨by decide +kernel, by decide +kernel⟩, List.mem_of_getElem? (i := 1137) (by decide +kernel), List.mem_of_getElem? (i := 1602) (by decide +kernel), List.mem_of_getElem? (i := 1603) (by decide +kernel)⟩
theorem lw_p85 : lw_okq (⟨"TabledGoalsModel", "becomes", "(II)Z"⟩, 77) := ⟨⟨by decide +kernel, by decide +kernel⟩, List.mem_of_getElem? (i := 1137) (by decide +kernel), List.mem_of_getElem? (i := 1606) (by decide +kernel), List.mem_of_getElem? (i := 1607) (by decide +kernel)⟩
theorem lw_p86 : lw_okq (⟨"TabledGoalsModel", "root", "(I)I"⟩, 77) := ⟨⟨by decide +kernel, by decide +kernel⟩, List.mem_of_getElem? (i := 1137) (by decide +kernel), List.mem_of_getElem? (i := 1610) (by decide +kernel), List.mem_of_getElem? (i := 1611) (by decide +kernel)⟩
theorem lw_p87 : lw_okq (⟨"TabledGoalsModel", "joins", "(II)Z"⟩, 77) := ⟨⟨by decide +kernel, by decide +kernel⟩, List.mem_of_getElem? (i := 1137) (by decide +kernel), List.mem_of_getElem? (i := 1614) (by decide +kernel), List.mem_of_getElem? (i := 1615) (by decide +kernel)⟩
theorem lw_p88 : lw_okq (⟨"TabledGoalsModel", "goesOn", "(II)V"⟩, 77) := ⟨⟨by decide +kernel, by decide +kernel⟩, List.mem_of_getElem? (i := 1137) (by decide +kernel), List.mem_of_getElem? (i := 1620) (by decide +kernel), List.mem_of_getElem? (i := 1621) (by decide +kernel)⟩
theorem lw_p89 : lw_okq (⟨"TabledGoalsModel", "now", "(I)I"⟩, 77) := ⟨⟨by decide +kernel, by decide +kernel⟩, List.mem_of_getElem? (i := 1137) (by decide +kernel), List.mem_of_getElem? (i := 1624) (by decide +kernel), List.mem_of_getElem? (i := 1625) (by decide +kernel)⟩
theorem lw_p90 : lw_okq (⟨"TabledGoalsModel", "comes", "(IZ)V"⟩, 77) := ⟨⟨by decide +kernel, by decide +kernel⟩, List.mem_of_getElem? (i := 1137) (by decide +kernel), List.mem_of_getElem? (i := 1628) (by decide +kernel), List.mem_of_getElem? (i := 1629) (by decide +kernel)⟩
theorem lw_p91 : lw_okq (⟨"TabledGoalsModel", "valueAt", "(I)I"⟩, 77) := ⟨⟨by decide +kernel, by decide +kernel⟩, List.mem_of_getElem? (i := 1137) (by decide +kernel), List.mem_of_getElem? (i := 1632) (by decide +kernel), List.mem_of_getElem? (i := 1633) (by decide +kernel)⟩
theorem lw_p92 : lw_okq (⟨"TabledGoalsModel", "isAtom", "(III)Z"⟩, 77) := ⟨⟨by decide +kernel, by decide +kernel⟩, List.mem_of_getElem? (i := 1137) (by decide +kernel), List.mem_of_getElem? (i := 1636) (by decide +kernel), List.mem_of_getElem? (i := 1637) (by decide +kernel)⟩
theorem lw_p93 : lw_okq (⟨"TabledGoalsModel", "goesThrough", "()V"⟩, 77) := ⟨⟨by decide +kernel, by decide +kernel⟩, List.mem_of_getElem? (i := 1137) (by decide +kernel), List.mem_of_getElem? (i := 1640) (by decide +kernel), List.mem_of_getElem? (i := 1641) (by decide +kernel)⟩
theorem lw_p94 : lw_okq (⟨"TabledGoalsModel", "completes", "()V"⟩, 77) := ⟨⟨by decide +kernel, by decide +kernel⟩, List.mem_of_getElem? (i := 1137) (by decide +kernel), List.mem_of_getElem? (i := 1644) (by decide +kernel), List.mem_of_getElem? (i := 1645) (by decide +kernel)⟩
theorem lw_p95 : lw_okq (⟨"TabledGoalsModel", "leads", "()V"⟩, 77) := ⟨⟨by decide +kernel, by decide +kernel⟩, List.mem_of_getElem? (i := 1137) (by decide +kernel), List.mem_of_getElem? (i := 1648) (by decide +kernel), List.mem_of_getElem? (i := 1649) (by decide +kernel)⟩
def lw_privs_6 : List (MethodName × Nat) := [(⟨"TabledGoalsModel", "term", "(I)I"⟩, 77), (⟨"TabledGoalsModel", "holds", "(I[Z[Z)Z"⟩, 77), (⟨"TabledGoalsModel", "nextInstance", "(I)Z"⟩, 77), (⟨"TabledGoalsModel", "marks", "(I)V"⟩, 77), (⟨"TabledGoalsModel", "meets", "(II)Z"⟩, 77), (⟨"TabledGoalsModel", "becomes", "(II)Z"⟩, 77), (⟨"TabledGoalsModel", "root", "(I)I"⟩, 77), (⟨"TabledGoalsModel", "joins", "(II)Z"⟩, 77), (⟨"TabledGoalsModel", "goesOn", "(II)V"⟩, 77), (⟨"TabledGoalsModel", "now", "(I)I"⟩, 77), (⟨"TabledGoalsModel", "comes", "(IZ)V"⟩, 77), (⟨"TabledGoalsModel", "valueAt", "(I)I"⟩, 77), (⟨"TabledGoalsModel", "isAtom", "(III)Z"⟩, 77), (⟨"TabledGoalsModel", "goesThrough", "()V"⟩, 77), (⟨"TabledGoalsModel", "completes", "()V"⟩, 77), (⟨"TabledGoalsModel", "leads", "()V"⟩, 77)]
theorem lw_r6 : ∀ q ∈ lw_privs_6, lw_okq q := List.forall_mem_cons.mpr ⟨lw_p80, List.forall_mem_cons.mpr ⟨lw_p81, List.forall_mem_cons.mpr ⟨lw_p82, List.forall_mem_cons.mpr ⟨lw_p83, List.forall_mem_cons.mpr ⟨lw_p84, List.forall_mem_cons.mpr ⟨lw_p85, List.forall_mem_cons.mpr ⟨lw_p86, List.forall_mem_cons.mpr ⟨lw_p87, List.forall_mem_cons.mpr ⟨lw_p88, List.forall_mem_cons.mpr ⟨lw_p89, List.forall_mem_cons.mpr ⟨lw_p90, List.forall_mem_cons.mpr ⟨lw_p91, List.forall_mem_cons.mpr ⟨lw_p92, List.forall_mem_cons.mpr ⟨lw_p93, List.forall_mem_cons.mpr ⟨lw_p94, List.forall_mem_cons.mpr ⟨lw_p95, fun _ h => absurd h List.not_mem_nil⟩⟩⟩⟩⟩⟩⟩⟩⟩⟩⟩⟩⟩⟩⟩⟩
theorem lw_p96 : lw_okq (⟨"TabledGoalsModel", "spreads", "(I)V"⟩, 77) := ⟨⟨by decide +kernel, by decide +kernel⟩, List.mem_of_getElem? (i := 1137) (by decide +kernel), List.mem_of_getElem? (i := 1652) (by decide +kernel), List.mem_of_getElem? (i := 1653) (by decide +kernel)⟩
theorem lw_p97 : lw_okq (⟨"TabledGoalsModel", "wasLeft", "(I)Z"⟩, 77) := ⟨⟨by decide +kernel, by decide +kernel⟩, List.mem_of_getElem? (i := 1137) (by decide +kernel), List.mem_of_getElem? (i := 1656) (by decide +kernel), List.mem_of_getElem? (i := 1657) (by decide +kernel)⟩
theorem lw_p98 : lw_okq (⟨"TabledGoalsModel", "factMany", "()I"⟩, 77) := ⟨⟨by decide +kernel, by decide +kernel⟩, List.mem_of_getElem? (i := 1137) (by decide +kernel), List.mem_of_getElem? (i := 1668) (by decide +kernel), List.mem_of_getElem? (i := 1669) (by decide +kernel)⟩
theorem lw_p99 : lw_okq (⟨"TabledGoalsModel", "freshMany", "()I"⟩, 77) := ⟨⟨by decide +kernel, by decide +kernel⟩, List.mem_of_getElem? (i := 1137) (by decide +kernel), List.mem_of_getElem? (i := 1672) (by decide +kernel), List.mem_of_getElem? (i := 1673) (by decide +kernel)⟩
theorem lw_p100 : lw_okq (⟨"TabledGoalsModel", "allAtoms", "(I)I"⟩, 77) := ⟨⟨by decide +kernel, by decide +kernel⟩, List.mem_of_getElem? (i := 1137) (by decide +kernel), List.mem_of_getElem? (i := 1676) (by decide +kernel), List.mem_of_getElem? (i := 1677) (by decide +kernel)⟩
theorem lw_p101 : lw_okq (⟨"TabledGoalsModel", "atomsOf", "(II)I"⟩, 77) := ⟨⟨by decide +kernel, by decide +kernel⟩, List.mem_of_getElem? (i := 1137) (by decide +kernel), List.mem_of_getElem? (i := 1680) (by decide +kernel), List.mem_of_getElem? (i := 1681) (by decide +kernel)⟩
theorem lw_p102 : lw_okq (⟨"TabledGoalsModel", "layers", "()V"⟩, 77) := ⟨⟨by decide +kernel, by decide +kernel⟩, List.mem_of_getElem? (i := 1137) (by decide +kernel), List.mem_of_getElem? (i := 1688) (by decide +kernel), List.mem_of_getElem? (i := 1689) (by decide +kernel)⟩
theorem lw_p103 : lw_okq (⟨"TabledGoalsModel", "headMany", "(I)I"⟩, 77) := ⟨⟨by decide +kernel, by decide +kernel⟩, List.mem_of_getElem? (i := 1137) (by decide +kernel), List.mem_of_getElem? (i := 1692) (by decide +kernel), List.mem_of_getElem? (i := 1693) (by decide +kernel)⟩
theorem lw_p104 : lw_okq (⟨"TabledGoalsModel", "isTable", "(I)Z"⟩, 77) := ⟨⟨by decide +kernel, by decide +kernel⟩, List.mem_of_getElem? (i := 1137) (by decide +kernel), List.mem_of_getElem? (i := 1727) (by decide +kernel), List.mem_of_getElem? (i := 1728) (by decide +kernel)⟩
theorem lw_p105 : lw_okq (⟨"TabledGoalsModel", "answersOf", "(II)I"⟩, 77) := ⟨⟨by decide +kernel, by decide +kernel⟩, List.mem_of_getElem? (i := 1137) (by decide +kernel), List.mem_of_getElem? (i := 1731) (by decide +kernel), List.mem_of_getElem? (i := 1732) (by decide +kernel)⟩
theorem lw_p106 : lw_okq (⟨"TabledGoalsModel", "nodes", "(I)I"⟩, 77) := ⟨⟨by decide +kernel, by decide +kernel⟩, List.mem_of_getElem? (i := 1137) (by decide +kernel), List.mem_of_getElem? (i := 1735) (by decide +kernel), List.mem_of_getElem? (i := 1736) (by decide +kernel)⟩
theorem lw_p107 : lw_okq (⟨"TabledGoalsModel", "leaderOf", "(I)I"⟩, 77) := ⟨⟨by decide +kernel, by decide +kernel⟩, List.mem_of_getElem? (i := 1137) (by decide +kernel), List.mem_of_getElem? (i := 1739) (by decide +kernel), List.mem_of_getElem? (i := 1740) (by decide +kernel)⟩
theorem lw_p108 : lw_okq (⟨"TabledGoalsModel", "callers", "(I)I"⟩, 77) := ⟨⟨by decide +kernel, by decide +kernel⟩, List.mem_of_getElem? (i := 1137) (by decide +kernel), List.mem_of_getElem? (i := 1743) (by decide +kernel), List.mem_of_getElem? (i := 1744) (by decide +kernel)⟩
theorem lw_p109 : lw_okq (⟨"TabledGoalsModel", "seeks", "(II)V"⟩, 77) := ⟨⟨by decide +kernel, by decide +kernel⟩, List.mem_of_getElem? (i := 1137) (by decide +kernel), List.mem_of_getElem? (i := 1763) (by decide +kernel), List.mem_of_getElem? (i := 1764) (by decide +kernel)⟩
theorem lw_p110 : lw_okq (⟨"TabledGoalsModel", "isCondition", "(I)Z"⟩, 77) := ⟨⟨by decide +kernel, by decide +kernel⟩, List.mem_of_getElem? (i := 1137) (by decide +kernel), List.mem_of_getElem? (i := 1767) (by decide +kernel), List.mem_of_getElem? (i := 1768) (by decide +kernel)⟩
theorem lw_p111 : lw_okq (⟨"TabledGoalsModel", "valueOf", "(II)I"⟩, 77) := ⟨⟨by decide +kernel, by decide +kernel⟩, List.mem_of_getElem? (i := 1137) (by decide +kernel), List.mem_of_getElem? (i := 1771) (by decide +kernel), List.mem_of_getElem? (i := 1772) (by decide +kernel)⟩
def lw_privs_7 : List (MethodName × Nat) := [(⟨"TabledGoalsModel", "spreads", "(I)V"⟩, 77), (⟨"TabledGoalsModel", "wasLeft", "(I)Z"⟩, 77), (⟨"TabledGoalsModel", "factMany", "()I"⟩, 77), (⟨"TabledGoalsModel", "freshMany", "()I"⟩, 77), (⟨"TabledGoalsModel", "allAtoms", "(I)I"⟩, 77), (⟨"TabledGoalsModel", "atomsOf", "(II)I"⟩, 77), (⟨"TabledGoalsModel", "layers", "()V"⟩, 77), (⟨"TabledGoalsModel", "headMany", "(I)I"⟩, 77), (⟨"TabledGoalsModel", "isTable", "(I)Z"⟩, 77), (⟨"TabledGoalsModel", "answersOf", "(II)I"⟩, 77), (⟨"TabledGoalsModel", "nodes", "(I)I"⟩, 77), (⟨"TabledGoalsModel", "leaderOf", "(I)I"⟩, 77), (⟨"TabledGoalsModel", "callers", "(I)I"⟩, 77), (⟨"TabledGoalsModel", "seeks", "(II)V"⟩, 77), (⟨"TabledGoalsModel", "isCondition", "(I)Z"⟩, 77), (⟨"TabledGoalsModel", "valueOf", "(II)I"⟩, 77)]
theorem lw_r7 : ∀ q ∈ lw_privs_7, lw_okq q := List.forall_mem_cons.mpr ⟨lw_p96, List.forall_mem_cons.mpr ⟨lw_p97, List.forall_mem_cons.mpr ⟨lw_p98, List.forall_mem_cons.mpr ⟨lw_p99, List.forall_mem_cons.mpr ⟨lw_p100, List.forall_mem_cons.mpr ⟨lw_p101, List.forall_mem_cons.mpr ⟨lw_p102, List.forall_mem_cons.mpr ⟨lw_p103, List.forall_mem_cons.mpr ⟨lw_p104, List.forall_mem_cons.mpr ⟨lw_p105, List.forall_mem_cons.mpr ⟨lw_p106, List.forall_mem_cons.mpr ⟨lw_p107, List.forall_mem_cons.mpr ⟨lw_p108, List.forall_mem_cons.mpr ⟨lw_p109, List.forall_mem_cons.mpr ⟨lw_p110, List.forall_mem_cons.mpr ⟨lw_p111, fun _ h => absurd h List.not_mem_nil⟩⟩⟩⟩⟩⟩⟩⟩⟩⟩⟩⟩⟩⟩⟩⟩
theorem lw_p112 : lw_okq (⟨"TabledGoalsModel", "lays", "(I)V"⟩, 77) := ⟨⟨by decide +kernel, by decide +kernel⟩, List.mem_of_getElem? (i := 1137) (by decide +kernel), List.mem_of_getElem? (i := 1775) (by decide +kernel), List.mem_of_getElem? (i := 1776) (by decide +kernel)⟩
def lw_privs_8 : List (MethodName × Nat) := [(⟨"TabledGoalsModel", "lays", "(I)V"⟩, 77)]
theorem lw_r8 : ∀ q ∈ lw_privs_8, lw_okq q := List.forall_mem_cons.mpr ⟨lw_p112, fun _ h => absurd h List.not_mem_nil⟩
def lw_privs : List (MethodName × Nat) := lw_privs_1 ++ (lw_privs_2 ++ (lw_privs_3 ++ (lw_privs_4 ++ (lw_privs_5 ++ (lw_privs_6 ++ (lw_privs_7 ++ (lw_privs_8)))))))
def lw_tbl : List Cond := k2_sels lw_privs ++ tables_1
theorem lw_privs_ok : ∀ q ∈ lw_privs, lw_okq q := by
  show ∀ q ∈ lw_privs_1 ++ (lw_privs_2 ++ (lw_privs_3 ++ (lw_privs_4 ++ (lw_privs_5 ++ (lw_privs_6 ++ (lw_privs_7 ++ (lw_privs_8))))))), lw_okq q
  exact List.forall_mem_append.mpr ⟨lw_r1, List.forall_mem_append.mpr ⟨lw_r2, List.forall_mem_append.mpr ⟨lw_r3, List.forall_mem_append.mpr ⟨lw_r4, List.forall_mem_append.mpr ⟨lw_r5, List.forall_mem_append.mpr ⟨lw_r6, List.forall_mem_append.mpr ⟨lw_r7, lw_r8⟩⟩⟩⟩⟩⟩⟩
end
section
/-! ===== BEGIN words of one list among another's, by their places ===== -/
theorem goodIn_r {big : List Cond} (ws : List Cond) (ps : List Nat) (hp : ws = ps.filterMap (fun i => big[i]?)) (h : ws.all goodWord = true) : GoodIn big ws := by
  intro w hw
  have h1 := List.all_eq_true.mp h w hw
  rw [hp] at hw
  obtain ⟨i, -, hi⟩ := List.mem_filterMap.mp hw
  have hm : w ∈ big := by first | exact List.mem_of_getElem? hi | exact List.getElem?_mem hi
  exact ⟨hm, good_of_word h1⟩
theorem goodIn_app {big a b : List Cond} (ha : GoodIn big a) (hb : GoodIn big b) : GoodIn big (a ++ b) := fun w h => (List.mem_append.mp h).elim (ha w) (hb w)
theorem goodIn_ca {big a b : List Cond} {c : Cond} (ha : GoodIn big (c :: a)) (hb : GoodIn big b) : GoodIn big (c :: (a ++ b)) := fun w h => (List.mem_cons.mp h).elim (fun e => ha w (List.mem_cons.mpr (Or.inl e))) (fun h => (List.mem_append.mp h).elim (fun h => ha w (List.mem_cons.mpr (Or.inr h))) (hb w))
theorem goodIn_sub {big ws : List Cond} (hm : ∀ w ∈ ws, w ∈ big) (h : ws.all goodWord = true) : GoodIn big ws := fun w hw => ⟨hm w hw, good_of_word (List.all_eq_true.mp h w hw)⟩
/-! ===== END ===== -/

/-! ===== BEGIN exceptions that leave a method, and their catching by the caller (launches without stack traces) ===== -/
section VXA
/-! The laws vx_back, vx_callV, vx_callS, vx_callSW, vx_throw0, vx_throwS follow proofs of the library, with one case more: JvmDerived/Free/Laws.lean (Back.of_free), Shelf42/LK1.lean (callV, callS), Shelf/KitTraced.lean (throwNew0V, throwNewS). -/
/-- where a method has thrown q: the class by its name, the cell, what was written, the world -/
def vx_T (XC : String → State → State → Prop) (st : State) (q : Addr) (t : State) (mc ms : Nat) (free : Addr → Prop) : Prop :=
  ∃ (E : String) (ce : Cell) (L : List Loc), XC E st t ∧ t.heap[q]? = some ce ∧ ce.vm = .none ∧ st.vm.findClass E = some ce.cls ∧ st.WarmedH t.vm ∧ st.sameButNew ({ t with vm := st.vm } : State) L mc ms ∧ ∀ z ∈ L, free z.base
def vx_Q (Qc : Array Value → State → Outcome → State → Prop) (XC : String → State → State → Prop) (mc ms : Nat) (free : Addr → Prop) : Array Value → State → Outcome → State → Prop := fun a st o t =>
  (Qc a st o t ∧ ∃ L, FrameEnd st o t L mc ms ∧ ∀ q ∈ L, free q.base) ∨ ∃ q, o = .threw q ∧ vx_T XC st q t mc ms free
/-- a callee that returns or throws -/
def vx_Met (l : Launch) (y : MethodName) (ws : List Cond) (rm : Room) (Pc : Array Value → State → Prop) (Qc : Array Value → State → Outcome → State → Prop) (XC : String → State → State → Prop) (mc ms : Nat) (free : Addr → Prop) : Prop :=
  MetFree l y (headSpec ws rm) Pc (fun _ _ _ _ _ => True) (vx_Q Qc XC mc ms free)
def vx_Post (XC : String → State → State → Prop) (mc ms : Nat) (free : Addr → Prop) : Pt → Array Value → Addr → Pt → Prop := fun A a q B =>
  ∃ (g : JFrame) (mk : MethodId) (t : State) (L : List Loc) (E : String) (ce : Cell), B.U.heap = t.heap ∧ B.U.vm = t.vm ∧ XC E (A.U.calling g mk a) t ∧ t.heap[q]? = some ce ∧ ce.vm = .none ∧ A.U.vm.findClass E = some ce.cls ∧ B.locs = A.locs ++ L ∧ (∀ z ∈ L, free z.base) ∧ B.cells = A.cells + mc ∧ B.slots = A.slots + ms
def vx_Back (l : Launch) (R : Room) (p : Program) (e : Env) (below : List Frame) (s : State) (sargs : Array Value) (y : MethodName) (len W9 : Nat)
    (Pre : Pt → Array Value → Prop) (Post : Pt → Array Value → Option Value → Pt → Prop) (PostX : Pt → Array Value → Addr → Pt → Prop) : Prop :=
  ∀ (m : MethodId) (meth : Method) (c : Code) (A : Pt) (g : JFrame) (ig : Instr) (mk : MethodId) (a : Array Value),
    Stand p l e R s m sargs below meth c A.U A.locs A.cells A.slots → g.method = m → g.locals.size = c.maxLocals → decode c.code g.pc = .ok (ig, len) →
    2 * g.monitorRoom + (g.stack.map fun v => v.category).sum ≤ W9 → A.U.methodNamed? y = some mk → Pre A a →
    (∃ (v : Option Value) (B : Pt), Stand p l e R s m sargs below meth c B.U B.locs B.cells B.slots ∧ Post A a v B ∧
      Steps p.tables e below (doInvoke e (A.U.setTop g) [] mk a).1 (B.U.setTop { g with pc := g.pc + len, stack := v.toList ++ g.stack })) ∨
    (∃ (q : Addr) (B : Pt), Stand p l e R s m sargs below meth c B.U B.locs B.cells B.slots ∧ PostX A a q B ∧
      Steps p.tables e below (doInvoke e (A.U.setTop g) [] mk a).1 ((B.U.setTop g).pushFrame (.throwing q)))
section Payer
variable {l : Launch} {R : Room} {p : Program} {e : Env} {below : List Frame} {s : State} {sargs : Array Value} {y : MethodName} {len W9 : Nat}
theorem vx_back {ws : List Cond} {rm : Room} {Pc : Array Value → State → Prop} {Qc : Array Value → State → Outcome → State → Prop} {XC : String → State → State → Prop} {mc ms : Nat} {free : Addr → Prop} {bytes : ByteArray} {maxL : Nat} {ret : Option FieldType}
    (hM : vx_Met l y ws rm Pc Qc XC mc ms free) (hblind : FrameBlind Pc) (hrc : rm.cells = mc) (hrs : rm.slots = ms)
    (hframes : rm.frames + 1 ≤ R.frames) (hlocals : W9 + (maxL + 11) + rm.locals ≤ R.locals)
    (hws : ∀ w ∈ ws, ∀ a' U, s.WarmedH U.vm → w.before a' U = true) (hcode : Cond.code y bytes maxL ret ∈ ws) (hinit : ∀ a' U, s.WarmedH U.vm → (Cond.initialized y.cls).before a' U = true) :
    vx_Back l R p e below s sargs y len W9 (PreOf R mc ms Pc) (PostOf Qc mc ms free) (vx_Post XC mc ms free) := by
  intro m meth c A g ig mk a X hg hsize hdg hW hn hp
  have h1 : (headSpec ws rm).pre.before a A.U = true := atoms_intro fun w hw => hws w hw _ _ X.warmed
  have h2 : (Cond.code y bytes maxL ret).before a A.U = true := hws _ hcode _ _ X.warmed
  have h3 : (Cond.initialized y.cls).before a A.U = true := hinit _ _ X.warmed
  have h4 : A.cells + (headSpec ws rm).room.cells ≤ R.cells := by rw [show (headSpec ws rm).room.cells = mc from hrc]; exact hp.1
  have h5 : A.slots + (headSpec ws rm).room.slots ≤ R.slots := by rw [show (headSpec ws rm).room.slots = ms from hrs]; exact hp.2.1
  have hPc : Pc a (A.U.calling g mk a) := hblind _ _ _ _ hp.2.2
  obtain ⟨U, Ls, c0, s0⟩ := A
  dsimp only [Pt.U, Pt.locs, Pt.cells, Pt.slots] at h1 h2 h3 h4 h5 X hn hPc ⊢
  obtain ⟨methY, cY, hmY, hcY, -, hlY, -, -, -, -⟩ := Cond.code_spec hn h2
  obtain ⟨kY, hkY, -⟩ := className_of_methodNamed hn
  have hinitY : kY.init = .initialized := Cond.initialized_spec (findClass_of_methodNamed hn) hkY h3
  have h : At U g.method c below := by rw [hg]; exact X.here
  have hlocals9 : W9 + (maxL + 11) + (headSpec ws rm).room.locals ≤ R.locals := hlocals
  have happ : (headSpec ws rm).appliesLoose y e.platform (U.calling g mk a) = true :=
    Spec.appliesLoose_calling (g := g) h hdg hn hkY hinitY
      (X.room_calling (g := g) (R' := (headSpec ws rm).room) hsize hmY hcY hframes (by rw [hlY]; omega) h4 h5) h1
  obtain ⟨mid, hmid⟩ := h.above
  have hfr : (U.setTop g).frames = (.java g :: mid) ++ below := by rw [State.frames_setTop' g h.top, hmid]; rfl
  obtain ⟨o, s₂, hsteps, -, hend, hq⟩ := Steps.callFree hM p X.admits X.cas X.clock (acts := []) hfr happ hPc trivial
  have hq' : vx_Q Qc XC mc ms free a (U.calling g mk a) o s₂ := hq
  rw [State.frames_setTop' g h.top] at hend
  obtain ⟨g₀, hg0⟩ := Option.isSome_iff_exists.mp h.top
  obtain ⟨r, hr⟩ := State.topJava?_eq_some.mp hg0
  have hr' : (({ U with heap := s₂.heap, slotsUsed := s₂.slotsUsed } : State).setVm s₂.vm).frames = .java g₀ :: r := hr
  rcases hq' with ⟨hqc, L, hfe, hL⟩ | ⟨q, rfl, E, ce, L, hx, hce, hcv, hcl, hW₂, hsm, hL⟩
  · obtain ⟨⟨v, rfl⟩, hW₂, e2, q2, q3, q4, q5, q6⟩ := id hfe
    have e3 : s₂ = ({ (U.calling g mk a).setFrames s₂.frames with heap := s₂.heap, slotsUsed := s₂.slotsUsed } : State).setVm s₂.vm := by
      have : s₂ = ({ s₂ with vm := (U.calling g mk a).vm } : State).setVm s₂.vm := rfl
      rw [e2] at this
      exact this
    obtain ⟨c₂, i₂, len₂, hc₂, hd₂, hf₂⟩ := hend
    have hW' : U.WarmedH s₂.vm := hW₂
    have hcc : c₂ = c := by
      have h1 : s₂.code? g.method = U.code? g.method := by
        rw [State.code?_eq, State.code?_eq, hW'.alike.method?]
      exact Option.some.inj (hc₂.symm.trans (h1.trans h.code))
    subst hcc
    have hlen : len₂ = len := by rw [hdg] at hd₂; cases hd₂; rfl
    subst hlen
    have hs₂ : s₂ = (({ U with heap := s₂.heap, slotsUsed := s₂.slotsUsed } : State).setVm s₂.vm).setTop { g with pc := g.pc + len₂, stack := v.toList ++ g.stack } := by
      refine e3.trans ?_
      rw [hf₂, State.calling_eq h.top, State.setFrames_setFrames, State.setTop_of_frames _ hr', hr]
      rfl
    have hsame : U.sameButNew ({ U with heap := s₂.heap, slotsUsed := s₂.slotsUsed } : State) L mc ms := by
      refine ⟨?_, q2, q3, q4, q5, q6⟩
      obtain ⟨t, ht, -⟩ := State.frames_cons hr
      show ({ U with heap := s₂.heap, slotsUsed := s₂.slotsUsed } : State) = { U.setFrames U.frames with heap := s₂.heap, slotsUsed := s₂.slotsUsed }
      rw [State.setFrames_self ht]
    subst hg
    refine Or.inl ⟨v, ⟨(({ U with heap := s₂.heap, slotsUsed := s₂.slotsUsed } : State).setVm s₂.vm), Ls ++ L, c0 + mc, s0 + ms⟩,
      ⟨X.admits, X.cas, X.clock, X.frames, X.room, X.hears, X.method, X.code, (X.here.setHeapUsed s₂.heap s₂.slotsUsed).setVm hW'.alike, X.tail, State.WarmedH.trans X.warmed hW', X.limits, X.bytes, X.same.trans (hsame.setVm s.vm)⟩,
      ⟨g, mk, s₂, L, rfl, rfl, hqc, rfl, hL, rfl, rfl⟩, ?_⟩
    show Steps p.tables e below _ ((({ U with heap := s₂.heap, slotsUsed := s₂.slotsUsed } : State).setVm s₂.vm).setTop { g with pc := g.pc + len₂, stack := v.toList ++ g.stack })
    rw [← hs₂]
    exact hsteps
  · obtain ⟨e2, q2, q3, q4, q5, q6⟩ := id hsm
    have e3 : s₂ = ({ (U.calling g mk a).setFrames s₂.frames with heap := s₂.heap, slotsUsed := s₂.slotsUsed } : State).setVm s₂.vm := by
      have : s₂ = ({ s₂ with vm := (U.calling g mk a).vm } : State).setVm s₂.vm := rfl
      rw [e2] at this
      exact this
    have hf₂ : s₂.frames = .throwing q :: .java g :: U.frames.tail := hend
    have hW' : U.WarmedH s₂.vm := hW₂
    have hs₂ : s₂ = ((({ U with heap := s₂.heap, slotsUsed := s₂.slotsUsed } : State).setVm s₂.vm).setTop g).pushFrame (.throwing q) := by
      refine e3.trans ?_
      rw [hf₂, State.calling_eq h.top, State.setFrames_setFrames, State.pushFrame, State.frames_setTop _ hr', State.setTop_of_frames _ hr', State.setFrames_setFrames, hr]
      rfl
    have hsame : U.sameButNew ({ U with heap := s₂.heap, slotsUsed := s₂.slotsUsed } : State) L mc ms := by
      refine ⟨?_, q2, q3, q4, q5, q6⟩
      obtain ⟨t, ht, -⟩ := State.frames_cons hr
      show ({ U with heap := s₂.heap, slotsUsed := s₂.slotsUsed } : State) = { U.setFrames U.frames with heap := s₂.heap, slotsUsed := s₂.slotsUsed }
      rw [State.setFrames_self ht]
    subst hg
    refine Or.inr ⟨q, ⟨(({ U with heap := s₂.heap, slotsUsed := s₂.slotsUsed } : State).setVm s₂.vm), Ls ++ L, c0 + mc, s0 + ms⟩,
      ⟨X.admits, X.cas, X.clock, X.frames, X.room, X.hears, X.method, X.code, (X.here.setHeapUsed s₂.heap s₂.slotsUsed).setVm hW'.alike, X.tail, State.WarmedH.trans X.warmed hW', X.limits, X.bytes, X.same.trans (hsame.setVm s.vm)⟩,
      ⟨g, mk, s₂, L, E, ce, rfl, rfl, hx, hce, hcv, hcl, rfl, hL, rfl, rfl⟩, ?_⟩
    show Steps p.tables e below _ (((({ U with heap := s₂.heap, slotsUsed := s₂.slotsUsed } : State).setVm s₂.vm).setTop g).pushFrame (.throwing q))
    rw [← hs₂]
    exact hsteps
end Payer
section Calls
variable {p : Program} {l : Launch} {e : Env} {R : Room} {s : State} {m : MethodId} {args : Array Value} {below : List Frame} {meth : Method} {c : Code} {T : State} {locs : List Loc} {cells slots : Nat}
theorem vx_callV (X : Stand p l e R s m args below meth c T locs cells slots) (hexec : p.tables.exec = Jvm.exec) {own C : String} {index : Nat} {y : MethodName} {bytes : ByteArray} {maxL : Nat} {ret : Option FieldType}
    (hown : s.vm.findClass own = some m.cls) (hlink : (Cond.methodLink own index y).before args s = true) (hinst : (Cond.instanceMethod y).before args s = true) (hsel : (Cond.selects C y y).before args s = true)
    (hcode : (Cond.code y bytes maxL ret).before args s = true) (hy : y.cls ≠ "java/lang/invoke/MethodHandle" ∧ y.cls ≠ "java/lang/invoke/VarHandle")
    {W9 : Nat} {Pre : Pt → Array Value → Prop} {Post : Pt → Array Value → Option Value → Pt → Prop} {PostX : Pt → Array Value → Addr → Pt → Prop} (hK : vx_Back l R p e below s args y 3 W9 Pre Post PostX)
    {b : Addr} {cellB : Cell} (hcell : T.heap[b]? = some cellB) (hobj : cellB.vm.isStatics = false) (hcls : s.vm.findClass C = some cellB.cls)
    {g : JFrame} (hg : g.method = m) (hsize : g.locals.size = c.maxLocals) {argsL rest : List Value} (hlen : ∀ sig, parseMethodDescriptor y.desc = some sig → argsL.length = sig.parameters.length)
    (hstack : g.stack = argsL.reverse ++ .ref b :: rest) (hW : 2 * g.monitorRoom + (rest.map fun v => v.category).sum ≤ W9) (hdg : decode c.code g.pc = .ok (.invokevirtual index, 3))
    (hpre : ∀ vm₁, s.WarmedH vm₁ → Pre ⟨T.setVm vm₁, locs, cells, slots⟩ (Value.ref b :: argsL).toArray) :
    (∃ (v : Option Value) (vm₁ : Vm) (B : Pt), s.WarmedH vm₁ ∧ Stand p l e R s m args below meth c B.U B.locs B.cells B.slots ∧ Post ⟨T.setVm vm₁, locs, cells, slots⟩ (Value.ref b :: argsL).toArray v B ∧
      ∀ target, Steps p.tables e below (B.U.setTop { g with pc := g.pc + 3, stack := v.toList ++ rest }) target → Steps p.tables e below (T.setTop g) target) ∨
    (∃ (q : Addr) (vm₁ : Vm) (B : Pt), s.WarmedH vm₁ ∧ Stand p l e R s m args below meth c B.U B.locs B.cells B.slots ∧ PostX ⟨T.setVm vm₁, locs, cells, slots⟩ (Value.ref b :: argsL).toArray q B ∧
      Steps p.tables e below (T.setTop g) ((B.U.setTop { g with stack := rest }).pushFrame (.throwing q))) := by
  obtain ⟨mk, methM, hnamed, hmethM, hstM, habM⟩ := Cond.instanceMethod_spec hinst
  obtain ⟨methM', cM, hmethM', -, -, -, -, -, -, hsigM⟩ := Cond.code_spec hnamed hcode
  cases hmethM.symm.trans hmethM'
  obtain ⟨c2, r2, m2, q1, q2, q3, q4, kP, hkP, hkPi⟩ := Cond.selects_spec hsel
  cases hcls.symm.trans q1
  cases (State.methodFound?_of_named hnamed hy).symm.trans q2
  cases hnamed.symm.trans q3
  have hselP : selectMethod e.platform s.vm cellB.cls mk = .method mk := by rw [Launch.admits_selectMethod X.admits]; exact q4
  obtain ⟨vm₁, X₁, hstep₁⟩ := X.invokevirtual hexec hown hlink hnamed hmethM hstM hkP hkPi hy (a := b) (cell := cellB) hcell
    (fun z h => by rw [h] at hobj; cases hobj) hselP hmethM habM hkP hkPi (g := g) hg (argsL := argsL) (rest := rest) (hlen _ hsigM) hstack hdg
  rcases hK m meth c ⟨T.setVm vm₁, locs, cells, slots⟩ { g with stack := rest } (.invokevirtual index) mk (Value.ref b :: argsL).toArray X₁ hg hsize hdg hW (X₁.named hnamed) (hpre vm₁ X₁.warmed) with ⟨v, B, X', hpost, hsteps⟩ | ⟨q, B, X', hpost, hsteps⟩
  · exact Or.inl ⟨v, vm₁, B, X₁.warmed, X', hpost, fun target h => hstep₁ _ fun acts => by rw [doInvoke_state]; exact hsteps.trans h⟩
  · exact Or.inr ⟨q, vm₁, B, X₁.warmed, X', hpost, hstep₁ _ fun acts => by rw [doInvoke_state]; exact hsteps⟩
theorem vx_callS (X : Stand p l e R s m args below meth c T locs cells slots) (hexec : p.tables.exec = Jvm.exec) {own : String} {index : Nat} {y : MethodName} {bytes : ByteArray} {maxL : Nat} {ret : Option FieldType}
    (hown : s.vm.findClass own = some m.cls) (hlink : (Cond.methodLink own index y).before args s = true) (hstat : (Cond.static y).before args s = true) (hinit : (Cond.initialized y.cls).before args s = true)
    (hcode : (Cond.code y bytes maxL ret).before args s = true) (hy : y.cls ≠ "java/lang/invoke/MethodHandle" ∧ y.cls ≠ "java/lang/invoke/VarHandle")
    {W9 : Nat} {Pre : Pt → Array Value → Prop} {Post : Pt → Array Value → Option Value → Pt → Prop} {PostX : Pt → Array Value → Addr → Pt → Prop} (hK : vx_Back l R p e below s args y 3 W9 Pre Post PostX)
    {g : JFrame} (hg : g.method = m) (hsize : g.locals.size = c.maxLocals) {argsL rest : List Value} (hlen : ∀ sig, parseMethodDescriptor y.desc = some sig → argsL.length = sig.parameters.length)
    (hstack : g.stack = argsL.reverse ++ rest) (hW : 2 * g.monitorRoom + (rest.map fun v => v.category).sum ≤ W9) (hdg : decode c.code g.pc = .ok (.invokestatic index, 3))
    (hpre : ∀ vm₁, s.WarmedH vm₁ → Pre ⟨T.setVm vm₁, locs, cells, slots⟩ argsL.toArray) :
    (∃ (v : Option Value) (vm₁ : Vm) (B : Pt), s.WarmedH vm₁ ∧ Stand p l e R s m args below meth c B.U B.locs B.cells B.slots ∧ Post ⟨T.setVm vm₁, locs, cells, slots⟩ argsL.toArray v B ∧
      ∀ target, Steps p.tables e below (B.U.setTop { g with pc := g.pc + 3, stack := v.toList ++ rest }) target → Steps p.tables e below (T.setTop g) target) ∨
    (∃ (q : Addr) (vm₁ : Vm) (B : Pt), s.WarmedH vm₁ ∧ Stand p l e R s m args below meth c B.U B.locs B.cells B.slots ∧ PostX ⟨T.setVm vm₁, locs, cells, slots⟩ argsL.toArray q B ∧
      Steps p.tables e below (T.setTop g) ((B.U.setTop { g with stack := rest }).pushFrame (.throwing q))) := by
  obtain ⟨mk, hnamed⟩ := Cond.code_named hcode
  obtain ⟨methM, cM, hmethM, -, -, -, -, -, -, hsigM⟩ := Cond.code_spec hnamed hcode
  have hstatic : methM.isStatic = true := Cond.static_spec hnamed hmethM hstat
  obtain ⟨kP, hkP, -⟩ := className_of_methodNamed hnamed
  have hinitP : kP.init = .initialized := Cond.initialized_spec (findClass_of_methodNamed hnamed) hkP hinit
  obtain ⟨vm₁, X₁, hstep₁⟩ := X.invokestatic hexec hown hlink hnamed hmethM hstatic hkP hinitP hy (g := g) hg (argsL := argsL) (rest := rest) (hlen _ hsigM) hstack hdg
  rcases hK m meth c ⟨T.setVm vm₁, locs, cells, slots⟩ { g with stack := rest } (.invokestatic index) mk argsL.toArray X₁ hg hsize hdg hW (X₁.named hnamed) (hpre vm₁ X₁.warmed) with ⟨v, B, X', hpost, hsteps⟩ | ⟨q, B, X', hpost, hsteps⟩
  · exact Or.inl ⟨v, vm₁, B, X₁.warmed, X', hpost, fun target h => hstep₁ _ fun acts => by rw [doInvoke_state]; exact hsteps.trans h⟩
  · exact Or.inr ⟨q, vm₁, B, X₁.warmed, X', hpost, hstep₁ _ fun acts => by rw [doInvoke_state]; exact hsteps⟩
end Calls
theorem vx_cls {s : State} {T : State} {vm₁ : Vm} {E : String} {k : ClassId} (hW : s.WarmedH vm₁) (h : (T.setVm vm₁).vm.findClass E = some k) : s.vm.findClass E = some k := by
  have h1 : vm₁.findClass E = some k := h
  rw [hW.alike.findClass] at h1
  exact h1
/-- the method's frame g, with q thrown over it -/
def vx_W (p : Program) (l : Launch) (e : Env) (R : Room) (s : State) (m : MethodId) (args : Array Value) (below : List Frame) (meth : Method) (c : Code) (H : Heap) (locs : List Loc) (cells slots : Nat) (Q : State → Prop) (g : JFrame) (q : Addr) : Prop :=
  ∀ T : State, T.heap = H → Stand p l e R s m args below meth c T locs cells slots → ∃ t, Steps p.tables e below ((T.setTop g).pushFrame (.throwing q)) t ∧ Q t
def vx_Run (p : Program) (l : Launch) (e : Env) (R : Room) (s : State) (m : MethodId) (args : Array Value) (below : List Frame) (meth : Method) (c : Code) (H : Heap) (locs : List Loc) (cells slots mc ms : Nat) (g : JFrame) (rest : List Value) (Qa : State → Outcome → State → Prop) (XC : String → State → State → Prop) (free : Addr → Prop) : Prop :=
  ∀ T : State, T.heap = H → Stand p l e R s m args below meth c T locs cells slots →
    (∃ (v : Option Value) (st₀ t T' : State) (L : List Loc), st₀.heap = H ∧ Stand p l e R s m args below meth c T' (locs ++ L) (cells + mc) (slots + ms) ∧ (∀ q ∈ L, free q.base) ∧ T'.heap = t.heap ∧ T'.vm = t.vm ∧ Qa st₀ (.returned v) t ∧
      Goes p e below T g T' { g with pc := g.pc + 3, stack := v.toList ++ rest }) ∨
    (∃ (q : Addr) (st₀ t T' : State) (L : List Loc) (E : String) (ce : Cell), st₀.heap = H ∧ Stand p l e R s m args below meth c T' (locs ++ L) (cells + mc) (slots + ms) ∧ (∀ z ∈ L, free z.base) ∧ T'.heap = t.heap ∧ T'.vm = t.vm ∧ XC E st₀ t ∧ t.heap[q]? = some ce ∧ ce.vm = .none ∧ s.vm.findClass E = some ce.cls ∧
      Steps p.tables e below (T.setTop g) ((T'.setTop { g with stack := rest }).pushFrame (.throwing q)))
def vx_X {S : Type} (px : S → Prop) (B : String → S → State → Prop) (A : Nat → Prop) : String → State → State → Prop := fun E st t => ∃ u : S, px u ∧ B E u t ∧ va_F A st t
section Runs
variable {p : Program} {l : Launch} {e : Env} {R : Room} {s : State} {m : MethodId} {args : Array Value} {below : List Frame} {meth : Method} {c : Code} {H : Heap} {locs : List Loc} {cells slots : Nat}
variable {y : MethodName} {bytes cc : ByteArray} {maxL nL mc ms n index : Nat} {ret : Option FieldType} {ws : List Cond} {rm : Room} {Pc : Array Value → State → Prop} {Qc : Array Value → State → Outcome → State → Prop} {XC : String → State → State → Prop} {free : Addr → Prop} {Ts : List Cond} {own C : String} {b : Addr} {As rest : List Value} {g : JFrame}
theorem vx_callBack (cb : CallB R s args own index y bytes maxL ret ws rm mc ms n) (hM : vx_Met l y ws rm Pc Qc XC mc ms free) (hbl : FrameBlind Pc) : vx_Back l R p e below s args y 3 8 (PreOf R mc ms Pc) (PostOf Qc mc ms free) (vx_Post XC mc ms free) := by
  obtain ⟨hrc, hrs, hfr, hlo, hws, hcw, -, hini, -⟩ := cb
  exact vx_back (bytes := bytes) (maxL := maxL) (ret := ret) hM hbl hrc hrs hfr hlo hws hcw (fun a' U hW => word_at hW (Or.inl (by first | rfl | simp [Cond.onTables, Cond.keeps, Cond.steady])) hini)
theorem vx_runV (S : CallFix p m c cc nL s args Ts own) (hM : vx_Met l y ws rm Pc Qc XC mc ms free) (cw : CallW R s args own C index y bytes maxL ret ws rm mc ms n) (hp : PreV s H C b Pc As)
    (hg : g.method = m) (hn : As.length = n) (hsize : g.locals.size = nL) (hstack : g.stack = As.reverse ++ .ref b :: rest) (hW : 2 * g.monitorRoom + (rest.map fun v => v.category).sum ≤ 8) (hdg : decode cc g.pc = .ok (.invokevirtual index, 3)) (hf : cells + mc ≤ R.cells ∧ slots + ms ≤ R.slots) :
    vx_Run p l e R s m args below meth c H locs cells slots mc ms g rest (Qc (Value.ref b :: As).toArray) XC free := by
  have hK : vx_Back l R p e below s args y 3 8 (PreOf R mc ms Pc) (PostOf Qc mc ms free) (vx_Post XC mc ms free) := vx_callBack cw.1 hM hp.1
  obtain ⟨⟨-, -, -, -, -, -, hcode, -, hy, hlen, hl⟩, hin, hse⟩ := cw
  obtain ⟨hx, hb, hml, ho, -⟩ := S
  obtain ⟨-, ⟨cellB, hcB, hoB, hclB⟩, hPc⟩ := hp
  intro T hT X
  rcases vx_callV X hx (C := C) (bytes := bytes) (maxL := maxL) (ret := ret) ho hl hin hse hcode hy hK (by rw [hT]; exact hcB) hoB hclB hg (hsize.trans hml.symm) (argsL := As) (rest := rest) (fun sig h => hn.trans (hlen sig h)) hstack hW (by rw [hb]; exact hdg)
    (fun vm₁ hW₁ => ⟨hf.1, hf.2, hPc (T.setVm vm₁) hT hW₁⟩) with ⟨v, vm₁, ⟨U', l2, c2, s2⟩, hW₁, X', ⟨g', mk, t, L, e1, e2, hq, h1, hL, h2, h3⟩, st⟩ | ⟨q, vm₁, ⟨U', l2, c2, s2⟩, hW₁, X', ⟨g', mk, t, L, E, ce, e1, e2, hq, hce, hcv, hcl, h1, hL, h2, h3⟩, st⟩
  · dsimp only [Pt.U, Pt.locs, Pt.cells, Pt.slots] at X' e1 e2 h1 h2 h3 st
    subst h1; subst h2; subst h3
    exact Or.inl ⟨v, (T.setVm vm₁).calling g' mk (Value.ref b :: As).toArray, t, U', L, hT, X', hL, e1, e2, hq, st⟩
  · dsimp only [Pt.U, Pt.locs, Pt.cells, Pt.slots] at X' e1 e2 h1 h2 h3 st hcl
    subst h1; subst h2; subst h3
    exact Or.inr ⟨q, (T.setVm vm₁).calling g' mk (Value.ref b :: As).toArray, t, U', L, E, ce, hT, X', hL, e1, e2, hq, hce, hcv, vx_cls hW₁ hcl, st⟩
theorem vx_runS (S : CallFix p m c cc nL s args Ts own) (hM : vx_Met l y ws rm Pc Qc XC mc ms free) (cw : CallB R s args own index y bytes maxL ret ws rm mc ms n ∧ (Cond.static y).before args s = true) (hp : PreS s H Pc As)
    (hg : g.method = m) (hn : As.length = n) (hsize : g.locals.size = nL) (hstack : g.stack = As.reverse ++ rest) (hW : 2 * g.monitorRoom + (rest.map fun v => v.category).sum ≤ 8) (hdg : decode cc g.pc = .ok (.invokestatic index, 3)) (hf : cells + mc ≤ R.cells ∧ slots + ms ≤ R.slots) :
    vx_Run p l e R s m args below meth c H locs cells slots mc ms g rest (Qc As.toArray) XC free := by
  have hK : vx_Back l R p e below s args y 3 8 (PreOf R mc ms Pc) (PostOf Qc mc ms free) (vx_Post XC mc ms free) := vx_callBack cw.1 hM hp.1
  obtain ⟨⟨-, -, -, -, -, -, hcode, hini, hy, hlen, hl⟩, hstt⟩ := cw
  obtain ⟨hx, hb, hml, ho, -⟩ := S
  intro T hT X
  rcases vx_callS X hx (bytes := bytes) (maxL := maxL) (ret := ret) ho hl hstt hini hcode hy hK hg (hsize.trans hml.symm) (argsL := As) (rest := rest) (fun sig h => hn.trans (hlen sig h)) hstack hW (by rw [hb]; exact hdg)
    (fun vm₁ hW₁ => ⟨hf.1, hf.2, hp.2 (T.setVm vm₁) hT hW₁⟩) with ⟨v, vm₁, ⟨U', l2, c2, s2⟩, hW₁, X', ⟨g', mk, t, L, e1, e2, hq, h1, hL, h2, h3⟩, st⟩ | ⟨q, vm₁, ⟨U', l2, c2, s2⟩, hW₁, X', ⟨g', mk, t, L, E, ce, e1, e2, hq, hce, hcv, hcl, h1, hL, h2, h3⟩, st⟩
  · dsimp only [Pt.U, Pt.locs, Pt.cells, Pt.slots] at X' e1 e2 h1 h2 h3 st
    subst h1; subst h2; subst h3
    exact Or.inl ⟨v, (T.setVm vm₁).calling g' mk As.toArray, t, U', L, hT, X', hL, e1, e2, hq, st⟩
  · dsimp only [Pt.U, Pt.locs, Pt.cells, Pt.slots] at X' e1 e2 h1 h2 h3 st hcl
    subst h1; subst h2; subst h3
    exact Or.inr ⟨q, (T.setVm vm₁).calling g' mk As.toArray, t, U', L, E, ce, hT, X', hL, e1, e2, hq, hce, hcv, vx_cls hW₁ hcl, st⟩
end Runs
section Rows
variable {p : Program} {l : Launch} {e : Env} {R : Room} {s : State} {m : MethodId} {args : Array Value} {below : List Frame} {meth : Method} {c : Code} {H : Heap} {locs : List Loc} {cells slots : Nat} {Q : State → Prop}
variable {mc ms : Nat} {free : Addr → Prop} {A0 A1 : Nat → Prop} {H0 : Heap} {a : Array Value} {pc : Nat} {ls : Array Slot} {st0 rest : List Value}
theorem vx_keep {st₀ t T' : State} {L : List Loc} (h0 : st₀.heap = H) (e1 : T'.heap = t.heap) (hS : va_S A0 H0 H locs) (hA : ∀ q, q < H.size → A1 q → A0 q) (hf : ∀ q, free q → A0 q) (hL : ∀ q ∈ L, free q.base) (hF : va_F A1 st₀ t) :
    H.size ≤ T'.heap.size ∧ (∀ q : Nat, q < H.size → ¬ A1 q → T'.heap[q]? = H[q]?) ∧ va_S A0 H0 T'.heap (locs ++ L) := by
  obtain ⟨hz, hk⟩ := hF
  rw [h0] at hz hk
  exact ⟨by rw [e1]; exact hz, fun q h1 h2 => by rw [e1]; exact hk q h1 h2,
    ⟨Nat.le_trans hS.1 (by rw [e1]; exact hz), fun q h1 h2 => by rw [e1, hk q (Nat.lt_of_lt_of_le h1 hS.1) (fun z => h2 (hA q (Nat.lt_of_lt_of_le h1 hS.1) z))]; exact hS.2.1 q h1 h2, fun q hq => by
      rcases List.mem_append.mp hq with h | h
      · exact hS.2.2 q h
      · exact hf _ (hL q h)⟩⟩
theorem vx_calli {S SX : Type} {post : Int32 → S → Prop} {px : SX → Prop} {B : S → State → Prop} {BX : String → SX → State → Prop} {AX : Nat → Prop} (hr : vx_Run p l e R s m args below meth c H locs cells slots mc ms (F0 m pc ls st0) rest (va_Qi post B A1 a) (vx_X px BX AX) free) (hS : va_S A0 H0 H locs) (hA : ∀ q, q < H.size → A1 q → A0 q) (hf : ∀ q, free q → A0 q) (hAX : ∀ q, q < H.size → AX q → A0 q)
    (kx : ∀ (E : String) (ce : Cell) (q9 : Addr) (u : SX) (t : State) (H1 : Heap) (locs1 : List Loc), t.heap = H1 → s.vm.Alike t.vm → px u → BX E u t → H.size ≤ H1.size → (∀ q : Nat, q < H.size → ¬ AX q → H1[q]? = H[q]?) → va_S A0 H0 H1 locs1 → H1[q9]? = some ce → ce.vm = .none → s.vm.findClass E = some ce.cls → vx_W p l e R s m args below meth c H1 locs1 (cells + mc) (slots + ms) Q (F0 m pc ls rest) q9)
    (kk : ∀ (r : Int32) (u : S) (t : State) (H1 : Heap) (locs1 : List Loc), t.heap = H1 → s.vm.Alike t.vm → post r u → B u t → H.size ≤ H1.size → (∀ q : Nat, q < H.size → ¬ A1 q → H1[q]? = H[q]?) → va_S A0 H0 H1 locs1 → W p l e R s m args below meth c H1 locs1 (cells + mc) (slots + ms) Q (F0 m (pc + 3) ls (.int r :: rest))) : W p l e R s m args below meth c H locs cells slots Q (F0 m pc ls st0) := by
  intro T hT X
  rcases hr T hT X with ⟨v, st₀, t, T', L, h0, X', hL, e1, e2, ⟨⟨r, u, hv, hp, hb⟩, hF⟩, st⟩ | ⟨q, st₀, t, T', L, E, ce, h0, X', hL, e1, e2, ⟨u, hp, hb, hF⟩, hce, hcv, hcl, st⟩
  · cases hv
    obtain ⟨k1, k2, k3⟩ := vx_keep h0 e1 hS hA hf hL hF
    obtain ⟨t2, a1, b1⟩ := kk r u t T'.heap (locs ++ L) e1.symm (by rw [← e2]; exact X'.warmed.alike) hp hb k1 k2 k3 T' rfl X'
    exact ⟨t2, st t2 a1, b1⟩
  · obtain ⟨k1, k2, k3⟩ := vx_keep h0 e1 hS hAX hf hL hF
    obtain ⟨t2, a1, b1⟩ := kx E ce q u t T'.heap (locs ++ L) e1.symm (by rw [← e2]; exact X'.warmed.alike) hp hb k1 k2 k3 (by rw [e1]; exact hce) hcv hcl T' rfl X'
    exact ⟨t2, st.trans a1, b1⟩
theorem vx_calll {S SX : Type} {post : Int64 → S → Prop} {px : SX → Prop} {B : S → State → Prop} {BX : String → SX → State → Prop} {AX : Nat → Prop} (hr : vx_Run p l e R s m args below meth c H locs cells slots mc ms (F0 m pc ls st0) rest (va_Ql post B A1 a) (vx_X px BX AX) free) (hS : va_S A0 H0 H locs) (hA : ∀ q, q < H.size → A1 q → A0 q) (hf : ∀ q, free q → A0 q) (hAX : ∀ q, q < H.size → AX q → A0 q)
    (kx : ∀ (E : String) (ce : Cell) (q9 : Addr) (u : SX) (t : State) (H1 : Heap) (locs1 : List Loc), t.heap = H1 → s.vm.Alike t.vm → px u → BX E u t → H.size ≤ H1.size → (∀ q : Nat, q < H.size → ¬ AX q → H1[q]? = H[q]?) → va_S A0 H0 H1 locs1 → H1[q9]? = some ce → ce.vm = .none → s.vm.findClass E = some ce.cls → vx_W p l e R s m args below meth c H1 locs1 (cells + mc) (slots + ms) Q (F0 m pc ls rest) q9)
    (kk : ∀ (r : Int64) (u : S) (t : State) (H1 : Heap) (locs1 : List Loc), t.heap = H1 → s.vm.Alike t.vm → post r u → B u t → H.size ≤ H1.size → (∀ q : Nat, q < H.size → ¬ A1 q → H1[q]? = H[q]?) → va_S A0 H0 H1 locs1 → W p l e R s m args below meth c H1 locs1 (cells + mc) (slots + ms) Q (F0 m (pc + 3) ls (.long r :: rest))) : W p l e R s m args below meth c H locs cells slots Q (F0 m pc ls st0) := by
  intro T hT X
  rcases hr T hT X with ⟨v, st₀, t, T', L, h0, X', hL, e1, e2, ⟨⟨r, u, hv, hp, hb⟩, hF⟩, st⟩ | ⟨q, st₀, t, T', L, E, ce, h0, X', hL, e1, e2, ⟨u, hp, hb, hF⟩, hce, hcv, hcl, st⟩
  · cases hv
    obtain ⟨k1, k2, k3⟩ := vx_keep h0 e1 hS hA hf hL hF
    obtain ⟨t2, a1, b1⟩ := kk r u t T'.heap (locs ++ L) e1.symm (by rw [← e2]; exact X'.warmed.alike) hp hb k1 k2 k3 T' rfl X'
    exact ⟨t2, st t2 a1, b1⟩
  · obtain ⟨k1, k2, k3⟩ := vx_keep h0 e1 hS hAX hf hL hF
    obtain ⟨t2, a1, b1⟩ := kx E ce q u t T'.heap (locs ++ L) e1.symm (by rw [← e2]; exact X'.warmed.alike) hp hb k1 k2 k3 (by rw [e1]; exact hce) hcv hcl T' rfl X'
    exact ⟨t2, st.trans a1, b1⟩
theorem vx_callf {S SX : Type} {post : UInt32 → S → Prop} {px : SX → Prop} {B : S → State → Prop} {BX : String → SX → State → Prop} {AX : Nat → Prop} (hr : vx_Run p l e R s m args below meth c H locs cells slots mc ms (F0 m pc ls st0) rest (va_Qf post B A1 a) (vx_X px BX AX) free) (hS : va_S A0 H0 H locs) (hA : ∀ q, q < H.size → A1 q → A0 q) (hf : ∀ q, free q → A0 q) (hAX : ∀ q, q < H.size → AX q → A0 q)
    (kx : ∀ (E : String) (ce : Cell) (q9 : Addr) (u : SX) (t : State) (H1 : Heap) (locs1 : List Loc), t.heap = H1 → s.vm.Alike t.vm → px u → BX E u t → H.size ≤ H1.size → (∀ q : Nat, q < H.size → ¬ AX q → H1[q]? = H[q]?) → va_S A0 H0 H1 locs1 → H1[q9]? = some ce → ce.vm = .none → s.vm.findClass E = some ce.cls → vx_W p l e R s m args below meth c H1 locs1 (cells + mc) (slots + ms) Q (F0 m pc ls rest) q9)
    (kk : ∀ (r : UInt32) (u : S) (t : State) (H1 : Heap) (locs1 : List Loc), t.heap = H1 → s.vm.Alike t.vm → post r u → B u t → H.size ≤ H1.size → (∀ q : Nat, q < H.size → ¬ A1 q → H1[q]? = H[q]?) → va_S A0 H0 H1 locs1 → W p l e R s m args below meth c H1 locs1 (cells + mc) (slots + ms) Q (F0 m (pc + 3) ls (.float r :: rest))) : W p l e R s m args below meth c H locs cells slots Q (F0 m pc ls st0) := by
  intro T hT X
  rcases hr T hT X with ⟨v, st₀, t, T', L, h0, X', hL, e1, e2, ⟨⟨r, u, hv, hp, hb⟩, hF⟩, st⟩ | ⟨q, st₀, t, T', L, E, ce, h0, X', hL, e1, e2, ⟨u, hp, hb, hF⟩, hce, hcv, hcl, st⟩
  · cases hv
    obtain ⟨k1, k2, k3⟩ := vx_keep h0 e1 hS hA hf hL hF
    obtain ⟨t2, a1, b1⟩ := kk r u t T'.heap (locs ++ L) e1.symm (by rw [← e2]; exact X'.warmed.alike) hp hb k1 k2 k3 T' rfl X'
    exact ⟨t2, st t2 a1, b1⟩
  · obtain ⟨k1, k2, k3⟩ := vx_keep h0 e1 hS hAX hf hL hF
    obtain ⟨t2, a1, b1⟩ := kx E ce q u t T'.heap (locs ++ L) e1.symm (by rw [← e2]; exact X'.warmed.alike) hp hb k1 k2 k3 (by rw [e1]; exact hce) hcv hcl T' rfl X'
    exact ⟨t2, st.trans a1, b1⟩
theorem vx_calld {S SX : Type} {post : UInt64 → S → Prop} {px : SX → Prop} {B : S → State → Prop} {BX : String → SX → State → Prop} {AX : Nat → Prop} (hr : vx_Run p l e R s m args below meth c H locs cells slots mc ms (F0 m pc ls st0) rest (va_Qd post B A1 a) (vx_X px BX AX) free) (hS : va_S A0 H0 H locs) (hA : ∀ q, q < H.size → A1 q → A0 q) (hf : ∀ q, free q → A0 q) (hAX : ∀ q, q < H.size → AX q → A0 q)
    (kx : ∀ (E : String) (ce : Cell) (q9 : Addr) (u : SX) (t : State) (H1 : Heap) (locs1 : List Loc), t.heap = H1 → s.vm.Alike t.vm → px u → BX E u t → H.size ≤ H1.size → (∀ q : Nat, q < H.size → ¬ AX q → H1[q]? = H[q]?) → va_S A0 H0 H1 locs1 → H1[q9]? = some ce → ce.vm = .none → s.vm.findClass E = some ce.cls → vx_W p l e R s m args below meth c H1 locs1 (cells + mc) (slots + ms) Q (F0 m pc ls rest) q9)
    (kk : ∀ (r : UInt64) (u : S) (t : State) (H1 : Heap) (locs1 : List Loc), t.heap = H1 → s.vm.Alike t.vm → post r u → B u t → H.size ≤ H1.size → (∀ q : Nat, q < H.size → ¬ A1 q → H1[q]? = H[q]?) → va_S A0 H0 H1 locs1 → W p l e R s m args below meth c H1 locs1 (cells + mc) (slots + ms) Q (F0 m (pc + 3) ls (.double r :: rest))) : W p l e R s m args below meth c H locs cells slots Q (F0 m pc ls st0) := by
  intro T hT X
  rcases hr T hT X with ⟨v, st₀, t, T', L, h0, X', hL, e1, e2, ⟨⟨r, u, hv, hp, hb⟩, hF⟩, st⟩ | ⟨q, st₀, t, T', L, E, ce, h0, X', hL, e1, e2, ⟨u, hp, hb, hF⟩, hce, hcv, hcl, st⟩
  · cases hv
    obtain ⟨k1, k2, k3⟩ := vx_keep h0 e1 hS hA hf hL hF
    obtain ⟨t2, a1, b1⟩ := kk r u t T'.heap (locs ++ L) e1.symm (by rw [← e2]; exact X'.warmed.alike) hp hb k1 k2 k3 T' rfl X'
    exact ⟨t2, st t2 a1, b1⟩
  · obtain ⟨k1, k2, k3⟩ := vx_keep h0 e1 hS hAX hf hL hF
    obtain ⟨t2, a1, b1⟩ := kx E ce q u t T'.heap (locs ++ L) e1.symm (by rw [← e2]; exact X'.warmed.alike) hp hb k1 k2 k3 (by rw [e1]; exact hce) hcv hcl T' rfl X'
    exact ⟨t2, st.trans a1, b1⟩
theorem vx_callv {S SX : Type} {post : S → Prop} {px : SX → Prop} {B : S → State → Prop} {BX : String → SX → State → Prop} {AX : Nat → Prop} (hr : vx_Run p l e R s m args below meth c H locs cells slots mc ms (F0 m pc ls st0) rest (va_Qv post B A1 a) (vx_X px BX AX) free) (hS : va_S A0 H0 H locs) (hA : ∀ q, q < H.size → A1 q → A0 q) (hf : ∀ q, free q → A0 q) (hAX : ∀ q, q < H.size → AX q → A0 q)
    (kx : ∀ (E : String) (ce : Cell) (q9 : Addr) (u : SX) (t : State) (H1 : Heap) (locs1 : List Loc), t.heap = H1 → s.vm.Alike t.vm → px u → BX E u t → H.size ≤ H1.size → (∀ q : Nat, q < H.size → ¬ AX q → H1[q]? = H[q]?) → va_S A0 H0 H1 locs1 → H1[q9]? = some ce → ce.vm = .none → s.vm.findClass E = some ce.cls → vx_W p l e R s m args below meth c H1 locs1 (cells + mc) (slots + ms) Q (F0 m pc ls rest) q9)
    (kk : ∀ (u : S) (t : State) (H1 : Heap) (locs1 : List Loc), t.heap = H1 → s.vm.Alike t.vm → post u → B u t → H.size ≤ H1.size → (∀ q : Nat, q < H.size → ¬ A1 q → H1[q]? = H[q]?) → va_S A0 H0 H1 locs1 → W p l e R s m args below meth c H1 locs1 (cells + mc) (slots + ms) Q (F0 m (pc + 3) ls (rest))) : W p l e R s m args below meth c H locs cells slots Q (F0 m pc ls st0) := by
  intro T hT X
  rcases hr T hT X with ⟨v, st₀, t, T', L, h0, X', hL, e1, e2, ⟨⟨u, hv, hp, hb⟩, hF⟩, st⟩ | ⟨q, st₀, t, T', L, E, ce, h0, X', hL, e1, e2, ⟨u, hp, hb, hF⟩, hce, hcv, hcl, st⟩
  · cases hv
    obtain ⟨k1, k2, k3⟩ := vx_keep h0 e1 hS hA hf hL hF
    obtain ⟨t2, a1, b1⟩ := kk u t T'.heap (locs ++ L) e1.symm (by rw [← e2]; exact X'.warmed.alike) hp hb k1 k2 k3 T' rfl X'
    exact ⟨t2, st t2 a1, b1⟩
  · obtain ⟨k1, k2, k3⟩ := vx_keep h0 e1 hS hAX hf hL hF
    obtain ⟨t2, a1, b1⟩ := kx E ce q u t T'.heap (locs ++ L) e1.symm (by rw [← e2]; exact X'.warmed.alike) hp hb k1 k2 k3 (by rw [e1]; exact hce) hcv hcl T' rfl X'
    exact ⟨t2, st.trans a1, b1⟩
/-- caught by the row x of this method's table; the rows ahead don't take it -/
theorem vx_catch {own name : String} {E : String} {ce : Cell} {q : Addr} (hown : s.vm.findClass own = some m.cls) (pre : List ExceptionTableEntry) (x : ExceptionTableEntry) (suf : List ExceptionTableEntry) (hsplit : c.exceptionTable.toList = pre ++ x :: suf)
    (hpass : ∀ z ∈ pre, covers z pc = false ∨ (z.catchType ≠ 0 ∧ ∃ nm : String, (Cond.classLink own z.catchType nm).before args s = true ∧ va_Nc E nm s)) (hx : covers x pc = true) (h0 : x.catchType ≠ 0)
    (hlink : (Cond.classLink own x.catchType name).before args s = true) (hcast : (Cond.castable E name).before args s = true) (hcell : H[q]? = some ce) (hv : ce.vm = .none) (hcl : s.vm.findClass E = some ce.cls)
    (kk : W p l e R s m args below meth c H locs cells slots Q (F0 m x.handlerPc ls [.ref q])) : vx_W p l e R s m args below meth c H locs cells slots Q (F0 m pc ls rest) q := by
  intro T hT X
  have hpl : e.platform.magicAccessors = ({} : Platform).magicAccessors := by rw [X.admits.platform]
  obtain ⟨c3, c4, hc3, hc4, hasg⟩ := Cond.castable_spec hcast
  cases Option.some.inj (hc3.symm.trans hcl)
  obtain ⟨c5, hc5, hcl5⟩ := Cond.classLink_spec hown hlink e.platform hpl
  cases Option.some.inj (hc4.symm.trans hc5)
  obtain ⟨vm', X', st⟩ := X.thenCaughtThrough q (g := F0 m pc ls rest) rfl (Steps.refl _) (by rw [hT]; exact hcell) (by rw [hv]; rfl) (by obtain ⟨k9, h9, -⟩ := Vm.findClass_spec hcl; exact ⟨k9, h9⟩) pre x suf hsplit
    (fun z hz => by
      rcases hpass z hz with h | ⟨hz0, nm, hl1, hn1⟩
      · exact Or.inl h
      · obtain ⟨c6, hc6, hcl6⟩ := Cond.classLink_spec hown hl1 e.platform hpl
        obtain ⟨a8, b8, h1, h2, h3⟩ := hn1
        cases Option.some.inj (h1.symm.trans hcl)
        cases Option.some.inj (h2.symm.trans hc6)
        exact Or.inr ⟨hz0, _, hcl6, h3⟩) hx (Or.inr ⟨h0, c4, hcl5, hasg⟩)
  obtain ⟨t, a1, b1⟩ := kk (T.setVm vm') hT X'
  exact ⟨t, st.trans a1, b1⟩
end Rows
section Ends
variable {p : Program} {l : Launch} {e : Env} {R : Room} {s : State} {m : MethodId} {args : Array Value} {below : List Frame} {meth : Method} {c : Code} {H : Heap} {locs : List Loc} {cells slots : Nat} {Q : State → Prop}
variable {mc ms : Nat} {free : Addr → Prop} {A0 A1 : Nat → Prop} {H0 : Heap} {a : Array Value} {ls : Array Slot} {st0 rest : List Value}
variable {Qc : Array Value → State → Outcome → State → Prop} {XC : String → State → State → Prop}
/-- what a body that may throw owes at its end -/
def vx_MQ (below : List Frame) (Qc : Array Value → State → Outcome → State → Prop) (XC : String → State → State → Prop) (a : Array Value) (s : State) (mc ms : Nat) (free : Addr → Prop) : State → Prop := fun t =>
  ∃ o, t.status = .running ∧ Ended t below o ∧ vx_Q Qc XC mc ms free a s o t
theorem vx_ret {g : JFrame} {mc ms : Nat} (k : W p l e R s m args below meth c H locs cells slots (MQ below Qc args s mc ms free) g) : W p l e R s m args below meth c H locs cells slots (vx_MQ below Qc XC args s mc ms free) g := by
  intro T hT X
  obtain ⟨t, a1, o, b1, b2, b3, b4⟩ := k T hT X
  exact ⟨t, a1, o, b1, b2, Or.inl ⟨b3, b4⟩⟩
/-- not caught here: it goes on to the caller -/
theorem vx_widen {g : JFrame} {q : Addr} {k n : Nat} (h1 : cells ≤ k) (h2 : slots ≤ n) (kk : vx_W p l e R s m args below meth c H locs k n Q g q) : vx_W p l e R s m args below meth c H locs cells slots Q g q := fun T hT X => kk T hT (stand_widen X h1 h2)
theorem vx_out {pc : Nat} {E : String} {ce : Cell} {q : Addr} {mc ms : Nat} (hout : ∀ x ∈ c.exceptionTable.toList, covers x pc = false) (hlocks : meth.locks = false) (hcell : H[q]? = some ce) (hv : ce.vm = .none) (hcl : s.vm.findClass E = some ce.cls)
    (hx : ∀ t : State, t.heap = H → s.vm.Alike t.vm → XC E s t) (hf : ∀ z ∈ locs, free z.base) (hc : cells ≤ mc) (hs : slots ≤ ms) :
    vx_W p l e R s m args below meth c H locs cells slots (vx_MQ below Qc XC args s mc ms free) (F0 m pc ls rest) q := by
  intro T hT X
  obtain ⟨st1, hrun, hend, hW, hsm⟩ := X.leaveThrown q (g := F0 m pc ls rest) rfl rfl rfl hout hlocks
  have hcell9 : (T.setFrames (.throwing q :: below)).heap[q]? = some ce := by
    show T.heap[q]? = some ce
    rw [hT]; exact hcell
  exact ⟨_, st1, .threw q, hrun, hend, Or.inr ⟨q, rfl, E, ce, locs, hx _ hT hW.alike, hcell9, hv, hcl, hW, hsm.mono hc hs, hf⟩⟩
theorem vx_frame {U : State} {k n : Nat} (h : s.sameButNew ({ U with vm := s.vm } : State) locs k n) : s.heap.size ≤ U.heap.size ∧ ∀ q : Nat, q < s.heap.size → (∀ z ∈ locs, z.base ≠ q) → U.heap[q]? = s.heap[q]? := by
  obtain ⟨-, h2, -, -, -, h6⟩ := h
  refine ⟨h2, fun q hq hz => ?_⟩
  obtain ⟨c9, e1, e2, e3, e4⟩ := h6 q _ (Array.getElem?_eq_getElem hq)
  have hs : c9.slots = (s.heap[q]).slots := Array.ext_getElem? fun i => e4 i fun hm => hz _ hm rfl
  have h9 : c9 = s.heap[q] := by
    rw [hs] at e2
    exact e2
  have e5 : U.heap[q]? = some c9 := e1
  rw [e5, h9, Array.getElem?_eq_getElem hq]
/-- the words of a throw but the four that speak of the heap -/
def vx_no (w : Cond) : Bool := decide (w ≠ .isRef (.static Bundle.tN "UNASSIGNED_STACK" Bundle.steD)) && decide (w ≠ .isRef (.static Bundle.tN "SUPPRESSED_SENTINEL" Bundle.listD)) && decide (w ≠ .laysStatic Bundle.tN "UNASSIGNED_STACK" Bundle.steD) && decide (w ≠ .laysStatic Bundle.tN "SUPPRESSED_SENTINEL" Bundle.listD)
def vx_at0 (own : String) (ic : Nat) (X : String) (names : List String) : List Cond := (Bundle.ownAtoms0 own ic X names).filter vx_no
def vx_atS (own : String) (ic : Nat) (X : String) (names : List String) : List Cond := (Bundle.ownAtoms own ic X names).filter vx_no
/-- a word that the tables alone decide, or a good one -/
def vx_ot (w : Cond) : Bool := w.onTables || goodWord w
theorem vx_ot_at {args a' : Array Value} {s U : State} {w : Cond} (hW : s.WarmedH U.vm) (hvm : s.vm = U.vm) (hg : vx_ot w = true) (h : w.before args s = true) : w.before a' U = true := by
  simp only [vx_ot, Bool.or_eq_true] at hg
  rcases hg with hg | hg
  · exact va_tabs hg hvm h
  · exact word_at hW (good_of_word hg) h
/-- a list's words: the good ones out of the method's own list, the others by premises of their own -/
theorem vx_hat {args : Array Value} {s : State} {L B : List Cond} (h1 : ∀ w ∈ L.filter goodWord, w.before args s = true) (h2 : ∀ w ∈ L.filter (fun w => !goodWord w), w ∈ B) (h3 : ∀ w ∈ B, w.before args s = true) : ∀ w ∈ L, w.before args s = true := by
  intro w hw
  by_cases g : goodWord w = true
  · exact h1 w (List.mem_filter.mpr ⟨hw, g⟩)
  · refine h3 w (h2 w (List.mem_filter.mpr ⟨hw, ?_⟩))
    show (!goodWord w) = true
    cases hgw : goodWord w
    · rfl
    · exact absurd hgw g
theorem vx_c {args : Array Value} {s : State} {w : Cond} {B : List Cond} (h : w.before args s = true) (t : ∀ w ∈ B, w.before args s = true) : ∀ w' ∈ w :: B, w'.before args s = true := fun w' h' => (List.mem_cons.mp h').elim (fun e => by rw [e]; exact h) (t w')
theorem vx_n {args : Array Value} {s : State} : ∀ w ∈ ([] : List Cond), w.before args s = true := fun _ h => nomatch h
theorem vx_own {args : Array Value} {s : State} {L : List Cond} (h1 : ∀ w ∈ L.filter vx_no, w.before args s = true)
    (hU : (Cond.isRef (.static Bundle.tN "UNASSIGNED_STACK" Bundle.steD)).before args s = true) (hN : (Cond.isRef (.static Bundle.tN "SUPPRESSED_SENTINEL" Bundle.listD)).before args s = true)
    (lU : (Cond.laysStatic Bundle.tN "UNASSIGNED_STACK" Bundle.steD).before args s = true) (lN : (Cond.laysStatic Bundle.tN "SUPPRESSED_SENTINEL" Bundle.listD).before args s = true) : ∀ w ∈ L, w.before args s = true := by
  intro w hw
  by_cases e1 : w = .isRef (.static Bundle.tN "UNASSIGNED_STACK" Bundle.steD)
  · rw [e1]; exact hU
  · by_cases e2 : w = .isRef (.static Bundle.tN "SUPPRESSED_SENTINEL" Bundle.listD)
    · rw [e2]; exact hN
    · by_cases e3 : w = .laysStatic Bundle.tN "UNASSIGNED_STACK" Bundle.steD
      · rw [e3]; exact lU
      · by_cases e4 : w = .laysStatic Bundle.tN "SUPPRESSED_SENTINEL" Bundle.listD
        · rw [e4]; exact lN
        · exact h1 w (List.mem_filter.mpr ⟨hw, by unfold vx_no; rw [decide_eq_true e1, decide_eq_true e2, decide_eq_true e3, decide_eq_true e4]; rfl⟩)
/-- where a static field lies, its class's statics cell in H -/
def vx_L (C n d : String) (A : Nat → Prop) (U : State) (H : Heap) : Prop := ∃ (c : ClassId) (k : Class) (i : Nat) (f : Field) (a : Nat) (cell : Cell), U.vm.findClass C = some c ∧ U.fieldFound? C n d = some (c, k, i, f) ∧ f.isStatic = true ∧ k.statics = some a ∧ H[a]? = some cell ∧ cell.vm.isStatics = true ∧ cell.cls = c ∧ f.slot < cell.slots.size ∧ k.staticTypes[f.slot]? = some f.type ∧ ¬ A a
theorem vx_L.moved {C n d : String} {A : Nat → Prop} {u U : State} {H : Heap} (hvm : u.vm.Alike U.vm) (h : vx_L C n d A u H) : vx_L C n d A U H := by
  obtain ⟨c, k, i, f, a, cell, h1, h2, h3, h4, h5, h6, h7, h8, h9, h10⟩ := h
  obtain ⟨k', hi', he⟩ := State.fieldFound?_setVm hvm h2
  exact ⟨c, k', i, f, a, cell, by rw [hvm.findClass]; exact h1, hi', h3, by rw [he]; exact h4, h5, h6, h7, h8, by rw [he]; exact h9, h10⟩
theorem vx_L.kept {C n d : String} {A : Nat → Prop} {U : State} {H H1 : Heap} (h : vx_L C n d A U H) (hq : ∀ a : Nat, a < H.size → ¬ A a → H1[a]? = H[a]?) : vx_L C n d A U H1 := by
  obtain ⟨c, k, i, f, a, cell, h1, h2, h3, h4, h5, h6, h7, h8, h9, h10⟩ := h
  exact ⟨c, k, i, f, a, cell, h1, h2, h3, h4, by rw [hq a (Array.getElem?_eq_some_iff.mp h5).1 h10]; exact h5, h6, h7, h8, h9, h10⟩
theorem vx_L.narrow {C n d : String} {A B : Nat → Prop} {U : State} {H : Heap} (h : vx_L C n d A U H) (hAB : ∀ q, B q → A q) : vx_L C n d B U H := by
  obtain ⟨c, k, i, f, a, cell, h1, h2, h3, h4, h5, h6, h7, h8, h9, h10⟩ := h
  exact ⟨c, k, i, f, a, cell, h1, h2, h3, h4, h5, h6, h7, h8, h9, fun z => h10 (hAB _ z)⟩
theorem vx_L.word {C n d : String} {A : Nat → Prop} {s : State} {args : Array Value} (h : vx_L C n d A s s.heap) : (Cond.laysStatic C n d).before args s = true := by
  obtain ⟨c, k, i, f, a, cell, h1, h2, h3, h4, h5, h6, h7, h8, h9, -⟩ := h
  show (Cond.laysStatic C n d).holds args s none s [] = true
  exact Cond.laysStatic_of h1 h2 h3 h4 h5 h6 h7 h8 h9
/-- .. and what it holds: null or some reference -/
def vx_Zq (C n d : String) (A : Nat → Prop) (U : State) (H : Heap) : Prop := va_Zq C n d A U H ∧ vx_L C n d A U H
theorem vx_Zq.moved {C n d : String} {A : Nat → Prop} {u U : State} {H : Heap} (hvm : u.vm.Alike U.vm) (h : vx_Zq C n d A u H) : vx_Zq C n d A U H := ⟨va_Zq.moved hvm h.1, vx_L.moved hvm h.2⟩
theorem vx_Zq.kept {C n d : String} {A : Nat → Prop} {U : State} {H H1 : Heap} (h : vx_Zq C n d A U H) (hq : ∀ a : Nat, a < H.size → ¬ A a → H1[a]? = H[a]?) : vx_Zq C n d A U H1 := ⟨va_Zq.kept h.1 hq, vx_L.kept h.2 hq⟩
theorem vx_Zq.narrow {C n d : String} {A B : Nat → Prop} {U : State} {H : Heap} (h : vx_Zq C n d A U H) (hAB : ∀ q, B q → A q) : vx_Zq C n d B U H := ⟨va_Zq.narrow h.1 hAB, vx_L.narrow h.2 hAB⟩
theorem vx_Zqof {args : Array Value} {s : State} {C n d : String} {A : Nat → Prop} (hl : (Cond.laysStatic C n d).before args s = true) (hini : (Cond.initialized C).before args s = true) (h : (Cond.isRef (.static C n d)).before args s = true) (hA : ∀ a : Nat, a < s.heap.size → ¬ A a) : vx_Zq C n d A s s.heap := by
  refine ⟨va_Zqof hl hini h hA, ?_⟩
  obtain ⟨c, k, i, f, a, cell, h1, h2, h3, h4, h5, h6, h7, h8, h9⟩ := Cond.laysStatic_spec hl
  exact ⟨c, k, i, f, a, cell, h1, h2, h3, h4, h5, h6, h7, h8, h9, hA a (Array.getElem?_eq_some_iff.mp h5).1⟩
theorem vx_isRef {C n d : String} {v : Value} {A : Nat → Prop} {s : State} {args : Array Value} (h : va_Z C n d v A s s.heap) (hv : v.isRef = true) : (Cond.isRef (.static C n d)).before args s = true := by
  obtain ⟨cf, kf, fi, f, a, cell, h1, h2, h3, h4, h5, h6, h7, -⟩ := h
  have he : (Term.static C n d).eval args s none [] s = some v := by
    simp [Term.eval, State.fieldNamed?, h1, h2, h4, h5, h6, h7]
  simp only [Cond.before, Cond.holds, Cond.value, he]
  cases v <;> simp_all [Value.isRef]
theorem vx_isRefq {C n d : String} {A : Nat → Prop} {s : State} {args : Array Value} (h : va_Zq C n d A s s.heap) : (Cond.isRef (.static C n d)).before args s = true := by
  rcases h with h | ⟨t, h⟩
  · exact vx_isRef h rfl
  · exact vx_isRef h rfl
/-- the same frame, seen from here: as if the method were called anew in this heap -/
theorem vx_rebase {T : State} (X : Stand p l e R s m args below meth c T locs cells slots) {R' : Room} (hf : R'.frames ≤ R.frames) (hl : R'.locals ≤ R.locals) (hc : cells + R'.cells ≤ R.cells) (hs : slots + R'.slots ≤ R.slots) :
    Stand p l e R' ((T.setVm s.vm).setFrames (.invoking m args :: below)) m args below meth c T [] 0 0 := by
  have htop : (T.setVm s.vm).topJava?.isSome := X.here.top
  have hF : ((T.setVm s.vm).setFrames (.invoking m args :: below)).frames = .invoking m args :: below := State.frames_setFrames _ (State.cur_lt_of_top htop)
  obtain ⟨g₀, hg0⟩ := Option.isSome_iff_exists.mp htop
  obtain ⟨r, hr⟩ := State.topJava?_eq_some.mp hg0
  have hl9 : e.platform.stackLimits (T.setVm s.vm).me = e.platform.stackLimits s.me := X.limits
  have hb9 : (T.setVm s.vm).me.stackBytes = s.me.stackBytes := X.bytes
  refine ⟨X.admits, X.cas, X.clock, hF, ?_, X.hears, X.method, X.code, X.here, X.tail, X.warmed, ?_, ?_, ?_⟩
  · have h := X.room
    have hU : ((T.setVm s.vm).setFrames (.invoking m args :: below)).localsInUse = s.localsInUse := by
      rw [State.localsInUse_invoking hF (meth := meth) (c := c) X.method X.code, State.localsInUse_invoking X.frames X.method X.code]
    simp only [State.hasRoom, Bool.and_eq_true, decide_eq_true_eq] at h ⊢
    obtain ⟨⟨⟨⟨h1, h2, h3, h4, h5, h6⟩, h7⟩, h8⟩, h9⟩ := h
    rw [X.frames, List.length_cons] at h2 h3
    have q1 := X.heapSize
    have q2 := X.used
    simp only [hF, hU, List.length_cons, State.stackLimits_setFrames, State.stackBytes_setFrames, hl9, hb9]
    refine ⟨⟨⟨⟨by omega, by omega, by omega, by omega, by omega, h6⟩, ?_⟩, ?_⟩, X.book⟩
    · show T.heap.size + R'.cells ≤ e.platform.maxCells
      omega
    · show T.slotsUsed + R'.slots ≤ e.platform.maxSlots
      omega
  · rw [State.stackLimits_setFrames]; rfl
  · rw [State.stackBytes_setFrames]; rfl
  · refine ⟨?_, Nat.le_refl _, Nat.le_refl _, ?_, ?_, fun a c9 h9 => ⟨c9, h9, rfl, rfl, fun _ _ => rfl⟩⟩
    · obtain ⟨t, ht, -⟩ := State.frames_cons hr
      show T.setVm s.vm = { ((T.setVm s.vm).setFrames (.invoking m args :: below)).setFrames (T.setVm s.vm).frames with heap := T.heap, slotsUsed := T.slotsUsed }
      rw [State.setFrames_setFrames, State.setFrames_self ht]
      rfl
    · show T.slotsUsed = T.slotsUsed + ((T.heap.toList.drop T.heap.size).map (·.slots.size)).sum
      rw [List.drop_eq_nil_of_le (Nat.le_of_eq Array.length_toList)]
      rfl
    · show ((T.heap.toList.drop T.heap.size).map (·.slots.size)).sum ≤ 0
      rw [List.drop_eq_nil_of_le (Nat.le_of_eq Array.length_toList)]
      exact Nat.le_refl _
/-- 'throw new E()': new; dup; invokespecial; athrow -/
theorem vx_throw0 {cc : ByteArray} {pc : Nat} (hexec : p.tables.exec = Jvm.exec) (hb : c.code = cc) (hl : l.stackTraces = false) {own cls : String} {names : List String} {ik ic mc ms : Nat} {A : Nat → Prop}
    (hown : s.vm.findClass own = some m.cls) (hcls : Bundle.fit cls = true) (hnames : ∀ n ∈ names, Bundle.fit n = true)
    (hk : (Cond.classLink own ik cls).before args s = true) (hini : (Cond.initialized cls).before args s = true) (hat : ∀ w ∈ vx_at0 own ic cls names, w.before args s = true)
    (hgood : ∀ w ∈ Cond.classLink own ik cls :: Cond.initialized cls :: vx_at0 own ic cls names, vx_ot w = true)
    (hU : vx_Zq Bundle.tN "UNASSIGNED_STACK" Bundle.steD A s s.heap) (hN : vx_Zq Bundle.tN "SUPPRESSED_SENTINEL" Bundle.listD A s s.heap) (hS : va_S A s.heap H locs) (hsize : ls.size = c.maxLocals)
    (d0 : decode cc pc = .ok (.new ik, 3)) (d3 : decode cc (pc + 3) = .ok (.dup, 1)) (d4 : decode cc (pc + 4) = .ok (.invokespecial ic, 3)) (d7 : decode cc (pc + 7) = .ok (.athrow, 1))
    (hout : ∀ x ∈ c.exceptionTable.toList, covers x (pc + 7) = false)
    (hRframes : names.length + 3 < R.frames) (hRlocals : (rest.map fun v => v.category).sum + (13 * (names.length + 1) + 42) ≤ R.locals) (hRcells : cells + 1 ≤ R.cells) (hRslots : slots + 6 ≤ R.slots) (hlocks : meth.locks = false)
    (hx : ∀ t : State, s.vm.Alike t.vm → H.size ≤ t.heap.size → (∀ q : Nat, q < H.size → t.heap[q]? = H[q]?) → XC cls s t)
    (hf : ∀ z ∈ locs, free z.base) (hc : cells + 1 ≤ mc) (hs : slots + 6 ≤ ms) :
    W p l e R s m args below meth c H locs cells slots (vx_MQ below Qc XC args s mc ms free) (F0 m pc ls rest) := by
  intro T hT X
  have htr : e.platform.stackTraces = false := (show e.platform.stackTraces = l.stackTraces by rw [X.admits.platform]).trans hl
  have Y := vx_rebase X (R' := { frames := R.frames, locals := R.locals, cells := 1, slots := 6 }) (Nat.le_refl _) (Nat.le_refl _) hRcells hRslots
  obtain ⟨s', hA⟩ : ∃ z, z = (T.setVm s.vm).setFrames (.invoking m args :: below) := ⟨_, rfl⟩
  rw [← hA] at Y
  have hvm : s'.vm = s.vm := by rw [hA]; rfl
  have hhp : s'.heap = H := by rw [hA]; exact hT
  have hW0 : s.WarmedH s'.vm := by rw [hvm]; exact State.WarmedH.refl s
  have hat' : ∀ w ∈ vx_at0 own ic cls names, w.before args s' = true := fun w hw => vx_ot_at hW0 hvm.symm (hgood w (List.mem_cons_of_mem _ (List.mem_cons_of_mem _ hw))) (hat w hw)
  have hk' : (Cond.classLink own ik cls).before args s' = true := vx_ot_at hW0 hvm.symm (hgood _ List.mem_cons_self) hk
  have hini' : (Cond.initialized cls).before args s' = true := vx_ot_at hW0 hvm.symm (hgood _ (List.mem_cons_of_mem _ List.mem_cons_self)) hini
  have hU' : vx_Zq Bundle.tN "UNASSIGNED_STACK" Bundle.steD A s' s'.heap := by rw [hhp]; exact vx_Zq.moved hW0.alike (hU.kept hS.2.1)
  have hN' : vx_Zq Bundle.tN "SUPPRESSED_SENTINEL" Bundle.listD A s' s'.heap := by rw [hhp]; exact vx_Zq.moved hW0.alike (hN.kept hS.2.1)
  have h : ∀ w ∈ Bundle.ownAtoms0 own ic cls names, w.before args s' = true := vx_own hat' (vx_isRefq hU'.1) (vx_isRefq hN'.1) hU'.2.word hN'.2.word
  have hown' : s'.vm.findClass own = some m.cls := by rw [hvm]; exact hown
  have hins : (Cond.instantiable cls 6).before args s' = true := h _ (by simp [Bundle.ownAtoms0])
  obtain ⟨vm₁, cX, kX, hfX, hkX, -, -, X₁, st1⟩ := Y.newCold hexec (own := own) (C := cls) (index := ik) (n := 6) hown' hk' hins hini'
    (g := F0 m pc ls rest) rfl (by rw [hb]; exact d0) (Nat.le_refl _) (Nat.le_refl _)
  generalize hT1 : (T.setVm vm₁).pushCell { cls := cX, slots := kX.instanceTypes.map defaultValue, vm := .none } = T1 at X₁ st1
  have hcat : (Value.ref T.heap.size).category = 1 := rfl
  have hcellA : T1.heap[T.heap.size]? = some (freshCell cX kX) := by rw [← hT1]; exact State.heap_pushCell_size _ _
  have d3' : decode c.code (pc + 3) = .ok (.dup, 1) := by rw [hb]; exact d3
  obtain ⟨U, hsteps, hrun, hend, hW, hsame, ce, hce, hO⟩ := X₁.ctorThrow0 hexec htr (own := own) (cls := cls) (names := names) (ic := ic) hown' hcls hnames h (fun x hx => nomatch hx) hfX hkX hcellA (by rw [hhp, hT]; exact Nat.le_refl _)
    (g := { method := m, pc := pc + 4, locals := ls, stack := .ref T.heap.size :: .ref T.heap.size :: rest, locked := none }) rfl hsize rfl rfl (rest := rest) rfl
    (by rw [hb]; exact d4) (by rw [hb]; exact d7) hout hRframes (by simp only [List.map_cons, List.sum_cons, hcat]; omega) hlocks
  obtain ⟨f1, f2⟩ := vx_frame hsame
  rw [hhp] at f1 f2
  have hWs : s.WarmedH U.vm := State.WarmedH.trans hW0 hW
  have hcl : s.vm.findClass cls = some ce.cls := by
    have h9 := hO.cls
    rw [hvm] at h9
    exact h9
  have hall : s.sameButNew ({ U with vm := s.vm } : State) locs mc ms := by
    subst hA
    obtain ⟨e1, e2⟩ := hsame
    rw [State.setFrames_setFrames] at e1
    have h2 : (T.setVm s.vm).sameButNew ({ U with vm := s.vm } : State) [] (0 + 1) (0 + 6) := ⟨e1, e2⟩
    have h3 := X.same.trans h2
    rw [List.append_nil] at h3
    exact h3.mono hc hs
  refine ⟨U, ?_, .threw T.heap.size, hrun, hend, Or.inr ⟨T.heap.size, rfl, cls, ce, locs, hx U hWs.alike f1 (fun q hq => f2 q hq (fun z hz => nomatch hz)), hce, hO.vm, hcl, hWs, hall, hf⟩⟩
  refine st1 _ ?_
  show Steps p.tables e below (T1.setTop { method := m, pc := pc + 3, locals := ls, stack := .ref T.heap.size :: rest, locked := none }) _
  jvm_step X₁.here [X₁.here.top, hexec, d3', Value.category]
  exact hsteps
/-- 'throw new E("text")': new; dup; ldc; invokespecial; athrow -/
theorem vx_throwS {cc : ByteArray} {pc : Nat} (hexec : p.tables.exec = Jvm.exec) (hb : c.code = cc) (hl : l.stackTraces = false) {own cls text : String} {names : List String} {ik is ic mc ms sa : Nat} {A : Nat → Prop}
    (hown : s.vm.findClass own = some m.cls) (hcls : Bundle.fit cls = true) (hnames : ∀ n ∈ names, Bundle.fit n = true)
    (hk : (Cond.classLink own ik cls).before args s = true) (hini : (Cond.initialized cls).before args s = true) (hstr : vk_R own is text sa s) (hat : ∀ w ∈ vx_atS own ic cls names, w.before args s = true)
    (hgood : ∀ w ∈ Cond.classLink own ik cls :: Cond.initialized cls :: vx_atS own ic cls names, vx_ot w = true)
    (hU : vx_Zq Bundle.tN "UNASSIGNED_STACK" Bundle.steD A s s.heap) (hN : vx_Zq Bundle.tN "SUPPRESSED_SENTINEL" Bundle.listD A s s.heap) (hS : va_S A s.heap H locs) (hsize : ls.size = c.maxLocals)
    (d0 : decode cc pc = .ok (.new ik, 3)) (d3 : decode cc (pc + 3) = .ok (.dup, 1)) (d4 : decode cc (pc + 4) = .ok (.ldc is, 2)) (d6 : decode cc (pc + 6) = .ok (.invokespecial ic, 3)) (d9 : decode cc (pc + 9) = .ok (.athrow, 1))
    (hout : ∀ x ∈ c.exceptionTable.toList, covers x (pc + 9) = false)
    (hRframes : names.length + 3 < R.frames) (hRlocals : (rest.map fun v => v.category).sum + (13 * (names.length + 1) + 43) ≤ R.locals) (hRcells : cells + 1 ≤ R.cells) (hRslots : slots + 6 ≤ R.slots) (hlocks : meth.locks = false)
    (hx : ∀ t : State, s.vm.Alike t.vm → H.size ≤ t.heap.size → (∀ q : Nat, q < H.size → t.heap[q]? = H[q]?) → XC cls s t)
    (hf : ∀ z ∈ locs, free z.base) (hc : cells + 1 ≤ mc) (hs : slots + 6 ≤ ms) :
    W p l e R s m args below meth c H locs cells slots (vx_MQ below Qc XC args s mc ms free) (F0 m pc ls rest) := by
  intro T hT X
  have htr : e.platform.stackTraces = false := (show e.platform.stackTraces = l.stackTraces by rw [X.admits.platform]).trans hl
  have Y := vx_rebase X (R' := { frames := R.frames, locals := R.locals, cells := 1, slots := 6 }) (Nat.le_refl _) (Nat.le_refl _) hRcells hRslots
  obtain ⟨s', hA⟩ : ∃ z, z = (T.setVm s.vm).setFrames (.invoking m args :: below) := ⟨_, rfl⟩
  rw [← hA] at Y
  have hvm : s'.vm = s.vm := by rw [hA]; rfl
  have hhp : s'.heap = H := by rw [hA]; exact hT
  have hW0 : s.WarmedH s'.vm := by rw [hvm]; exact State.WarmedH.refl s
  have hat' : ∀ w ∈ vx_atS own ic cls names, w.before args s' = true := fun w hw => vx_ot_at hW0 hvm.symm (hgood w (List.mem_cons_of_mem _ (List.mem_cons_of_mem _ hw))) (hat w hw)
  have hk' : (Cond.classLink own ik cls).before args s' = true := vx_ot_at hW0 hvm.symm (hgood _ List.mem_cons_self) hk
  have hini' : (Cond.initialized cls).before args s' = true := vx_ot_at hW0 hvm.symm (hgood _ (List.mem_cons_of_mem _ List.mem_cons_self)) hini
  have hU' : vx_Zq Bundle.tN "UNASSIGNED_STACK" Bundle.steD A s' s'.heap := by rw [hhp]; exact vx_Zq.moved hW0.alike (hU.kept hS.2.1)
  have hN' : vx_Zq Bundle.tN "SUPPRESSED_SENTINEL" Bundle.listD A s' s'.heap := by rw [hhp]; exact vx_Zq.moved hW0.alike (hN.kept hS.2.1)
  have h : ∀ w ∈ Bundle.ownAtoms own ic cls names, w.before args s' = true := vx_own hat' (vx_isRefq hU'.1) (vx_isRefq hN'.1) hU'.2.word hN'.2.word
  have hown' : s'.vm.findClass own = some m.cls := by rw [hvm]; exact hown
  have hins : (Cond.instantiable cls 6).before args s' = true := h _ (by simp [Bundle.ownAtoms])
  obtain ⟨vm₁, cX, kX, hfX, hkX, -, -, X₁, st1⟩ := Y.newCold hexec (own := own) (C := cls) (index := ik) (n := 6) hown' hk' hins hini'
    (g := F0 m pc ls rest) rfl (by rw [hb]; exact d0) (Nat.le_refl _) (Nat.le_refl _)
  generalize hT1 : (T.setVm vm₁).pushCell { cls := cX, slots := kX.instanceTypes.map defaultValue, vm := .none } = T1 at X₁ st1
  have hcat : (Value.ref T.heap.size).category = 1 := rfl
  have hcellA : T1.heap[T.heap.size]? = some (freshCell cX kX) := by rw [← hT1]; exact State.heap_pushCell_size _ _
  have d3' : decode c.code (pc + 3) = .ok (.dup, 1) := by rw [hb]; exact d3
  have d4' : decode c.code (pc + 4) = .ok (.ldc is, 2) := by rw [hb]; exact d4
  have hstr' : vk_R own is text sa s' := vk_R.warm hW0 hstr
  obtain ⟨U, hsteps, hrun, hend, hW, hsame, ce, hce, hO⟩ := X₁.ctorThrowS hexec htr (own := own) (cls := cls) (names := names) (ic := ic) hown' hcls hnames h (fun x hx => nomatch hx) hfX hkX hcellA (by rw [hhp, hT]; exact Nat.le_refl _) (msg := .ref sa) rfl
    (g := { method := m, pc := pc + 6, locals := ls, stack := .ref sa :: .ref T.heap.size :: .ref T.heap.size :: rest, locked := none }) rfl hsize rfl rfl (rest := rest) rfl
    (by rw [hb]; exact d6) (by rw [hb]; exact d9) hout hRframes (by simp only [List.map_cons, List.sum_cons, hcat]; omega) hlocks
  obtain ⟨f1, f2⟩ := vx_frame hsame
  rw [hhp] at f1 f2
  have hWs : s.WarmedH U.vm := State.WarmedH.trans hW0 hW
  have hcl : s.vm.findClass cls = some ce.cls := by
    have h9 := hO.cls
    rw [hvm] at h9
    exact h9
  have hall : s.sameButNew ({ U with vm := s.vm } : State) locs mc ms := by
    subst hA
    obtain ⟨e1, e2⟩ := hsame
    rw [State.setFrames_setFrames] at e1
    have h2 : (T.setVm s.vm).sameButNew ({ U with vm := s.vm } : State) [] (0 + 1) (0 + 6) := ⟨e1, e2⟩
    have h3 := X.same.trans h2
    rw [List.append_nil] at h3
    exact h3.mono hc hs
  refine ⟨U, ?_, .threw T.heap.size, hrun, hend, Or.inr ⟨T.heap.size, rfl, cls, ce, locs, hx U hWs.alike f1 (fun q hq => f2 q hq (fun z hz => nomatch hz)), hce, hO.vm, hcl, hWs, hall, hf⟩⟩
  refine st1 _ ?_
  show Steps p.tables e below (T1.setTop { method := m, pc := pc + 3, locals := ls, stack := .ref T.heap.size :: rest, locked := none }) _
  jvm_step X₁.here [X₁.here.top, hexec, d3', Value.category]
  exact X₁.ldcString hexec (own := own) (text := text) (index := is) (a := sa) hown' hstr'.1 hstr'.2
    (g := { method := m, pc := pc + 4, locals := ls, stack := .ref T.heap.size :: .ref T.heap.size :: rest, locked := none }) rfl d4' _ hsteps
/-- 'throw new E("text")', the text by a wide index -/
theorem vx_throwSW {cc : ByteArray} {pc : Nat} (hexec : p.tables.exec = Jvm.exec) (hb : c.code = cc) (hl : l.stackTraces = false) {own cls text : String} {names : List String} {ik is ic mc ms sa : Nat} {A : Nat → Prop}
    (hown : s.vm.findClass own = some m.cls) (hcls : Bundle.fit cls = true) (hnames : ∀ n ∈ names, Bundle.fit n = true)
    (hk : (Cond.classLink own ik cls).before args s = true) (hini : (Cond.initialized cls).before args s = true) (hstr : vk_R own is text sa s) (hat : ∀ w ∈ vx_atS own ic cls names, w.before args s = true)
    (hgood : ∀ w ∈ Cond.classLink own ik cls :: Cond.initialized cls :: vx_atS own ic cls names, vx_ot w = true)
    (hU : vx_Zq Bundle.tN "UNASSIGNED_STACK" Bundle.steD A s s.heap) (hN : vx_Zq Bundle.tN "SUPPRESSED_SENTINEL" Bundle.listD A s s.heap) (hS : va_S A s.heap H locs) (hsize : ls.size = c.maxLocals)
    (d0 : decode cc pc = .ok (.new ik, 3)) (d3 : decode cc (pc + 3) = .ok (.dup, 1)) (d4 : decode cc (pc + 4) = .ok (.ldc_w is, 3)) (d7 : decode cc (pc + 7) = .ok (.invokespecial ic, 3)) (d10 : decode cc (pc + 10) = .ok (.athrow, 1))
    (hout : ∀ x ∈ c.exceptionTable.toList, covers x (pc + 10) = false)
    (hRframes : names.length + 3 < R.frames) (hRlocals : (rest.map fun v => v.category).sum + (13 * (names.length + 1) + 43) ≤ R.locals) (hRcells : cells + 1 ≤ R.cells) (hRslots : slots + 6 ≤ R.slots) (hlocks : meth.locks = false)
    (hx : ∀ t : State, s.vm.Alike t.vm → H.size ≤ t.heap.size → (∀ q : Nat, q < H.size → t.heap[q]? = H[q]?) → XC cls s t)
    (hf : ∀ z ∈ locs, free z.base) (hc : cells + 1 ≤ mc) (hs : slots + 6 ≤ ms) :
    W p l e R s m args below meth c H locs cells slots (vx_MQ below Qc XC args s mc ms free) (F0 m pc ls rest) := by
  intro T hT X
  have htr : e.platform.stackTraces = false := (show e.platform.stackTraces = l.stackTraces by rw [X.admits.platform]).trans hl
  have Y := vx_rebase X (R' := { frames := R.frames, locals := R.locals, cells := 1, slots := 6 }) (Nat.le_refl _) (Nat.le_refl _) hRcells hRslots
  obtain ⟨s', hA⟩ : ∃ z, z = (T.setVm s.vm).setFrames (.invoking m args :: below) := ⟨_, rfl⟩
  rw [← hA] at Y
  have hvm : s'.vm = s.vm := by rw [hA]; rfl
  have hhp : s'.heap = H := by rw [hA]; exact hT
  have hW0 : s.WarmedH s'.vm := by rw [hvm]; exact State.WarmedH.refl s
  have hat' : ∀ w ∈ vx_atS own ic cls names, w.before args s' = true := fun w hw => vx_ot_at hW0 hvm.symm (hgood w (List.mem_cons_of_mem _ (List.mem_cons_of_mem _ hw))) (hat w hw)
  have hk' : (Cond.classLink own ik cls).before args s' = true := vx_ot_at hW0 hvm.symm (hgood _ List.mem_cons_self) hk
  have hini' : (Cond.initialized cls).before args s' = true := vx_ot_at hW0 hvm.symm (hgood _ (List.mem_cons_of_mem _ List.mem_cons_self)) hini
  have hU' : vx_Zq Bundle.tN "UNASSIGNED_STACK" Bundle.steD A s' s'.heap := by rw [hhp]; exact vx_Zq.moved hW0.alike (hU.kept hS.2.1)
  have hN' : vx_Zq Bundle.tN "SUPPRESSED_SENTINEL" Bundle.listD A s' s'.heap := by rw [hhp]; exact vx_Zq.moved hW0.alike (hN.kept hS.2.1)
  have h : ∀ w ∈ Bundle.ownAtoms own ic cls names, w.before args s' = true := vx_own hat' (vx_isRefq hU'.1) (vx_isRefq hN'.1) hU'.2.word hN'.2.word
  have hown' : s'.vm.findClass own = some m.cls := by rw [hvm]; exact hown
  have hins : (Cond.instantiable cls 6).before args s' = true := h _ (by simp [Bundle.ownAtoms])
  obtain ⟨vm₁, cX, kX, hfX, hkX, -, -, X₁, st1⟩ := Y.newCold hexec (own := own) (C := cls) (index := ik) (n := 6) hown' hk' hins hini'
    (g := F0 m pc ls rest) rfl (by rw [hb]; exact d0) (Nat.le_refl _) (Nat.le_refl _)
  generalize hT1 : (T.setVm vm₁).pushCell { cls := cX, slots := kX.instanceTypes.map defaultValue, vm := .none } = T1 at X₁ st1
  have hcat : (Value.ref T.heap.size).category = 1 := rfl
  have hcellA : T1.heap[T.heap.size]? = some (freshCell cX kX) := by rw [← hT1]; exact State.heap_pushCell_size _ _
  have d3' : decode c.code (pc + 3) = .ok (.dup, 1) := by rw [hb]; exact d3
  have d4' : decode c.code (pc + 4) = .ok (.ldc_w is, 3) := by rw [hb]; exact d4
  have hstr' : vk_R own is text sa s' := vk_R.warm hW0 hstr
  obtain ⟨U, hsteps, hrun, hend, hW, hsame, ce, hce, hO⟩ := X₁.ctorThrowS hexec htr (own := own) (cls := cls) (names := names) (ic := ic) hown' hcls hnames h (fun x hx => nomatch hx) hfX hkX hcellA (by rw [hhp, hT]; exact Nat.le_refl _) (msg := .ref sa) rfl
    (g := { method := m, pc := pc + 7, locals := ls, stack := .ref sa :: .ref T.heap.size :: .ref T.heap.size :: rest, locked := none }) rfl hsize rfl rfl (rest := rest) rfl
    (by rw [hb]; exact d7) (by rw [hb]; exact d10) hout hRframes (by simp only [List.map_cons, List.sum_cons, hcat]; omega) hlocks
  obtain ⟨f1, f2⟩ := vx_frame hsame
  rw [hhp] at f1 f2
  have hWs : s.WarmedH U.vm := State.WarmedH.trans hW0 hW
  have hcl : s.vm.findClass cls = some ce.cls := by
    have h9 := hO.cls
    rw [hvm] at h9
    exact h9
  have hall : s.sameButNew ({ U with vm := s.vm } : State) locs mc ms := by
    subst hA
    obtain ⟨e1, e2⟩ := hsame
    rw [State.setFrames_setFrames] at e1
    have h2 : (T.setVm s.vm).sameButNew ({ U with vm := s.vm } : State) [] (0 + 1) (0 + 6) := ⟨e1, e2⟩
    have h3 := X.same.trans h2
    rw [List.append_nil] at h3
    exact h3.mono hc hs
  refine ⟨U, ?_, .threw T.heap.size, hrun, hend, Or.inr ⟨T.heap.size, rfl, cls, ce, locs, hx U hWs.alike f1 (fun q hq => f2 q hq (fun z hz => nomatch hz)), hce, hO.vm, hcl, hWs, hall, hf⟩⟩
  refine st1 _ ?_
  show Steps p.tables e below (T1.setTop { method := m, pc := pc + 3, locals := ls, stack := .ref T.heap.size :: rest, locked := none }) _
  jvm_step X₁.here [X₁.here.top, hexec, d3', Value.category]
  exact X₁.ldcStringW hexec (own := own) (text := text) (index := is) (a := sa) hown' hstr'.1 hstr'.2
    (g := { method := m, pc := pc + 4, locals := ls, stack := .ref T.heap.size :: .ref T.heap.size :: rest, locked := none }) rfl d4' _ hsteps
end Ends
section Bodies
variable {l : Launch}
theorem vx_ofW {y : MethodName} {ws ws' : List Cond} {rm : Room} {Pc : Array Value → State → Prop} {Qc : Array Value → State → Outcome → State → Prop} {XC : String → State → State → Prop} {mc ms : Nat} {free : Addr → Prop} {cc : ByteArray} {maxL : Nat} {ret : Option FieldType}
    (hy : plainName y.cls = true) (hw : ws = Cond.code y cc maxL ret :: ws')
    (body : ∀ p e s m args below meth c s₁, BodyLoose p l y (headSpec ws rm) cc maxL ret e s m args below meth c s₁ → c.maxLocals = maxL → (∀ x ∈ c.exceptionTable.toList, False) → Pc args s →
      W p l e (headSpec ws rm).room s m args below meth c s.heap [] 0 0 (vx_MQ below Qc XC args s mc ms free) (entryFrame m args maxL)) : vx_Met l y ws rm Pc Qc XC mc ms free := by
  refine MetFree.of_bodyS (code := cc) (maxLocals := maxL) (ret := ret) hy ?_ ?_
  · intro args s m h hn
    obtain ⟨meth, c, h1, h2, h3, h4, h5, h6, -, -⟩ := Cond.code_spec hn (atoms_spec (ws := ws) h _ (by rw [hw]; exact List.mem_cons_self))
    exact ⟨meth, c, h1, h2, h3, h4, h5, h6⟩
  · intro p e s m args below meth c s₁ B hml hP _
    have hh0 : s₁.heap = s.heap := by rw [B.state]; rfl
    have ht : ∀ x ∈ c.exceptionTable.toList, False := by
      obtain ⟨meth9, c9, h1, h2, -, -, -, -, h7, -⟩ := Cond.code_spec B.named (atoms_spec (ws := ws) B.pre _ (by rw [hw]; exact List.mem_cons_self))
      cases Option.some.inj (h1.symm.trans B.method)
      cases Option.some.inj (h2.symm.trans (Stand.of_body B).code)
      intro x hx
      rw [Array.isEmpty_iff.mp h7] at hx
      cases hx
    obtain ⟨t, a1, o, b1, b2, b3⟩ := body p e s m args below meth c s₁ B hml ht hP s₁ hh0 (Stand.of_body B)
    exact ⟨t, o, a1, b1, b2, b3⟩
/-- the table of a body with handlers -/
theorem vx_table {p : Program} {x y : MethodName} {S : Spec} {cc bytes : ByteArray} {maxL maxL' : Nat} {ret ret' : Option FieldType} {e : Env} {s s₁ : State} {m : MethodId} {args : Array Value} {below : List Frame} {meth : Method} {c : Code} {hh : List (Nat × Nat × Nat × Nat)}
    (B : BodyLoose p l y S cc maxL ret e s m args below meth c s₁) (h : (Cond.codeWith y bytes maxL' ret' hh).before args s = true) : c.exceptionTable.toList = tableOf hh := by
  obtain ⟨m9, meth9, c9, hn9, h1, h2, -, -, h6, -⟩ := Cond.codeWith_spec h
  cases Option.some.inj (hn9.symm.trans B.named)
  cases Option.some.inj (h1.symm.trans B.method)
  cases Option.some.inj (h2.symm.trans (Stand.of_body B).code)
  rw [← h6, table_eq]
end Bodies
end VXA
/-! ===== END ===== -/
/-! ===== BEGIN a static call of a method with an exception table ===== -/
section VXS
variable {p : Program} {l : Launch} {e : Env} {R : Room} {s : State} {m : MethodId} {args : Array Value} {below : List Frame} {meth : Method} {c : Code} {T : State} {H : Heap} {locs : List Loc} {cells slots : Nat}
abbrev vx_CSW (R : Room) (s : State) (args : Array Value) (own : String) (index : Nat) (y : MethodName) (bytes : ByteArray) (maxL : Nat) (ret : Option FieldType) (hh : List (Nat × Nat × Nat × Nat)) (ws : List Cond) (rm : Room) (mc ms n : Nat) : Prop :=
  (rm.cells = mc ∧ rm.slots = ms ∧ rm.frames + 1 ≤ R.frames ∧ 8 + (maxL + 11) + rm.locals ≤ R.locals ∧ (∀ w ∈ ws, ∀ (a' : Array Value) (U : State), s.WarmedH U.vm → w.before a' U = true) ∧ Cond.codeWith y bytes maxL ret hh ∈ ws) ∧
  (Cond.codeWith y bytes maxL ret hh).before args s = true ∧ (Cond.initialized y.cls).before args s = true ∧ (y.cls ≠ "java/lang/invoke/MethodHandle" ∧ y.cls ≠ "java/lang/invoke/VarHandle") ∧
  (∀ sig, parseMethodDescriptor y.desc = some sig → n = sig.parameters.length) ∧ (Cond.methodLink own index y).before args s = true ∧ (Cond.static y).before args s = true
theorem vx_cwSW {own : String} {index maxL mc ms : Nat} {y : MethodName} {bytes : ByteArray} {ret : Option FieldType} {hh : List (Nat × Nat × Nat × Nat)} {Ts ws ws' : List Cond} {rm : Room} (n : Nat) (ht : ∀ w ∈ Ts, w.before args s = true) (hT : GoodIn Ts (va_wsS own index y ws)) (hw : ws = Cond.codeWith y bytes maxL ret hh :: ws') (hrc : rm.cells = mc) (hrs : rm.slots = ms)
    (hd : y.cls ≠ "java/lang/invoke/MethodHandle" ∧ y.cls ≠ "java/lang/invoke/VarHandle" ∧ (parseMethodDescriptor y.desc).map (fun d => d.parameters.length) = some n) (hR : rm.frames + 1 ≤ R.frames ∧ 8 + (maxL + 11) + rm.locals ≤ R.locals) :
    vx_CSW R s args own index y bytes maxL ret hh ws rm mc ms n := by
  have ok : ∀ w ∈ va_wsS own index y ws, w.before args s = true := fun w h => ht w (hT w h).1
  have hG : GoodIn Ts ws := fun w h => hT w (by unfold va_wsS; exact List.mem_append_right _ h)
  have hc : Cond.codeWith y bytes maxL ret hh ∈ ws := by rw [hw]; exact List.mem_cons_self
  refine ⟨⟨hrc, hrs, hR.1, hR.2, pay_in ht hG, hc⟩, ht _ (hG _ hc).1, ok _ (by simp [va_wsS]), ⟨hd.1, hd.2.1⟩, fun sig h => ?_, ok _ (by simp [va_wsS]), ok _ (by simp [va_wsS])⟩
  have h2 := hd.2.2
  rw [h] at h2
  exact (Option.some.inj h2).symm
theorem vx_callSW (X : Stand p l e R s m args below meth c T locs cells slots) (hexec : p.tables.exec = Jvm.exec) {own : String} {index : Nat} {y : MethodName} {bytes : ByteArray} {maxL : Nat} {ret : Option FieldType} {hh : List (Nat × Nat × Nat × Nat)}
    (hown : s.vm.findClass own = some m.cls) (hlink : (Cond.methodLink own index y).before args s = true) (hstat : (Cond.static y).before args s = true) (hinit : (Cond.initialized y.cls).before args s = true)
    (hcode : (Cond.codeWith y bytes maxL ret hh).before args s = true) (hy : y.cls ≠ "java/lang/invoke/MethodHandle" ∧ y.cls ≠ "java/lang/invoke/VarHandle")
    {W9 : Nat} {Pre : Pt → Array Value → Prop} {Post : Pt → Array Value → Option Value → Pt → Prop} (hK : Back l R p e below s args y 3 W9 Pre Post)
    {g : JFrame} (hg : g.method = m) (hsize : g.locals.size = c.maxLocals) {argsL rest : List Value} (hlen : ∀ sig, parseMethodDescriptor y.desc = some sig → argsL.length = sig.parameters.length)
    (hstack : g.stack = argsL.reverse ++ rest) (hW : 2 * g.monitorRoom + (rest.map fun v => v.category).sum ≤ W9) (hdg : decode c.code g.pc = .ok (.invokestatic index, 3))
    (hpre : ∀ vm₁, s.WarmedH vm₁ → Pre ⟨T.setVm vm₁, locs, cells, slots⟩ argsL.toArray) :
    ∃ (v : Option Value) (vm₁ : Vm) (B : Pt), s.WarmedH vm₁ ∧ Stand p l e R s m args below meth c B.U B.locs B.cells B.slots ∧ Post ⟨T.setVm vm₁, locs, cells, slots⟩ argsL.toArray v B ∧
      ∀ target, Steps p.tables e below (B.U.setTop { g with pc := g.pc + 3, stack := v.toList ++ rest }) target → Steps p.tables e below (T.setTop g) target := by
  obtain ⟨mk, methM, cM, hnamed, hmethM, -, -, -, -, -, -, hsigM⟩ := Cond.codeWith_spec hcode
  have hstatic : methM.isStatic = true := Cond.static_spec hnamed hmethM hstat
  obtain ⟨kP, hkP, -⟩ := className_of_methodNamed hnamed
  have hinitP : kP.init = .initialized := Cond.initialized_spec (findClass_of_methodNamed hnamed) hkP hinit
  obtain ⟨vm₁, X₁, hstep₁⟩ := X.invokestatic hexec hown hlink hnamed hmethM hstatic hkP hinitP hy (g := g) hg (argsL := argsL) (rest := rest) (hlen _ hsigM) hstack hdg
  obtain ⟨v, B, X', hpost, hsteps⟩ := hK m meth c ⟨T.setVm vm₁, locs, cells, slots⟩ { g with stack := rest } (.invokestatic index) mk argsL.toArray X₁ hg hsize hdg hW (X₁.named hnamed) (hpre vm₁ X₁.warmed)
  exact ⟨v, vm₁, B, X₁.warmed, X', hpost, fun target h => hstep₁ _ fun acts => by rw [doInvoke_state]; exact hsteps.trans h⟩
theorem vx_runSW {y : MethodName} {bytes cc : ByteArray} {maxL nL mc ms n index : Nat} {ret : Option FieldType} {hh : List (Nat × Nat × Nat × Nat)} {ws : List Cond} {rm : Room} {Pc : Array Value → State → Prop} {Qc : Array Value → State → Outcome → State → Prop} {free : Addr → Prop} {Ts : List Cond} {own : String} {As rest : List Value} {g : JFrame}
    (S : CallFix p m c cc nL s args Ts own) (hM : Met l y ws rm Pc Qc mc ms free) (cw : vx_CSW R s args own index y bytes maxL ret hh ws rm mc ms n) (hp : PreS s H Pc As)
    (hg : g.method = m) (hn : As.length = n) (hsize : g.locals.size = nL) (hstack : g.stack = As.reverse ++ rest) (hW : 2 * g.monitorRoom + (rest.map fun v => v.category).sum ≤ 8) (hdg : decode cc g.pc = .ok (.invokestatic index, 3)) (hf : cells + mc ≤ R.cells ∧ slots + ms ≤ R.slots) :
    va_Run p l e R s m args below meth c H locs cells slots mc ms g rest (Qc As.toArray) (free) := by
  obtain ⟨⟨hrc, hrs, hfr, hlo, hws, hcw⟩, hcode, hini, hy, hlen, hl, hstt⟩ := cw
  have hK : Back l R p e below s args y 3 8 (PreOf R mc ms Pc) (PostOf Qc mc ms free) := va_backW (hh := hh) (bytes := bytes) (maxL := maxL) (ret := ret) hM hp.1 hrc hrs hfr hlo hws hcw (fun a' U hW => word_at hW (Or.inl (by first | rfl | simp [Cond.onTables, Cond.keeps, Cond.steady])) hini)
  obtain ⟨hx, hb, hml, ho, -⟩ := S
  intro T hT X
  obtain ⟨v, vm₁, ⟨U', l2, c2, s2⟩, hW₁, X', ⟨g', mk, t, L, e1, e2, hq, h1, hL, h2, h3⟩, st⟩ := vx_callSW X hx (hh := hh) (bytes := bytes) (maxL := maxL) (ret := ret) ho hl hstt hini hcode hy hK hg (hsize.trans hml.symm) (argsL := As) (rest := rest) (fun sig h => hn.trans (hlen sig h)) hstack hW (by rw [hb]; exact hdg)
    (fun vm₁ hW₁ => ⟨hf.1, hf.2, hp.2 (T.setVm vm₁) hT hW₁⟩)
  dsimp only [Pt.U, Pt.locs, Pt.cells, Pt.slots] at X' e1 e2 h1 h2 h3 st
  subst h1; subst h2; subst h3
  exact ⟨v, (T.setVm vm₁).calling g' mk As.toArray, t, U', L, hT, X', hL, e1, e2, hq, st⟩
/-- not caught here, past rows that name other classes: it goes on to the caller -/
theorem vx_outP {p : Program} {l : Launch} {e : Env} {R : Room} {s : State} {m : MethodId} {args : Array Value} {below : List Frame} {meth : Method} {c : Code} {H : Heap} {locs : List Loc} {cells slots : Nat} {free : Addr → Prop} {ls : Array Slot} {rest : List Value} {Qc : Array Value → State → Outcome → State → Prop} {XC : String → State → State → Prop}
    {pc : Nat} {own E : String} {ce : Cell} {q : Addr} {mc ms : Nat} (hown : s.vm.findClass own = some m.cls) (hlocks : meth.locks = false)
    (hpass : ∀ z ∈ c.exceptionTable.toList, covers z pc = false ∨ (z.catchType ≠ 0 ∧ ∃ nm : String, (Cond.classLink own z.catchType nm).before args s = true ∧ va_Nc E nm s)) (hcell : H[q]? = some ce) (hv : ce.vm = .none) (hcl : s.vm.findClass E = some ce.cls)
    (hx : ∀ t : State, t.heap = H → s.vm.Alike t.vm → XC E s t) (hf : ∀ z ∈ locs, free z.base) (hc : cells ≤ mc) (hs : slots ≤ ms) :
    vx_W p l e R s m args below meth c H locs cells slots (vx_MQ below Qc XC args s mc ms free) (F0 m pc ls rest) q := by
  intro T hT X
  have hpl : e.platform.magicAccessors = ({} : Platform).magicAccessors := by rw [X.admits.platform]
  obtain ⟨vm', hW', X', st⟩ := X.outThrough hlocks q (g := F0 m pc ls rest) rfl rfl rfl (cell := ce) (by rw [hT]; exact hcell) (by rw [hv]; rfl)
    (by obtain ⟨k9, h9, -⟩ := Vm.findClass_spec hcl; exact ⟨k9, h9⟩) (fun z hz => by
      rcases hpass z hz with h | ⟨hz0, nm, hl1, hn1⟩
      · exact Or.inl h
      · obtain ⟨c6, hc6, hcl6⟩ := Cond.classLink_spec hown hl1 e.platform hpl
        obtain ⟨a8, b8, h1, h2, h3⟩ := hn1
        cases Option.some.inj (h1.symm.trans hcl)
        cases Option.some.inj (h2.symm.trans hc6)
        exact Or.inr ⟨hz0, _, hcl6, h3⟩)
  obtain ⟨g₀, hfr⟩ := X'.frames_eq
  have hcell9 : ((T.setVm vm').setFrames (.throwing q :: below)).heap[q]? = some ce := by
    show T.heap[q]? = some ce
    rw [hT]; exact hcell
  have hend : Ended ((T.setVm vm').setFrames (.throwing q :: below)) below (.threw q) := State.frames_setFrames _ (State.cur_lt_of_frames hfr)
  refine ⟨(T.setVm vm').setFrames (.throwing q :: below), ?_, .threw q, X'.here.running, hend, Or.inr ⟨q, rfl, E, ce, locs, hx _ hT (X'.ends _).1.alike, hcell9, hv, hcl, (X'.ends _).1, (X'.ends _).2.mono hc hs, hf⟩⟩
  rw [X.pushThrowing_eq]
  exact st
/-- a thing of a world lies in the heap -/
theorem vx_lt {D : va_G} {cl : List vw_C} {ws : va_W} {H1 : Heap} (h : va_P D cl ws H1) {k : Nat} {q : Nat × va_E} (hk : ws[k]? = some q) : q.1 < H1.size := (h k q hk).lt
end VXS
/-! ===== END ===== -/
/-! ===== BEGIN methods with a table of their own: called by a name, returning or throwing ===== -/
section VXH
/-! vx_backW, vx_callVX, vx_callSX, vx_callVW, vx_runVW, vx_runVX, vx_runSX, vx_ofWH follow the same proofs as their sisters above (Free/Laws.lean, Shelf42/LK1.lean); vx_outP calls Shelf42/NT130.lean (outThrough). -/
section
variable {l : Launch} {R : Room} {p : Program} {e : Env} {below : List Frame} {s : State} {sargs : Array Value} {y : MethodName} {len W9 : Nat}
theorem vx_backW {ws : List Cond} {rm : Room} {Pc : Array Value → State → Prop} {Qc : Array Value → State → Outcome → State → Prop} {XC : String → State → State → Prop} {mc ms : Nat} {free : Addr → Prop} {bytes : ByteArray} {maxL : Nat} {ret : Option FieldType} {hh : List (Nat × Nat × Nat × Nat)}
    (hM : vx_Met l y ws rm Pc Qc XC mc ms free) (hblind : FrameBlind Pc) (hrc : rm.cells = mc) (hrs : rm.slots = ms)
    (hframes : rm.frames + 1 ≤ R.frames) (hlocals : W9 + (maxL + 11) + rm.locals ≤ R.locals)
    (hws : ∀ w ∈ ws, ∀ a' U, s.WarmedH U.vm → w.before a' U = true) (hcode : Cond.codeWith y bytes maxL ret hh ∈ ws) (hinit : ∀ a' U, s.WarmedH U.vm → (Cond.initialized y.cls).before a' U = true) :
    vx_Back l R p e below s sargs y len W9 (PreOf R mc ms Pc) (PostOf Qc mc ms free) (vx_Post XC mc ms free) := by
  intro m meth c A g ig mk a X hg hsize hdg hW hn hp
  have h1 : (headSpec ws rm).pre.before a A.U = true := atoms_intro fun w hw => hws w hw _ _ X.warmed
  have h2 : (Cond.codeWith y bytes maxL ret hh).before a A.U = true := hws _ hcode _ _ X.warmed
  have h3 : (Cond.initialized y.cls).before a A.U = true := hinit _ _ X.warmed
  have h4 : A.cells + (headSpec ws rm).room.cells ≤ R.cells := by rw [show (headSpec ws rm).room.cells = mc from hrc]; exact hp.1
  have h5 : A.slots + (headSpec ws rm).room.slots ≤ R.slots := by rw [show (headSpec ws rm).room.slots = ms from hrs]; exact hp.2.1
  have hPc : Pc a (A.U.calling g mk a) := hblind _ _ _ _ hp.2.2
  obtain ⟨U, Ls, c0, s0⟩ := A
  dsimp only [Pt.U, Pt.locs, Pt.cells, Pt.slots] at h1 h2 h3 h4 h5 X hn hPc ⊢
  obtain ⟨m9, methY, cY, hn9, hmY, hcY, -, hlY, -⟩ := Cond.codeWith_spec h2
  cases Option.some.inj (hn9.symm.trans hn)
  obtain ⟨kY, hkY, -⟩ := className_of_methodNamed hn
  have hinitY : kY.init = .initialized := Cond.initialized_spec (findClass_of_methodNamed hn) hkY h3
  have h : At U g.method c below := by rw [hg]; exact X.here
  have hlocals9 : W9 + (maxL + 11) + (headSpec ws rm).room.locals ≤ R.locals := hlocals
  have happ : (headSpec ws rm).appliesLoose y e.platform (U.calling g mk a) = true :=
    Spec.appliesLoose_calling (g := g) h hdg hn hkY hinitY
      (X.room_calling (g := g) (R' := (headSpec ws rm).room) hsize hmY hcY hframes (by rw [hlY]; omega) h4 h5) h1
  obtain ⟨mid, hmid⟩ := h.above
  have hfr : (U.setTop g).frames = (.java g :: mid) ++ below := by rw [State.frames_setTop' g h.top, hmid]; rfl
  obtain ⟨o, s₂, hsteps, -, hend, hq⟩ := Steps.callFree hM p X.admits X.cas X.clock (acts := []) hfr happ hPc trivial
  have hq' : vx_Q Qc XC mc ms free a (U.calling g mk a) o s₂ := hq
  rw [State.frames_setTop' g h.top] at hend
  obtain ⟨g₀, hg0⟩ := Option.isSome_iff_exists.mp h.top
  obtain ⟨r, hr⟩ := State.topJava?_eq_some.mp hg0
  have hr' : (({ U with heap := s₂.heap, slotsUsed := s₂.slotsUsed } : State).setVm s₂.vm).frames = .java g₀ :: r := hr
  rcases hq' with ⟨hqc, L, hfe, hL⟩ | ⟨q, rfl, E, ce, L, hx, hce, hcv, hcl, hW₂, hsm, hL⟩
  · obtain ⟨⟨v, rfl⟩, hW₂, e2, q2, q3, q4, q5, q6⟩ := id hfe
    have e3 : s₂ = ({ (U.calling g mk a).setFrames s₂.frames with heap := s₂.heap, slotsUsed := s₂.slotsUsed } : State).setVm s₂.vm := by
      have : s₂ = ({ s₂ with vm := (U.calling g mk a).vm } : State).setVm s₂.vm := rfl
      rw [e2] at this
      exact this
    obtain ⟨c₂, i₂, len₂, hc₂, hd₂, hf₂⟩ := hend
    have hW' : U.WarmedH s₂.vm := hW₂
    have hcc : c₂ = c := by
      have h1 : s₂.code? g.method = U.code? g.method := by
        rw [State.code?_eq, State.code?_eq, hW'.alike.method?]
      exact Option.some.inj (hc₂.symm.trans (h1.trans h.code))
    subst hcc
    have hlen : len₂ = len := by rw [hdg] at hd₂; cases hd₂; rfl
    subst hlen
    have hs₂ : s₂ = (({ U with heap := s₂.heap, slotsUsed := s₂.slotsUsed } : State).setVm s₂.vm).setTop { g with pc := g.pc + len₂, stack := v.toList ++ g.stack } := by
      refine e3.trans ?_
      rw [hf₂, State.calling_eq h.top, State.setFrames_setFrames, State.setTop_of_frames _ hr', hr]
      rfl
    have hsame : U.sameButNew ({ U with heap := s₂.heap, slotsUsed := s₂.slotsUsed } : State) L mc ms := by
      refine ⟨?_, q2, q3, q4, q5, q6⟩
      obtain ⟨t, ht, -⟩ := State.frames_cons hr
      show ({ U with heap := s₂.heap, slotsUsed := s₂.slotsUsed } : State) = { U.setFrames U.frames with heap := s₂.heap, slotsUsed := s₂.slotsUsed }
      rw [State.setFrames_self ht]
    subst hg
    refine Or.inl ⟨v, ⟨(({ U with heap := s₂.heap, slotsUsed := s₂.slotsUsed } : State).setVm s₂.vm), Ls ++ L, c0 + mc, s0 + ms⟩,
      ⟨X.admits, X.cas, X.clock, X.frames, X.room, X.hears, X.method, X.code, (X.here.setHeapUsed s₂.heap s₂.slotsUsed).setVm hW'.alike, X.tail, State.WarmedH.trans X.warmed hW', X.limits, X.bytes, X.same.trans (hsame.setVm s.vm)⟩,
      ⟨g, mk, s₂, L, rfl, rfl, hqc, rfl, hL, rfl, rfl⟩, ?_⟩
    show Steps p.tables e below _ ((({ U with heap := s₂.heap, slotsUsed := s₂.slotsUsed } : State).setVm s₂.vm).setTop { g with pc := g.pc + len₂, stack := v.toList ++ g.stack })
    rw [← hs₂]
    exact hsteps
  · obtain ⟨e2, q2, q3, q4, q5, q6⟩ := id hsm
    have e3 : s₂ = ({ (U.calling g mk a).setFrames s₂.frames with heap := s₂.heap, slotsUsed := s₂.slotsUsed } : State).setVm s₂.vm := by
      have : s₂ = ({ s₂ with vm := (U.calling g mk a).vm } : State).setVm s₂.vm := rfl
      rw [e2] at this
      exact this
    have hf₂ : s₂.frames = .throwing q :: .java g :: U.frames.tail := hend
    have hW' : U.WarmedH s₂.vm := hW₂
    have hs₂ : s₂ = ((({ U with heap := s₂.heap, slotsUsed := s₂.slotsUsed } : State).setVm s₂.vm).setTop g).pushFrame (.throwing q) := by
      refine e3.trans ?_
      rw [hf₂, State.calling_eq h.top, State.setFrames_setFrames, State.pushFrame, State.frames_setTop _ hr', State.setTop_of_frames _ hr', State.setFrames_setFrames, hr]
      rfl
    have hsame : U.sameButNew ({ U with heap := s₂.heap, slotsUsed := s₂.slotsUsed } : State) L mc ms := by
      refine ⟨?_, q2, q3, q4, q5, q6⟩
      obtain ⟨t, ht, -⟩ := State.frames_cons hr
      show ({ U with heap := s₂.heap, slotsUsed := s₂.slotsUsed } : State) = { U.setFrames U.frames with heap := s₂.heap, slotsUsed := s₂.slotsUsed }
      rw [State.setFrames_self ht]
    subst hg
    refine Or.inr ⟨q, ⟨(({ U with heap := s₂.heap, slotsUsed := s₂.slotsUsed } : State).setVm s₂.vm), Ls ++ L, c0 + mc, s0 + ms⟩,
      ⟨X.admits, X.cas, X.clock, X.frames, X.room, X.hears, X.method, X.code, (X.here.setHeapUsed s₂.heap s₂.slotsUsed).setVm hW'.alike, X.tail, State.WarmedH.trans X.warmed hW', X.limits, X.bytes, X.same.trans (hsame.setVm s.vm)⟩,
      ⟨g, mk, s₂, L, E, ce, rfl, rfl, hx, hce, hcv, hcl, rfl, hL, rfl, rfl⟩, ?_⟩
    show Steps p.tables e below _ (((({ U with heap := s₂.heap, slotsUsed := s₂.slotsUsed } : State).setVm s₂.vm).setTop g).pushFrame (.throwing q))
    rw [← hs₂]
    exact hsteps
end
variable {p : Program} {l : Launch} {e : Env} {R : Room} {s : State} {m : MethodId} {args : Array Value} {below : List Frame} {meth : Method} {c : Code} {T : State} {H : Heap} {locs : List Loc} {cells slots : Nat}
theorem vx_callVX (X : Stand p l e R s m args below meth c T locs cells slots) (hexec : p.tables.exec = Jvm.exec) {own C : String} {index : Nat} {y : MethodName} {bytes : ByteArray} {maxL : Nat} {ret : Option FieldType} {hh : List (Nat × Nat × Nat × Nat)}
    (hown : s.vm.findClass own = some m.cls) (hlink : (Cond.methodLink own index y).before args s = true) (hinst : (Cond.instanceMethod y).before args s = true) (hsel : (Cond.selects C y y).before args s = true)
    (hcode : (Cond.codeWith y bytes maxL ret hh).before args s = true) (hy : y.cls ≠ "java/lang/invoke/MethodHandle" ∧ y.cls ≠ "java/lang/invoke/VarHandle")
    {W9 : Nat} {Pre : Pt → Array Value → Prop} {Post : Pt → Array Value → Option Value → Pt → Prop} {PostX : Pt → Array Value → Addr → Pt → Prop} (hK : vx_Back l R p e below s args y 3 W9 Pre Post PostX)
    {b : Addr} {cellB : Cell} (hcell : T.heap[b]? = some cellB) (hobj : cellB.vm.isStatics = false) (hcls : s.vm.findClass C = some cellB.cls)
    {g : JFrame} (hg : g.method = m) (hsize : g.locals.size = c.maxLocals) {argsL rest : List Value} (hlen : ∀ sig, parseMethodDescriptor y.desc = some sig → argsL.length = sig.parameters.length)
    (hstack : g.stack = argsL.reverse ++ .ref b :: rest) (hW : 2 * g.monitorRoom + (rest.map fun v => v.category).sum ≤ W9) (hdg : decode c.code g.pc = .ok (.invokevirtual index, 3))
    (hpre : ∀ vm₁, s.WarmedH vm₁ → Pre ⟨T.setVm vm₁, locs, cells, slots⟩ (Value.ref b :: argsL).toArray) :
    (∃ (v : Option Value) (vm₁ : Vm) (B : Pt), s.WarmedH vm₁ ∧ Stand p l e R s m args below meth c B.U B.locs B.cells B.slots ∧ Post ⟨T.setVm vm₁, locs, cells, slots⟩ (Value.ref b :: argsL).toArray v B ∧
      ∀ target, Steps p.tables e below (B.U.setTop { g with pc := g.pc + 3, stack := v.toList ++ rest }) target → Steps p.tables e below (T.setTop g) target) ∨
    (∃ (q : Addr) (vm₁ : Vm) (B : Pt), s.WarmedH vm₁ ∧ Stand p l e R s m args below meth c B.U B.locs B.cells B.slots ∧ PostX ⟨T.setVm vm₁, locs, cells, slots⟩ (Value.ref b :: argsL).toArray q B ∧
      Steps p.tables e below (T.setTop g) ((B.U.setTop { g with stack := rest }).pushFrame (.throwing q))) := by
  obtain ⟨mk, methM, hnamed, hmethM, hstM, habM⟩ := Cond.instanceMethod_spec hinst
  obtain ⟨m8, methM', cM, hn8, hmethM', -, -, -, -, -, -, hsigM⟩ := Cond.codeWith_spec hcode
  cases Option.some.inj (hn8.symm.trans hnamed)
  cases hmethM.symm.trans hmethM'
  obtain ⟨c2, r2, m2, q1, q2, q3, q4, kP, hkP, hkPi⟩ := Cond.selects_spec hsel
  cases hcls.symm.trans q1
  cases (State.methodFound?_of_named hnamed hy).symm.trans q2
  cases hnamed.symm.trans q3
  have hselP : selectMethod e.platform s.vm cellB.cls mk = .method mk := by rw [Launch.admits_selectMethod X.admits]; exact q4
  obtain ⟨vm₁, X₁, hstep₁⟩ := X.invokevirtual hexec hown hlink hnamed hmethM hstM hkP hkPi hy (a := b) (cell := cellB) hcell
    (fun z h => by rw [h] at hobj; cases hobj) hselP hmethM habM hkP hkPi (g := g) hg (argsL := argsL) (rest := rest) (hlen _ hsigM) hstack hdg
  rcases hK m meth c ⟨T.setVm vm₁, locs, cells, slots⟩ { g with stack := rest } (.invokevirtual index) mk (Value.ref b :: argsL).toArray X₁ hg hsize hdg hW (X₁.named hnamed) (hpre vm₁ X₁.warmed) with ⟨v, B, X', hpost, hsteps⟩ | ⟨q, B, X', hpost, hsteps⟩
  · exact Or.inl ⟨v, vm₁, B, X₁.warmed, X', hpost, fun target h => hstep₁ _ fun acts => by rw [doInvoke_state]; exact hsteps.trans h⟩
  · exact Or.inr ⟨q, vm₁, B, X₁.warmed, X', hpost, hstep₁ _ fun acts => by rw [doInvoke_state]; exact hsteps⟩
theorem vx_callSX (X : Stand p l e R s m args below meth c T locs cells slots) (hexec : p.tables.exec = Jvm.exec) {own : String} {index : Nat} {y : MethodName} {bytes : ByteArray} {maxL : Nat} {ret : Option FieldType} {hh : List (Nat × Nat × Nat × Nat)}
    (hown : s.vm.findClass own = some m.cls) (hlink : (Cond.methodLink own index y).before args s = true) (hstat : (Cond.static y).before args s = true) (hinit : (Cond.initialized y.cls).before args s = true)
    (hcode : (Cond.codeWith y bytes maxL ret hh).before args s = true) (hy : y.cls ≠ "java/lang/invoke/MethodHandle" ∧ y.cls ≠ "java/lang/invoke/VarHandle")
    {W9 : Nat} {Pre : Pt → Array Value → Prop} {Post : Pt → Array Value → Option Value → Pt → Prop} {PostX : Pt → Array Value → Addr → Pt → Prop} (hK : vx_Back l R p e below s args y 3 W9 Pre Post PostX)
    {g : JFrame} (hg : g.method = m) (hsize : g.locals.size = c.maxLocals) {argsL rest : List Value} (hlen : ∀ sig, parseMethodDescriptor y.desc = some sig → argsL.length = sig.parameters.length)
    (hstack : g.stack = argsL.reverse ++ rest) (hW : 2 * g.monitorRoom + (rest.map fun v => v.category).sum ≤ W9) (hdg : decode c.code g.pc = .ok (.invokestatic index, 3))
    (hpre : ∀ vm₁, s.WarmedH vm₁ → Pre ⟨T.setVm vm₁, locs, cells, slots⟩ argsL.toArray) :
    (∃ (v : Option Value) (vm₁ : Vm) (B : Pt), s.WarmedH vm₁ ∧ Stand p l e R s m args below meth c B.U B.locs B.cells B.slots ∧ Post ⟨T.setVm vm₁, locs, cells, slots⟩ argsL.toArray v B ∧
      ∀ target, Steps p.tables e below (B.U.setTop { g with pc := g.pc + 3, stack := v.toList ++ rest }) target → Steps p.tables e below (T.setTop g) target) ∨
    (∃ (q : Addr) (vm₁ : Vm) (B : Pt), s.WarmedH vm₁ ∧ Stand p l e R s m args below meth c B.U B.locs B.cells B.slots ∧ PostX ⟨T.setVm vm₁, locs, cells, slots⟩ argsL.toArray q B ∧
      Steps p.tables e below (T.setTop g) ((B.U.setTop { g with stack := rest }).pushFrame (.throwing q))) := by
  obtain ⟨mk, methM, cM, hnamed, hmethM, -, -, -, -, -, -, hsigM⟩ := Cond.codeWith_spec hcode
  have hstatic : methM.isStatic = true := Cond.static_spec hnamed hmethM hstat
  obtain ⟨kP, hkP, -⟩ := className_of_methodNamed hnamed
  have hinitP : kP.init = .initialized := Cond.initialized_spec (findClass_of_methodNamed hnamed) hkP hinit
  obtain ⟨vm₁, X₁, hstep₁⟩ := X.invokestatic hexec hown hlink hnamed hmethM hstatic hkP hinitP hy (g := g) hg (argsL := argsL) (rest := rest) (hlen _ hsigM) hstack hdg
  rcases hK m meth c ⟨T.setVm vm₁, locs, cells, slots⟩ { g with stack := rest } (.invokestatic index) mk argsL.toArray X₁ hg hsize hdg hW (X₁.named hnamed) (hpre vm₁ X₁.warmed) with ⟨v, B, X', hpost, hsteps⟩ | ⟨q, B, X', hpost, hsteps⟩
  · exact Or.inl ⟨v, vm₁, B, X₁.warmed, X', hpost, fun target h => hstep₁ _ fun acts => by rw [doInvoke_state]; exact hsteps.trans h⟩
  · exact Or.inr ⟨q, vm₁, B, X₁.warmed, X', hpost, hstep₁ _ fun acts => by rw [doInvoke_state]; exact hsteps⟩
theorem vx_callVW (X : Stand p l e R s m args below meth c T locs cells slots) (hexec : p.tables.exec = Jvm.exec) {own C : String} {index : Nat} {y : MethodName} {bytes : ByteArray} {maxL : Nat} {ret : Option FieldType} {hh : List (Nat × Nat × Nat × Nat)}
    (hown : s.vm.findClass own = some m.cls) (hlink : (Cond.methodLink own index y).before args s = true) (hinst : (Cond.instanceMethod y).before args s = true) (hsel : (Cond.selects C y y).before args s = true)
    (hcode : (Cond.codeWith y bytes maxL ret hh).before args s = true) (hy : y.cls ≠ "java/lang/invoke/MethodHandle" ∧ y.cls ≠ "java/lang/invoke/VarHandle")
    {W9 : Nat} {Pre : Pt → Array Value → Prop} {Post : Pt → Array Value → Option Value → Pt → Prop} (hK : Back l R p e below s args y 3 W9 Pre Post)
    {b : Addr} {cellB : Cell} (hcell : T.heap[b]? = some cellB) (hobj : cellB.vm.isStatics = false) (hcls : s.vm.findClass C = some cellB.cls)
    {g : JFrame} (hg : g.method = m) (hsize : g.locals.size = c.maxLocals) {argsL rest : List Value} (hlen : ∀ sig, parseMethodDescriptor y.desc = some sig → argsL.length = sig.parameters.length)
    (hstack : g.stack = argsL.reverse ++ .ref b :: rest) (hW : 2 * g.monitorRoom + (rest.map fun v => v.category).sum ≤ W9) (hdg : decode c.code g.pc = .ok (.invokevirtual index, 3))
    (hpre : ∀ vm₁, s.WarmedH vm₁ → Pre ⟨T.setVm vm₁, locs, cells, slots⟩ (Value.ref b :: argsL).toArray) :
    ∃ (v : Option Value) (vm₁ : Vm) (B : Pt), s.WarmedH vm₁ ∧ Stand p l e R s m args below meth c B.U B.locs B.cells B.slots ∧ Post ⟨T.setVm vm₁, locs, cells, slots⟩ (Value.ref b :: argsL).toArray v B ∧
      ∀ target, Steps p.tables e below (B.U.setTop { g with pc := g.pc + 3, stack := v.toList ++ rest }) target → Steps p.tables e below (T.setTop g) target := by
  obtain ⟨mk, methM, hnamed, hmethM, hstM, habM⟩ := Cond.instanceMethod_spec hinst
  obtain ⟨m8, methM', cM, hn8, hmethM', -, -, -, -, -, -, hsigM⟩ := Cond.codeWith_spec hcode
  cases Option.some.inj (hn8.symm.trans hnamed)
  cases hmethM.symm.trans hmethM'
  obtain ⟨c2, r2, m2, q1, q2, q3, q4, kP, hkP, hkPi⟩ := Cond.selects_spec hsel
  cases hcls.symm.trans q1
  cases (State.methodFound?_of_named hnamed hy).symm.trans q2
  cases hnamed.symm.trans q3
  have hselP : selectMethod e.platform s.vm cellB.cls mk = .method mk := by rw [Launch.admits_selectMethod X.admits]; exact q4
  obtain ⟨vm₁, X₁, hstep₁⟩ := X.invokevirtual hexec hown hlink hnamed hmethM hstM hkP hkPi hy (a := b) (cell := cellB) hcell
    (fun z h => by rw [h] at hobj; cases hobj) hselP hmethM habM hkP hkPi (g := g) hg (argsL := argsL) (rest := rest) (hlen _ hsigM) hstack hdg
  obtain ⟨v, B, X', hpost, hsteps⟩ := hK m meth c ⟨T.setVm vm₁, locs, cells, slots⟩ { g with stack := rest } (.invokevirtual index) mk (Value.ref b :: argsL).toArray X₁ hg hsize hdg hW (X₁.named hnamed) (hpre vm₁ X₁.warmed)
  exact ⟨v, vm₁, B, X₁.warmed, X', hpost, fun target h => hstep₁ _ fun acts => by rw [doInvoke_state]; exact hsteps.trans h⟩
abbrev vx_CVW (R : Room) (s : State) (args : Array Value) (own C : String) (index : Nat) (y : MethodName) (bytes : ByteArray) (maxL : Nat) (ret : Option FieldType) (hh : List (Nat × Nat × Nat × Nat)) (ws : List Cond) (rm : Room) (mc ms n : Nat) : Prop :=
  (rm.cells = mc ∧ rm.slots = ms ∧ rm.frames + 1 ≤ R.frames ∧ 8 + (maxL + 11) + rm.locals ≤ R.locals ∧ (∀ w ∈ ws, ∀ (a' : Array Value) (U : State), s.WarmedH U.vm → w.before a' U = true) ∧ Cond.codeWith y bytes maxL ret hh ∈ ws) ∧
  (Cond.codeWith y bytes maxL ret hh).before args s = true ∧ (Cond.initialized y.cls).before args s = true ∧ (y.cls ≠ "java/lang/invoke/MethodHandle" ∧ y.cls ≠ "java/lang/invoke/VarHandle") ∧
  (∀ sig, parseMethodDescriptor y.desc = some sig → n = sig.parameters.length) ∧ (Cond.methodLink own index y).before args s = true ∧ (Cond.instanceMethod y).before args s = true ∧ (Cond.selects C y y).before args s = true
theorem vx_cwVW {own C : String} {index maxL mc ms : Nat} {y : MethodName} {bytes : ByteArray} {ret : Option FieldType} {hh : List (Nat × Nat × Nat × Nat)} {Ts ws ws' : List Cond} {rm : Room} (n : Nat) (ht : ∀ w ∈ Ts, w.before args s = true) (hT : GoodIn Ts (wsV own index C y ws)) (hw : ws = Cond.codeWith y bytes maxL ret hh :: ws') (hrc : rm.cells = mc) (hrs : rm.slots = ms)
    (hd : y.cls = C ∧ y.cls ≠ "java/lang/invoke/MethodHandle" ∧ y.cls ≠ "java/lang/invoke/VarHandle" ∧ (parseMethodDescriptor y.desc).map (fun d => d.parameters.length) = some n) (hR : rm.frames + 1 ≤ R.frames ∧ 8 + (maxL + 11) + rm.locals ≤ R.locals) :
    vx_CVW R s args own C index y bytes maxL ret hh ws rm mc ms n := by
  obtain ⟨hC, hd⟩ := hd
  subst hC
  have ok : ∀ w ∈ wsV own index y.cls y ws, w.before args s = true := fun w h => ht w (hT w h).1
  have hG : GoodIn Ts ws := fun w h => hT w (by unfold wsV; exact List.mem_append_right _ h)
  have hc : Cond.codeWith y bytes maxL ret hh ∈ ws := by rw [hw]; exact List.mem_cons_self
  refine ⟨⟨hrc, hrs, hR.1, hR.2, pay_in ht hG, hc⟩, ht _ (hG _ hc).1, ok _ (by simp [wsV]), ⟨hd.1, hd.2.1⟩, fun sig h => ?_, ok _ (by simp [wsV]), ok _ (by simp [wsV]), ok _ (by simp [wsV])⟩
  have h2 := hd.2.2
  rw [h] at h2
  exact (Option.some.inj h2).symm
theorem vx_runVW {y : MethodName} {bytes cc : ByteArray} {maxL nL mc ms n index : Nat} {ret : Option FieldType} {hh : List (Nat × Nat × Nat × Nat)} {ws : List Cond} {rm : Room} {Pc : Array Value → State → Prop} {Qc : Array Value → State → Outcome → State → Prop} {free : Addr → Prop} {Ts : List Cond} {own C : String} {b : Addr} {As rest : List Value} {g : JFrame}
    (S : CallFix p m c cc nL s args Ts own) (hM : Met l y ws rm Pc Qc mc ms free) (cw : vx_CVW R s args own C index y bytes maxL ret hh ws rm mc ms n) (hp : PreV s H C b Pc As)
    (hg : g.method = m) (hn : As.length = n) (hsize : g.locals.size = nL) (hstack : g.stack = As.reverse ++ .ref b :: rest) (hW : 2 * g.monitorRoom + (rest.map fun v => v.category).sum ≤ 8) (hdg : decode cc g.pc = .ok (.invokevirtual index, 3)) (hf : cells + mc ≤ R.cells ∧ slots + ms ≤ R.slots) :
    va_Run p l e R s m args below meth c H locs cells slots mc ms g rest (Qc (Value.ref b :: As).toArray) free := by
  obtain ⟨⟨hrc, hrs, hfr, hlo, hws, hcw⟩, hcode, hini, hy, hlen, hl, hin, hse⟩ := cw
  have hK : Back l R p e below s args y 3 8 (PreOf R mc ms Pc) (PostOf Qc mc ms free) := va_backW (hh := hh) (bytes := bytes) (maxL := maxL) (ret := ret) hM hp.1 hrc hrs hfr hlo hws hcw (fun a' U hW => word_at hW (Or.inl (by first | rfl | simp [Cond.onTables, Cond.keeps, Cond.steady])) hini)
  obtain ⟨hx, hb, hml, ho, -⟩ := S
  obtain ⟨-, ⟨cellB, hcB, hoB, hclB⟩, hPc⟩ := hp
  intro T hT X
  obtain ⟨v, vm₁, ⟨U', l2, c2, s2⟩, hW₁, X', ⟨g', mk, t, L, e1, e2, hq, h1, hL, h2, h3⟩, st⟩ := vx_callVW X hx (C := C) (hh := hh) (bytes := bytes) (maxL := maxL) (ret := ret) ho hl hin hse hcode hy hK (by rw [hT]; exact hcB) hoB hclB hg (hsize.trans hml.symm) (argsL := As) (rest := rest) (fun sig h => hn.trans (hlen sig h)) hstack hW (by rw [hb]; exact hdg)
    (fun vm₁ hW₁ => ⟨hf.1, hf.2, hPc (T.setVm vm₁) hT hW₁⟩)
  dsimp only [Pt.U, Pt.locs, Pt.cells, Pt.slots] at X' e1 e2 h1 h2 h3 st
  subst h1; subst h2; subst h3
  exact ⟨v, (T.setVm vm₁).calling g' mk (Value.ref b :: As).toArray, t, U', L, hT, X', hL, e1, e2, hq, st⟩
section
variable {y : MethodName} {bytes cc : ByteArray} {maxL nL mc ms n index : Nat} {ret : Option FieldType} {ws : List Cond} {rm : Room} {Pc : Array Value → State → Prop} {Qc : Array Value → State → Outcome → State → Prop} {XC : String → State → State → Prop} {free : Addr → Prop} {Ts : List Cond} {own C : String} {b : Addr} {As rest : List Value} {g : JFrame}
theorem vx_runVX {hh : List (Nat × Nat × Nat × Nat)} (S : CallFix p m c cc nL s args Ts own) (hM : vx_Met l y ws rm Pc Qc XC mc ms free) (cw : vx_CVW R s args own C index y bytes maxL ret hh ws rm mc ms n) (hp : PreV s H C b Pc As)
    (hg : g.method = m) (hn : As.length = n) (hsize : g.locals.size = nL) (hstack : g.stack = As.reverse ++ .ref b :: rest) (hW : 2 * g.monitorRoom + (rest.map fun v => v.category).sum ≤ 8) (hdg : decode cc g.pc = .ok (.invokevirtual index, 3)) (hf : cells + mc ≤ R.cells ∧ slots + ms ≤ R.slots) :
    vx_Run p l e R s m args below meth c H locs cells slots mc ms g rest (Qc (Value.ref b :: As).toArray) XC free := by
  obtain ⟨⟨hrc, hrs, hfr, hlo, hws, hcw⟩, hcode, hini, hy, hlen, hl, hin, hse⟩ := cw
  have hK : vx_Back l R p e below s args y 3 8 (PreOf R mc ms Pc) (PostOf Qc mc ms free) (vx_Post XC mc ms free) := vx_backW (hh := hh) (bytes := bytes) (maxL := maxL) (ret := ret) hM hp.1 hrc hrs hfr hlo hws hcw (fun a' U hW => word_at hW (Or.inl (by first | rfl | simp [Cond.onTables, Cond.keeps, Cond.steady])) hini)
  obtain ⟨hx, hb, hml, ho, -⟩ := S
  obtain ⟨-, ⟨cellB, hcB, hoB, hclB⟩, hPc⟩ := hp
  intro T hT X
  rcases vx_callVX X hx (C := C) (hh := hh) (bytes := bytes) (maxL := maxL) (ret := ret) ho hl hin hse hcode hy hK (by rw [hT]; exact hcB) hoB hclB hg (hsize.trans hml.symm) (argsL := As) (rest := rest) (fun sig h => hn.trans (hlen sig h)) hstack hW (by rw [hb]; exact hdg)
    (fun vm₁ hW₁ => ⟨hf.1, hf.2, hPc (T.setVm vm₁) hT hW₁⟩) with ⟨v, vm₁, ⟨U', l2, c2, s2⟩, hW₁, X', ⟨g', mk, t, L, e1, e2, hq, h1, hL, h2, h3⟩, st⟩ | ⟨q, vm₁, ⟨U', l2, c2, s2⟩, hW₁, X', ⟨g', mk, t, L, E, ce, e1, e2, hq, hce, hcv, hcl, h1, hL, h2, h3⟩, st⟩
  · dsimp only [Pt.U, Pt.locs, Pt.cells, Pt.slots] at X' e1 e2 h1 h2 h3 st
    subst h1; subst h2; subst h3
    exact Or.inl ⟨v, (T.setVm vm₁).calling g' mk (Value.ref b :: As).toArray, t, U', L, hT, X', hL, e1, e2, hq, st⟩
  · dsimp only [Pt.U, Pt.locs, Pt.cells, Pt.slots] at X' e1 e2 h1 h2 h3 st hcl
    subst h1; subst h2; subst h3
    exact Or.inr ⟨q, (T.setVm vm₁).calling g' mk (Value.ref b :: As).toArray, t, U', L, E, ce, hT, X', hL, e1, e2, hq, hce, hcv, vx_cls hW₁ hcl, st⟩
theorem vx_runSX {hh : List (Nat × Nat × Nat × Nat)} (S : CallFix p m c cc nL s args Ts own) (hM : vx_Met l y ws rm Pc Qc XC mc ms free) (cw : vx_CSW R s args own index y bytes maxL ret hh ws rm mc ms n) (hp : PreS s H Pc As)
    (hg : g.method = m) (hn : As.length = n) (hsize : g.locals.size = nL) (hstack : g.stack = As.reverse ++ rest) (hW : 2 * g.monitorRoom + (rest.map fun v => v.category).sum ≤ 8) (hdg : decode cc g.pc = .ok (.invokestatic index, 3)) (hf : cells + mc ≤ R.cells ∧ slots + ms ≤ R.slots) :
    vx_Run p l e R s m args below meth c H locs cells slots mc ms g rest (Qc As.toArray) XC free := by
  obtain ⟨⟨hrc, hrs, hfr, hlo, hws, hcw⟩, hcode, hini, hy, hlen, hl, hstt⟩ := cw
  have hK : vx_Back l R p e below s args y 3 8 (PreOf R mc ms Pc) (PostOf Qc mc ms free) (vx_Post XC mc ms free) := vx_backW (hh := hh) (bytes := bytes) (maxL := maxL) (ret := ret) hM hp.1 hrc hrs hfr hlo hws hcw (fun a' U hW => word_at hW (Or.inl (by first | rfl | simp [Cond.onTables, Cond.keeps, Cond.steady])) hini)
  obtain ⟨hx, hb, hml, ho, -⟩ := S
  intro T hT X
  rcases vx_callSX X hx (hh := hh) (bytes := bytes) (maxL := maxL) (ret := ret) ho hl hstt hini hcode hy hK hg (hsize.trans hml.symm) (argsL := As) (rest := rest) (fun sig h => hn.trans (hlen sig h)) hstack hW (by rw [hb]; exact hdg)
    (fun vm₁ hW₁ => ⟨hf.1, hf.2, hp.2 (T.setVm vm₁) hT hW₁⟩) with ⟨v, vm₁, ⟨U', l2, c2, s2⟩, hW₁, X', ⟨g', mk, t, L, e1, e2, hq, h1, hL, h2, h3⟩, st⟩ | ⟨q, vm₁, ⟨U', l2, c2, s2⟩, hW₁, X', ⟨g', mk, t, L, E, ce, e1, e2, hq, hce, hcv, hcl, h1, hL, h2, h3⟩, st⟩
  · dsimp only [Pt.U, Pt.locs, Pt.cells, Pt.slots] at X' e1 e2 h1 h2 h3 st
    subst h1; subst h2; subst h3
    exact Or.inl ⟨v, (T.setVm vm₁).calling g' mk As.toArray, t, U', L, hT, X', hL, e1, e2, hq, st⟩
  · dsimp only [Pt.U, Pt.locs, Pt.cells, Pt.slots] at X' e1 e2 h1 h2 h3 st hcl
    subst h1; subst h2; subst h3
    exact Or.inr ⟨q, (T.setVm vm₁).calling g' mk As.toArray, t, U', L, E, ce, hT, X', hL, e1, e2, hq, hce, hcv, vx_cls hW₁ hcl, st⟩
end
end VXH
theorem vx_ofWH {l : Launch} {y : MethodName} {ws ws' : List Cond} {rm : Room} {Pc : Array Value → State → Prop} {Qc : Array Value → State → Outcome → State → Prop} {XC : String → State → State → Prop} {mc ms : Nat} {free : Addr → Prop} {cc : ByteArray} {maxL : Nat} {ret : Option FieldType} {hh : List (Nat × Nat × Nat × Nat)}
    (hy : plainName y.cls = true) (hw : ws = Cond.codeWith y cc maxL ret hh :: ws')
    (body : ∀ p e s m args below meth c s₁, BodyLoose p l y (headSpec ws rm) cc maxL ret e s m args below meth c s₁ → c.maxLocals = maxL → Pc args s →
      W p l e (headSpec ws rm).room s m args below meth c s.heap [] 0 0 (vx_MQ below Qc XC args s mc ms free) (entryFrame m args maxL)) : vx_Met l y ws rm Pc Qc XC mc ms free := by
  refine MetFree.of_bodyS (code := cc) (maxLocals := maxL) (ret := ret) hy ?_ ?_
  · intro args s m h hn
    obtain ⟨m9, meth, c, hn9, h1, h2, h3, h4, -, h5, h6, -⟩ := Cond.codeWith_spec (atoms_spec (ws := ws) h _ (by rw [hw]; exact List.mem_cons_self))
    cases hn.symm.trans hn9
    exact ⟨meth, c, h1, h2, h3, h4, h5, h6⟩
  · intro p e s m args below meth c s₁ B hml hP _
    have hh0 : s₁.heap = s.heap := by rw [B.state]; rfl
    obtain ⟨t, a1, o, b1, b2, b3⟩ := body p e s m args below meth c s₁ B hml hP s₁ hh0 (Stand.of_body B)
    exact ⟨t, o, a1, b1, b2, b3⟩
/-! ===== END ===== -/
end
section
def RX0 : String := "TabledGoals$Caller"
def TX0 : u_T := fun k => match k with
  | 0 => ("TabledGoals$Walk", "program", "LTabledGoals$Program;", false)
  | 1 => ("TabledGoals$Walk", "plain", "[J", true)
  | 2 => ("TabledGoals$Walk", "barred", "[J", false)
  | 3 => ("TabledGoals$Walk", "clause", "I", false)
  | 4 => ("TabledGoals$Walk", "bound", "[I", true)
  | 5 => ("TabledGoals$Walk", "same", "[I", true)
  | 6 => ("TabledGoals$Caller", "count", "I", false)
  | 7 => ("TabledGoals$Caller", "keys", "[I", true)
  | _ => ("TabledGoals$Caller", "ways", "[I", true)
def tyX0 : Nat → FieldType := fun k => match k with
  | 0 => .object "TabledGoals$Program"
  | 1 => .array .long
  | 2 => .array .long
  | 3 => .int
  | 4 => .array .int
  | 5 => .array .int
  | 6 => .int
  | 7 => .array .int
  | _ => .array .int
abbrev wsX00 : List Cond := u_ws RX0 TX0 9
theorem nmX0 : ∀ a, a < 9 → ∀ b, b < 9 → a ≠ b → (TX0 a).2.1 ≠ (TX0 b).2.1 := by decide +kernel
theorem tyX0_ok : ∀ k, k < 9 → parseFieldDescriptor (TX0 k).2.2.1 = some (tyX0 k) := by decide +kernel
abbrev cX0_init : ByteArray := prog_2_method_1_code
def yX0_init : MethodName := ⟨RX0, "<init>", "(LTabledGoals$Program;LTabledGoals$Model;)V"⟩
abbrev cX0_collect : ByteArray := prog_2_method_2_code
def yX0_collect : MethodName := ⟨RX0, "collect", "(LTabledGoals$Program;I)V"⟩
abbrev cX0_meet : ByteArray := prog_2_method_3_code
def yX0_meet : MethodName := ⟨RX0, "meet", "(III)V"⟩
abbrev cX0_end : ByteArray := prog_2_method_4_code
def yX0_end : MethodName := ⟨RX0, "end", "()V"⟩
def RX1 : String := "TabledGoals$Follower"
def TX1 : u_T := fun k => match k with
  | 0 => ("TabledGoals$Walk", "program", "LTabledGoals$Program;", false)
  | 1 => ("TabledGoals$Walk", "plain", "[J", true)
  | 2 => ("TabledGoals$Walk", "barred", "[J", false)
  | 3 => ("TabledGoals$Walk", "clause", "I", false)
  | 4 => ("TabledGoals$Walk", "bound", "[I", true)
  | 5 => ("TabledGoals$Walk", "same", "[I", true)
  | _ => ("TabledGoals$Follower", "grownNow", "I", false)
def tyX1 : Nat → FieldType := fun k => match k with
  | 0 => .object "TabledGoals$Program"
  | 1 => .array .long
  | 2 => .array .long
  | 3 => .int
  | 4 => .array .int
  | 5 => .array .int
  | _ => .int
abbrev wsX10 : List Cond := u_ws RX1 TX1 7
theorem nmX1 : ∀ a, a < 7 → ∀ b, b < 7 → a ≠ b → (TX1 a).2.1 ≠ (TX1 b).2.1 := by decide +kernel
theorem tyX1_ok : ∀ k, k < 7 → parseFieldDescriptor (TX1 k).2.2.1 = some (tyX1 k) := by decide +kernel
abbrev cX1_init : ByteArray := prog_3_method_1_code
def yX1_init : MethodName := ⟨RX1, "<init>", "(LTabledGoals$Program;[J[J)V"⟩
abbrev cX1_meet : ByteArray := prog_3_method_2_code
def yX1_meet : MethodName := ⟨RX1, "meet", "(III)V"⟩
abbrev cX1_end : ByteArray := prog_3_method_3_code
def yX1_end : MethodName := ⟨RX1, "end", "()V"⟩
abbrev cX1_follow : ByteArray := prog_3_method_4_code
def yX1_follow : MethodName := ⟨RX1, "follow", "(LTabledGoals$Program;[J)V"⟩
def RX2 : String := "TabledGoals$Model"
def TX2 : u_T := fun k => match k with
  | 0 => ("TabledGoals$Model", "known", "Z", false)
  | 1 => ("TabledGoals$Model", "stages", "I", false)
  | 2 => ("TabledGoals$Model", "truth", "[J", true)
  | 3 => ("TabledGoals$Model", "possible", "[J", true)
  | 4 => ("TabledGoals$Model", "stageOf", "[I", true)
  | 5 => ("TabledGoals$Model", "grown", "[J", true)
  | _ => ("TabledGoals$Model", "follower", "LTabledGoals$Follower;", true)
def tyX2 : Nat → FieldType := fun k => match k with
  | 0 => .boolean
  | 1 => .int
  | 2 => .array .long
  | 3 => .array .long
  | 4 => .array .int
  | 5 => .array .long
  | _ => .object "TabledGoals$Follower"
abbrev wsX20 : List Cond := u_ws RX2 TX2 7
theorem nmX2 : ∀ a, a < 7 → ∀ b, b < 7 → a ≠ b → (TX2 a).2.1 ≠ (TX2 b).2.1 := by decide +kernel
theorem tyX2_ok : ∀ k, k < 7 → parseFieldDescriptor (TX2 k).2.2.1 = some (tyX2 k) := by decide +kernel
abbrev cX2_init : ByteArray := prog_4_method_1_code
def yX2_init : MethodName := ⟨RX2, "<init>", "(LTabledGoals$Program;)V"⟩
abbrev cX2_settle : ByteArray := prog_4_method_2_code
def yX2_settle : MethodName := ⟨RX2, "settle", "(LTabledGoals$Program;)V"⟩
abbrev cX2_growPossible : ByteArray := prog_4_method_3_code
def yX2_growPossible : MethodName := ⟨RX2, "growPossible", "(LTabledGoals$Program;)V"⟩
abbrev cX2_growTruth : ByteArray := prog_4_method_4_code
def yX2_growTruth : MethodName := ⟨RX2, "growTruth", "(LTabledGoals$Program;)Z"⟩
abbrev cX2_noteStage : ByteArray := prog_4_method_5_code
def yX2_noteStage : MethodName := ⟨RX2, "noteStage", "(I)V"⟩
abbrev cX2_undefinedOf : ByteArray := prog_4_method_6_code
def yX2_undefinedOf : MethodName := ⟨RX2, "undefinedOf", "(I)J"⟩
abbrev cX2_worth : ByteArray := prog_4_method_7_code
def yX2_worth : MethodName := ⟨RX2, "worth", "(IJ)I"⟩
abbrev cX2_trueAtoms : ByteArray := prog_4_method_8_code
def yX2_trueAtoms : MethodName := ⟨RX2, "trueAtoms", "()I"⟩
abbrev cX2_undefinedAtoms : ByteArray := prog_4_method_9_code
def yX2_undefinedAtoms : MethodName := ⟨RX2, "undefinedAtoms", "()I"⟩
def RX3 : String := "TabledGoals$Program"
def TX3 : u_T := fun k => match k with
  | 0 => ("TabledGoals$Program", "predicates", "I", false)
  | 1 => ("TabledGoals$Program", "constants", "I", false)
  | 2 => ("TabledGoals$Program", "clauses", "I", false)
  | 3 => ("TabledGoals$Program", "terms", "[I", true)
  | 4 => ("TabledGoals$Program", "lengths", "[I", true)
  | 5 => ("TabledGoals$Program", "letters", "[I", true)
  | 6 => ("TabledGoals$Program", "sizes", "[I", true)
  | 7 => ("TabledGoals$Program", "needs", "[I", true)
  | _ => ("TabledGoals$Program", "parts", "[I", true)
def tyX3 : Nat → FieldType := fun k => match k with
  | 0 => .int
  | 1 => .int
  | 2 => .int
  | 3 => .array .int
  | 4 => .array .int
  | 5 => .array .int
  | 6 => .array .int
  | 7 => .array .int
  | _ => .array .int
abbrev wsX30 : List Cond := u_ws RX3 TX3 9
theorem nmX3 : ∀ a, a < 9 → ∀ b, b < 9 → a ≠ b → (TX3 a).2.1 ≠ (TX3 b).2.1 := by decide +kernel
theorem tyX3_ok : ∀ k, k < 9 → parseFieldDescriptor (TX3 k).2.2.1 = some (tyX3 k) := by decide +kernel
abbrev cX3_init : ByteArray := prog_5_method_1_code
def yX3_init : MethodName := ⟨RX3, "<init>", "()V"⟩
abbrev cX3_clear : ByteArray := prog_5_method_2_code
def yX3_clear : MethodName := ⟨RX3, "clear", "()V"⟩
abbrev cX3_part : ByteArray := prog_5_method_3_code
def yX3_part : MethodName := ⟨RX3, "part", "(III)I"⟩
abbrev cX3_putPart : ByteArray := prog_5_method_4_code
def yX3_putPart : MethodName := ⟨RX3, "putPart", "(IIII)V"⟩
abbrev cX3_putHead : ByteArray := prog_5_method_5_code
def yX3_putHead : MethodName := ⟨RX3, "putHead", "(II)V"⟩
abbrev cX3_putLiteral : ByteArray := prog_5_method_6_code
def yX3_putLiteral : MethodName := ⟨RX3, "putLiteral", "(IIII)V"⟩
abbrev cX3_putAtom : ByteArray := prog_5_method_7_code
def yX3_putAtom : MethodName := ⟨RX3, "putAtom", "(IIII)V"⟩
abbrev cX3_addFact : ByteArray := prog_5_method_8_code
def yX3_addFact : MethodName := ⟨RX3, "addFact", "(III)V"⟩
abbrev cX3_factAt : ByteArray := prog_5_method_9_code
def yX3_factAt : MethodName := ⟨RX3, "factAt", "(III)I"⟩
abbrev cX3_removeClause : ByteArray := prog_5_method_10_code
def yX3_removeClause : MethodName := ⟨RX3, "removeClause", "(I)V"⟩
abbrev cX3_facts : ByteArray := prog_5_method_11_code
def yX3_facts : MethodName := ⟨RX3, "facts", "()I"⟩
abbrev cX3_clausesOf : ByteArray := prog_5_method_12_code
def yX3_clausesOf : MethodName := ⟨RX3, "clausesOf", "(I)I"⟩
abbrev cX3_stratumOf : ByteArray := prog_5_method_13_code
def yX3_stratumOf : MethodName := ⟨RX3, "stratumOf", "(I)I"⟩
abbrev cX3_raiseHead : ByteArray := prog_5_method_14_code
def yX3_raiseHead : MethodName := ⟨RX3, "raiseHead", "(I[I)Z"⟩
abbrev cX3_nameNumber : ByteArray := prog_5_method_15_code
def yX3_nameNumber : MethodName := ⟨RX3, "nameNumber", "(II[III)I"⟩
abbrev cX3_putName : ByteArray := prog_5_method_16_code
def yX3_putName : MethodName := ⟨RX3, "putName", "(I[III)V"⟩
def RX4 : String := "TabledGoals$Reader"
def TX4 : u_T := fun k => match k with
  | 0 => ("TabledGoals$Reader", "fault", "I", false)
  | 1 => ("TabledGoals$Reader", "place", "I", false)
  | 2 => ("TabledGoals$Reader", "bytes", "[I", true)
  | 3 => ("TabledGoals$Reader", "end", "I", true)
  | 4 => ("TabledGoals$Reader", "into", "LTabledGoals$Program;", true)
  | 5 => ("TabledGoals$Reader", "at", "I", false)
  | 6 => ("TabledGoals$Reader", "variables", "[I", true)
  | 7 => ("TabledGoals$Reader", "variableCount", "I", false)
  | 8 => ("TabledGoals$Reader", "safe", "I", false)
  | _ => ("TabledGoals$Reader", "headPlaces", "[I", true)
def tyX4 : Nat → FieldType := fun k => match k with
  | 0 => .int
  | 1 => .int
  | 2 => .array .int
  | 3 => .int
  | 4 => .object "TabledGoals$Program"
  | 5 => .int
  | 6 => .array .int
  | 7 => .int
  | 8 => .int
  | _ => .array .int
abbrev wsX40 : List Cond := u_ws RX4 TX4 10
theorem nmX4 : ∀ a, a < 10 → ∀ b, b < 10 → a ≠ b → (TX4 a).2.1 ≠ (TX4 b).2.1 := by decide +kernel
theorem tyX4_ok : ∀ k, k < 10 → parseFieldDescriptor (TX4 k).2.2.1 = some (tyX4 k) := by decide +kernel
abbrev cX4_init : ByteArray := prog_6_method_1_code
def yX4_init : MethodName := ⟨RX4, "<init>", "([IILTabledGoals$Program;)V"⟩
abbrev cX4_readText : ByteArray := prog_6_method_2_code
def yX4_readText : MethodName := ⟨RX4, "readText", "()Z"⟩
abbrev cX4_fail : ByteArray := prog_6_method_3_code
def yX4_fail : MethodName := ⟨RX4, "fail", "(II)Z"⟩
abbrev cX4_next : ByteArray := prog_6_method_4_code
def yX4_next : MethodName := ⟨RX4, "next", "()I"⟩
abbrev cX4_smallNext : ByteArray := prog_6_method_5_code
def yX4_smallNext : MethodName := ⟨RX4, "smallNext", "()Z"⟩
abbrev cX4_readClause : ByteArray := prog_6_method_6_code
def yX4_readClause : MethodName := ⟨RX4, "readClause", "()Z"⟩
abbrev cX4_closeClause : ByteArray := prog_6_method_7_code
def yX4_closeClause : MethodName := ⟨RX4, "closeClause", "()Z"⟩
abbrev cX4_isSafe : ByteArray := prog_6_method_8_code
def yX4_isSafe : MethodName := ⟨RX4, "isSafe", "(I)Z"⟩
abbrev cX4_readBody : ByteArray := prog_6_method_9_code
def yX4_readBody : MethodName := ⟨RX4, "readBody", "()Z"⟩
abbrev cX4_wordLength : ByteArray := prog_6_method_10_code
def yX4_wordLength : MethodName := ⟨RX4, "wordLength", "()I"⟩
abbrev cX4_isNot : ByteArray := prog_6_method_11_code
def yX4_isNot : MethodName := ⟨RX4, "isNot", "(I)Z"⟩
abbrev cX4_readAtom : ByteArray := prog_6_method_12_code
def yX4_readAtom : MethodName := ⟨RX4, "readAtom", "(II)Z"⟩
abbrev cX4_readTerm : ByteArray := prog_6_method_13_code
def yX4_readTerm : MethodName := ⟨RX4, "readTerm", "(III)Z"⟩
abbrev cX4_readVariable : ByteArray := prog_6_method_14_code
def yX4_readVariable : MethodName := ⟨RX4, "readVariable", "(I)I"⟩
abbrev cX4_readName : ByteArray := prog_6_method_15_code
def yX4_readName : MethodName := ⟨RX4, "readName", "(Z)I"⟩
def RX5 : String := "TabledGoals$Table"
def TX5 : u_T := fun k => match k with
  | 0 => ("TabledGoals$Table", "number", "I", true)
  | 1 => ("TabledGoals$Table", "key", "I", false)
  | 2 => ("TabledGoals$Table", "fresh", "Z", false)
  | 3 => ("TabledGoals$Table", "truths", "J", false)
  | 4 => ("TabledGoals$Table", "undefineds", "J", false)
  | 5 => ("TabledGoals$Table", "callCount", "I", false)
  | 6 => ("TabledGoals$Table", "from", "I", false)
  | 7 => ("TabledGoals$Table", "hits", "I", false)
  | 8 => ("TabledGoals$Table", "made", "I", false)
  | 9 => ("TabledGoals$Table", "next", "I", false)
  | 10 => ("TabledGoals$Table", "order", "I", false)
  | 11 => ("TabledGoals$Table", "low", "I", false)
  | 12 => ("TabledGoals$Table", "open", "Z", false)
  | 13 => ("TabledGoals$Table", "below", "LTabledGoals$Table;", false)
  | 14 => ("TabledGoals$Table", "openBelow", "LTabledGoals$Table;", false)
  | 15 => ("TabledGoals$Table", "marked", "Z", false)
  | 16 => ("TabledGoals$Table", "reached", "Z", false)
  | _ => ("TabledGoals$Table", "called", "[I", false)
def tyX5 : Nat → FieldType := fun k => match k with
  | 0 => .int
  | 1 => .int
  | 2 => .boolean
  | 3 => .long
  | 4 => .long
  | 5 => .int
  | 6 => .int
  | 7 => .int
  | 8 => .int
  | 9 => .int
  | 10 => .int
  | 11 => .int
  | 12 => .boolean
  | 13 => .object "TabledGoals$Table"
  | 14 => .object "TabledGoals$Table"
  | 15 => .boolean
  | 16 => .boolean
  | _ => .array .int
abbrev wsX50 : List Cond := u_ws RX5 TX5 18
theorem nmX5 : ∀ a, a < 18 → ∀ b, b < 18 → a ≠ b → (TX5 a).2.1 ≠ (TX5 b).2.1 := by decide +kernel
theorem tyX5_ok : ∀ k, k < 18 → parseFieldDescriptor (TX5 k).2.2.1 = some (tyX5 k) := by decide +kernel
abbrev cX5_init : ByteArray := prog_7_method_1_code
def yX5_init : MethodName := ⟨RX5, "<init>", "(I)V"⟩
abbrev cX5_begin : ByteArray := prog_7_method_2_code
def yX5_begin : MethodName := ⟨RX5, "begin", "(II)V"⟩
abbrev cX5_make : ByteArray := prog_7_method_3_code
def yX5_make : MethodName := ⟨RX5, "make", "(LTabledGoals$Model;LTabledGoals$Caller;)V"⟩
abbrev cX5_calledKey : ByteArray := prog_7_method_4_code
def yX5_calledKey : MethodName := ⟨RX5, "calledKey", "(I)I"⟩
abbrev cX5_calledWays : ByteArray := prog_7_method_5_code
def yX5_calledWays : MethodName := ⟨RX5, "calledWays", "(I)I"⟩
abbrev cX5_answers : ByteArray := prog_7_method_6_code
def yX5_answers : MethodName := ⟨RX5, "answers", "()J"⟩
abbrev cX5_nodes : ByteArray := prog_7_method_7_code
def yX5_nodes : MethodName := ⟨RX5, "nodes", "()I"⟩
abbrev cX5_tell : ByteArray := prog_7_method_8_code
def yX5_tell : MethodName := ⟨RX5, "tell", "(I)I"⟩
def RX6 : String := "TabledGoals$Tables"
def TX6 : u_T := fun k => match k with
  | 0 => ("TabledGoals$Tables", "count", "I", false)
  | 1 => ("TabledGoals$Tables", "madeInAll", "I", false)
  | 2 => ("TabledGoals$Tables", "hitsInAll", "I", false)
  | 3 => ("TabledGoals$Tables", "completedCount", "I", false)
  | 4 => ("TabledGoals$Tables", "completedOnes", "[I", true)
  | 5 => ("TabledGoals$Tables", "numberOf", "[I", true)
  | 6 => ("TabledGoals$Tables", "all", "[LTabledGoals$Table;", true)
  | 7 => ("TabledGoals$Tables", "model", "LTabledGoals$Model;", true)
  | 8 => ("TabledGoals$Tables", "caller", "LTabledGoals$Caller;", true)
  | 9 => ("TabledGoals$Tables", "queue", "[I", true)
  | 10 => ("TabledGoals$Tables", "seen", "[Z", true)
  | 11 => ("TabledGoals$Tables", "orders", "I", false)
  | 12 => ("TabledGoals$Tables", "path", "LTabledGoals$Table;", false)
  | _ => ("TabledGoals$Tables", "opened", "LTabledGoals$Table;", false)
def tyX6 : Nat → FieldType := fun k => match k with
  | 0 => .int
  | 1 => .int
  | 2 => .int
  | 3 => .int
  | 4 => .array .int
  | 5 => .array .int
  | 6 => .array (.object "TabledGoals$Table")
  | 7 => .object "TabledGoals$Model"
  | 8 => .object "TabledGoals$Caller"
  | 9 => .array .int
  | 10 => .array .boolean
  | 11 => .int
  | 12 => .object "TabledGoals$Table"
  | _ => .object "TabledGoals$Table"
abbrev wsX60 : List Cond := u_ws RX6 TX6 14
theorem nmX6 : ∀ a, a < 14 → ∀ b, b < 14 → a ≠ b → (TX6 a).2.1 ≠ (TX6 b).2.1 := by decide +kernel
theorem tyX6_ok : ∀ k, k < 14 → parseFieldDescriptor (TX6 k).2.2.1 = some (tyX6 k) := by decide +kernel
abbrev cX6_init : ByteArray := prog_8_method_1_code
def yX6_init : MethodName := ⟨RX6, "<init>", "(LTabledGoals$Program;LTabledGoals$Model;)V"⟩
abbrev cX6_startAnew : ByteArray := prog_8_method_2_code
def yX6_startAnew : MethodName := ⟨RX6, "startAnew", "()V"⟩
abbrev cX6_clear : ByteArray := prog_8_method_3_code
def yX6_clear : MethodName := ⟨RX6, "clear", "()V"⟩
abbrev cX6_at : ByteArray := prog_8_method_4_code
def yX6_at : MethodName := ⟨RX6, "at", "(I)LTabledGoals$Table;"⟩
abbrev cX6_ofKey : ByteArray := prog_8_method_5_code
def yX6_ofKey : MethodName := ⟨RX6, "ofKey", "(I)LTabledGoals$Table;"⟩
abbrev cX6_askFor : ByteArray := prog_8_method_6_code
def yX6_askFor : MethodName := ⟨RX6, "askFor", "(ILTabledGoals$Program;)I"⟩
abbrev cX6_goInto : ByteArray := prog_8_method_7_code
def yX6_goInto : MethodName := ⟨RX6, "goInto", "(ILTabledGoals$Program;)V"⟩
abbrev cX6_hit : ByteArray := prog_8_method_8_code
def yX6_hit : MethodName := ⟨RX6, "hit", "(LTabledGoals$Table;)V"⟩
abbrev cX6_add : ByteArray := prog_8_method_9_code
def yX6_add : MethodName := ⟨RX6, "add", "(I)LTabledGoals$Table;"⟩
abbrev cX6_leave : ByteArray := prog_8_method_10_code
def yX6_leave : MethodName := ⟨RX6, "leave", "(LTabledGoals$Table;)V"⟩
abbrev cX6_complete : ByteArray := prog_8_method_11_code
def yX6_complete : MethodName := ⟨RX6, "complete", "(LTabledGoals$Table;)V"⟩
abbrev cX6_putCompleted : ByteArray := prog_8_method_12_code
def yX6_putCompleted : MethodName := ⟨RX6, "putCompleted", "(II)V"⟩
abbrev cX6_freshOnes : ByteArray := prog_8_method_13_code
def yX6_freshOnes : MethodName := ⟨RX6, "freshOnes", "()I"⟩
abbrev cX6_spoil : ByteArray := prog_8_method_14_code
def yX6_spoil : MethodName := ⟨RX6, "spoil", "(IJ)I"⟩
abbrev cX6_spreadBack : ByteArray := prog_8_method_15_code
def yX6_spreadBack : MethodName := ⟨RX6, "spreadBack", "()V"⟩
abbrev cX6_callsMarked : ByteArray := prog_8_method_16_code
def yX6_callsMarked : MethodName := ⟨RX6, "callsMarked", "(LTabledGoals$Table;)Z"⟩
abbrev cX6_leaderOf : ByteArray := prog_8_method_17_code
def yX6_leaderOf : MethodName := ⟨RX6, "leaderOf", "(I)I"⟩
abbrev cX6_spreadOn : ByteArray := prog_8_method_18_code
def yX6_spreadOn : MethodName := ⟨RX6, "spreadOn", "(I)V"⟩
abbrev cX6_callersOf : ByteArray := prog_8_method_19_code
def yX6_callersOf : MethodName := ⟨RX6, "callersOf", "(I)I"⟩
abbrev cX6_reachedFrom : ByteArray := prog_8_method_20_code
def yX6_reachedFrom : MethodName := ⟨RX6, "reachedFrom", "(ILTabledGoals$Program;)I"⟩
abbrev cX6_sum : ByteArray := prog_8_method_21_code
def yX6_sum : MethodName := ⟨RX6, "sum", "()J"⟩
def RX7 : String := "TabledGoals$Walk"
def TX7 : u_T := fun k => match k with
  | _ => ("", "", "", false)
def tyX7 : Nat → FieldType := fun k => match k with
  | _ => .int
abbrev wsX70 : List Cond := u_ws RX7 TX7 0
theorem nmX7 : ∀ a, a < 0 → ∀ b, b < 0 → a ≠ b → (TX7 a).2.1 ≠ (TX7 b).2.1 := by decide +kernel
theorem tyX7_ok : ∀ k, k < 0 → parseFieldDescriptor (TX7 k).2.2.1 = some (tyX7 k) := by decide +kernel
abbrev cX7_init : ByteArray := prog_9_method_1_code
def yX7_init : MethodName := ⟨RX7, "<init>", "(LTabledGoals$Program;[J[J)V"⟩
abbrev cX7_throughClause : ByteArray := prog_9_method_4_code
def yX7_throughClause : MethodName := ⟨RX7, "throughClause", "(I)V"⟩
abbrev cX7_throughClausesLike : ByteArray := prog_9_method_5_code
def yX7_throughClausesLike : MethodName := ⟨RX7, "throughClausesLike", "(LTabledGoals$Program;I)V"⟩
abbrev cX7_loosen : ByteArray := prog_9_method_6_code
def yX7_loosen : MethodName := ⟨RX7, "loosen", "()V"⟩
abbrev cX7_fit : ByteArray := prog_9_method_7_code
def yX7_fit : MethodName := ⟨RX7, "fit", "(II)Z"⟩
abbrev cX7_agree : ByteArray := prog_9_method_8_code
def yX7_agree : MethodName := ⟨RX7, "agree", "(II)Z"⟩
abbrev cX7_read : ByteArray := prog_9_method_9_code
def yX7_read : MethodName := ⟨RX7, "read", "(I)I"⟩
abbrev cX7_bind : ByteArray := prog_9_method_10_code
def yX7_bind : MethodName := ⟨RX7, "bind", "(II)V"⟩
abbrev cX7_body : ByteArray := prog_9_method_11_code
def yX7_body : MethodName := ⟨RX7, "body", "(I)V"⟩
def RX8 : String := "TabledGoals$Weigher"
def TX8 : u_T := fun k => match k with
  | 0 => ("TabledGoals$Walk", "program", "LTabledGoals$Program;", false)
  | 1 => ("TabledGoals$Walk", "plain", "[J", true)
  | 2 => ("TabledGoals$Walk", "barred", "[J", false)
  | 3 => ("TabledGoals$Walk", "clause", "I", false)
  | 4 => ("TabledGoals$Walk", "bound", "[I", true)
  | 5 => ("TabledGoals$Walk", "same", "[I", true)
  | 6 => ("TabledGoals$Weigher", "count", "I", false)
  | 7 => ("TabledGoals$Weigher", "foundClause", "I", false)
  | 8 => ("TabledGoals$Weigher", "delayedCount", "I", false)
  | 9 => ("TabledGoals$Weigher", "delayed", "[I", true)
  | 10 => ("TabledGoals$Weigher", "wanted", "I", false)
  | _ => ("TabledGoals$Weigher", "model", "LTabledGoals$Model;", true)
def tyX8 : Nat → FieldType := fun k => match k with
  | 0 => .object "TabledGoals$Program"
  | 1 => .array .long
  | 2 => .array .long
  | 3 => .int
  | 4 => .array .int
  | 5 => .array .int
  | 6 => .int
  | 7 => .int
  | 8 => .int
  | 9 => .array .int
  | 10 => .int
  | _ => .object "TabledGoals$Model"
abbrev wsX80 : List Cond := u_ws RX8 TX8 12
theorem nmX8 : ∀ a, a < 12 → ∀ b, b < 12 → a ≠ b → (TX8 a).2.1 ≠ (TX8 b).2.1 := by decide +kernel
theorem tyX8_ok : ∀ k, k < 12 → parseFieldDescriptor (TX8 k).2.2.1 = some (tyX8 k) := by decide +kernel
abbrev cX8_init : ByteArray := prog_10_method_1_code
def yX8_init : MethodName := ⟨RX8, "<init>", "(LTabledGoals$Program;LTabledGoals$Model;)V"⟩
abbrev cX8_weigh : ByteArray := prog_10_method_2_code
def yX8_weigh : MethodName := ⟨RX8, "weigh", "(LTabledGoals$Program;II)V"⟩
abbrev cX8_meet : ByteArray := prog_10_method_3_code
def yX8_meet : MethodName := ⟨RX8, "meet", "(III)V"⟩
abbrev cX8_end : ByteArray := prog_10_method_4_code
def yX8_end : MethodName := ⟨RX8, "end", "()V"⟩
def RX9 : String := "TabledGoals"
def TX9 : u_T := fun k => match k with
  | 0 => ("TabledGoals", "tape", "[I", true)
  | 1 => ("TabledGoals", "tapeBytes", "I", false)
  | 2 => ("TabledGoals", "faultPlace", "I", false)
  | 3 => ("TabledGoals", "refused", "[I", true)
  | 4 => ("TabledGoals", "program", "LTabledGoals$Program;", false)
  | 5 => ("TabledGoals", "spare", "LTabledGoals$Program;", false)
  | 6 => ("TabledGoals", "model", "LTabledGoals$Model;", true)
  | 7 => ("TabledGoals", "weigher", "LTabledGoals$Weigher;", true)
  | _ => ("TabledGoals", "tables", "LTabledGoals$Tables;", true)
def tyX9 : Nat → FieldType := fun k => match k with
  | 0 => .array .int
  | 1 => .int
  | 2 => .int
  | 3 => .array .int
  | 4 => .object "TabledGoals$Program"
  | 5 => .object "TabledGoals$Program"
  | 6 => .object "TabledGoals$Model"
  | 7 => .object "TabledGoals$Weigher"
  | _ => .object "TabledGoals$Tables"
abbrev wsX90 : List Cond := u_ws RX9 TX9 9
theorem nmX9 : ∀ a, a < 9 → ∀ b, b < 9 → a ≠ b → (TX9 a).2.1 ≠ (TX9 b).2.1 := by decide +kernel
theorem tyX9_ok : ∀ k, k < 9 → parseFieldDescriptor (TX9 k).2.2.1 = some (tyX9 k) := by decide +kernel
abbrev cX9_init : ByteArray := prog_1_method_1_code
def yX9_init : MethodName := ⟨RX9, "<init>", "()V"⟩
abbrev cX9_feed : ByteArray := prog_1_method_2_code
def yX9_feed : MethodName := ⟨RX9, "feed", "(IIIII)I"⟩
abbrev cX9_putBytes : ByteArray := prog_1_method_3_code
def yX9_putBytes : MethodName := ⟨RX9, "putBytes", "(I)V"⟩
abbrev cX9_text : ByteArray := prog_1_method_4_code
def yX9_text : MethodName := ⟨RX9, "text", "(I)I"⟩
abbrev cX9_fault : ByteArray := prog_1_method_5_code
def yX9_fault : MethodName := ⟨RX9, "fault", "()I"⟩
abbrev cX9_assume : ByteArray := prog_1_method_6_code
def yX9_assume : MethodName := ⟨RX9, "assume", "(III)I"⟩
abbrev cX9_retract : ByteArray := prog_1_method_7_code
def yX9_retract : MethodName := ⟨RX9, "retract", "(III)I"⟩
abbrev cX9_ask : ByteArray := prog_1_method_8_code
def yX9_ask : MethodName := ⟨RX9, "ask", "(III)I"⟩
abbrev cX9_abolish : ByteArray := prog_1_method_9_code
def yX9_abolish : MethodName := ⟨RX9, "abolish", "()I"⟩
abbrev cX9_told : ByteArray := prog_1_method_10_code
def yX9_told : MethodName := ⟨RX9, "told", "(I)I"⟩
abbrev cX9_predicate : ByteArray := prog_1_method_11_code
def yX9_predicate : MethodName := ⟨RX9, "predicate", "(II)I"⟩
abbrev cX9_nameAt : ByteArray := prog_1_method_12_code
def yX9_nameAt : MethodName := ⟨RX9, "nameAt", "(III)I"⟩
abbrev cX9_clause : ByteArray := prog_1_method_13_code
def yX9_clause : MethodName := ⟨RX9, "clause", "(III)I"⟩
abbrev cX9_literals : ByteArray := prog_1_method_14_code
def yX9_literals : MethodName := ⟨RX9, "literals", "(I)I"⟩
abbrev cX9_value : ByteArray := prog_1_method_15_code
def yX9_value : MethodName := ⟨RX9, "value", "(III)I"⟩
abbrev cX9_stage : ByteArray := prog_1_method_16_code
def yX9_stage : MethodName := ⟨RX9, "stage", "(III)I"⟩
abbrev cX9_find : ByteArray := prog_1_method_17_code
def yX9_find : MethodName := ⟨RX9, "find", "(III)I"⟩
abbrev cX9_table : ByteArray := prog_1_method_18_code
def yX9_table : MethodName := ⟨RX9, "table", "(II)I"⟩
abbrev cX9_calls : ByteArray := prog_1_method_19_code
def yX9_calls : MethodName := ⟨RX9, "calls", "(III)I"⟩
abbrev cX9_answer : ByteArray := prog_1_method_20_code
def yX9_answer : MethodName := ⟨RX9, "answer", "(III)I"⟩
abbrev cX9_completed : ByteArray := prog_1_method_21_code
def yX9_completed : MethodName := ⟨RX9, "completed", "(I)I"⟩
abbrev cX9_condition : ByteArray := prog_1_method_22_code
def yX9_condition : MethodName := ⟨RX9, "condition", "(IIIII)I"⟩
abbrev cX9_reach : ByteArray := prog_1_method_23_code
def yX9_reach : MethodName := ⟨RX9, "reach", "(III)I"⟩
abbrev cX9_print : ByteArray := prog_1_method_24_code
def yX9_print : MethodName := ⟨RX9, "print", "()J"⟩
abbrev cX9_status : ByteArray := prog_1_method_25_code
def yX9_status : MethodName := ⟨RX9, "status", "(I)I"⟩
abbrev cX9_refuseMissing : ByteArray := prog_1_method_26_code
def yX9_refuseMissing : MethodName := ⟨RX9, "refuseMissing", "()V"⟩
abbrev cX9_refuseArgument : ByteArray := prog_1_method_27_code
def yX9_refuseArgument : MethodName := ⟨RX9, "refuseArgument", "()V"⟩
abbrev cX9_refuseState : ByteArray := prog_1_method_28_code
def yX9_refuseState : MethodName := ⟨RX9, "refuseState", "()V"⟩
abbrev cX9_needIndex : ByteArray := prog_1_method_29_code
def yX9_needIndex : MethodName := ⟨RX9, "needIndex", "(II)V"⟩
abbrev cX9_needWhat : ByteArray := prog_1_method_30_code
def yX9_needWhat : MethodName := ⟨RX9, "needWhat", "(II)V"⟩
abbrev cX9_needPredicate : ByteArray := prog_1_method_31_code
def yX9_needPredicate : MethodName := ⟨RX9, "needPredicate", "(I)V"⟩
abbrev cX9_needConstant : ByteArray := prog_1_method_32_code
def yX9_needConstant : MethodName := ⟨RX9, "needConstant", "(I)V"⟩
abbrev cX9_needAtom : ByteArray := prog_1_method_33_code
def yX9_needAtom : MethodName := ⟨RX9, "needAtom", "(III)V"⟩
abbrev cX9_needGoal : ByteArray := prog_1_method_34_code
def yX9_needGoal : MethodName := ⟨RX9, "needGoal", "(III)V"⟩
abbrev cX9_needNoMoreTerms : ByteArray := prog_1_method_35_code
def yX9_needNoMoreTerms : MethodName := ⟨RX9, "needNoMoreTerms", "(III)V"⟩
abbrev cX9_likes : ByteArray := prog_1_method_36_code
def yX9_likes : MethodName := ⟨RX9, "likes", "(II)J"⟩
abbrev cX9_keyOf : ByteArray := prog_1_method_37_code
def yX9_keyOf : MethodName := ⟨RX9, "keyOf", "(III)I"⟩
abbrev cX9_keyPredicate : ByteArray := prog_1_method_38_code
def yX9_keyPredicate : MethodName := ⟨RX9, "keyPredicate", "(I)I"⟩
abbrev cX9_keyOne : ByteArray := prog_1_method_39_code
def yX9_keyOne : MethodName := ⟨RX9, "keyOne", "(I)I"⟩
abbrev cX9_keyTwo : ByteArray := prog_1_method_40_code
def yX9_keyTwo : MethodName := ⟨RX9, "keyTwo", "(I)I"⟩
abbrev cX9_placeOfBit : ByteArray := prog_1_method_41_code
def yX9_placeOfBit : MethodName := ⟨RX9, "placeOfBit", "(JI)I"⟩
abbrev cX9_lowestBit : ByteArray := prog_1_method_42_code
def yX9_lowestBit : MethodName := ⟨RX9, "lowestBit", "(J)I"⟩
def RX10 : String := "TabledGoalsModel"
def TX10 : u_T := fun k => match k with
  | 0 => ("TabledGoalsModel", "thrown", "I", false)
  | 1 => ("TabledGoalsModel", "refused", "[I", true)
  | 2 => ("TabledGoalsModel", "predicates", "I", false)
  | 3 => ("TabledGoalsModel", "constants", "I", false)
  | 4 => ("TabledGoalsModel", "clauses", "I", false)
  | 5 => ("TabledGoalsModel", "arity", "[I", true)
  | 6 => ("TabledGoalsModel", "rule", "[I", true)
  | 7 => ("TabledGoalsModel", "predicateName", "[J", true)
  | 8 => ("TabledGoalsModel", "constantName", "[J", true)
  | 9 => ("TabledGoalsModel", "is", "[I", true)
  | 10 => ("TabledGoalsModel", "known", "[Z", true)
  | 11 => ("TabledGoalsModel", "possible", "[Z", true)
  | 12 => ("TabledGoalsModel", "next", "[Z", true)
  | 13 => ("TabledGoalsModel", "trueAt", "[I", true)
  | 14 => ("TabledGoalsModel", "falseAt", "[I", true)
  | 15 => ("TabledGoalsModel", "stages", "I", false)
  | 16 => ("TabledGoalsModel", "isMade", "Z", false)
  | 17 => ("TabledGoalsModel", "stratum", "[I", true)
  | 18 => ("TabledGoalsModel", "tape", "[B", true)
  | 19 => ("TabledGoalsModel", "text", "[B", true)
  | 20 => ("TabledGoalsModel", "taped", "I", false)
  | 21 => ("TabledGoalsModel", "size", "I", false)
  | 22 => ("TabledGoalsModel", "here", "I", false)
  | 23 => ("TabledGoalsModel", "begin", "I", false)
  | 24 => ("TabledGoalsModel", "fault", "I", false)
  | 25 => ("TabledGoalsModel", "faultNow", "I", false)
  | 26 => ("TabledGoalsModel", "faultAt", "I", false)
  | 27 => ("TabledGoalsModel", "word", "J", false)
  | 28 => ("TabledGoalsModel", "letters", "I", false)
  | 29 => ("TabledGoalsModel", "readPredicates", "I", false)
  | 30 => ("TabledGoalsModel", "readConstants", "I", false)
  | 31 => ("TabledGoalsModel", "readClauses", "I", false)
  | 32 => ("TabledGoalsModel", "names", "I", false)
  | 33 => ("TabledGoalsModel", "readArity", "[I", true)
  | 34 => ("TabledGoalsModel", "readRule", "[I", true)
  | 35 => ("TabledGoalsModel", "readPredicate", "[J", true)
  | 36 => ("TabledGoalsModel", "readConstant", "[J", true)
  | 37 => ("TabledGoalsModel", "name", "[I", true)
  | 38 => ("TabledGoalsModel", "isBound", "[Z", true)
  | 39 => ("TabledGoalsModel", "placeOf", "[I", true)
  | 40 => ("TabledGoalsModel", "called", "[I", true)
  | 41 => ("TabledGoalsModel", "how", "[I", true)
  | 42 => ("TabledGoalsModel", "way", "[I", true)
  | 43 => ("TabledGoalsModel", "calledMany", "I", false)
  | 44 => ("TabledGoalsModel", "bound", "[I", true)
  | 45 => ("TabledGoalsModel", "alike", "[I", true)
  | 46 => ("TabledGoalsModel", "tables", "I", false)
  | 47 => ("TabledGoalsModel", "made", "I", false)
  | 48 => ("TabledGoalsModel", "hits", "I", false)
  | 49 => ("TabledGoalsModel", "goalOf", "[I", true)
  | 50 => ("TabledGoalsModel", "tableOf", "[I", true)
  | 51 => ("TabledGoalsModel", "went", "[I", true)
  | 52 => ("TabledGoalsModel", "hitsOf", "[I", true)
  | 53 => ("TabledGoalsModel", "madeOf", "[I", true)
  | 54 => ("TabledGoalsModel", "isFresh", "[Z", true)
  | 55 => ("TabledGoalsModel", "callRow", "[S", true)
  | 56 => ("TabledGoalsModel", "callHow", "[B", true)
  | 57 => ("TabledGoalsModel", "callMany", "[I", true)
  | 58 => ("TabledGoalsModel", "answers", "[B", true)
  | 59 => ("TabledGoalsModel", "open", "[I", true)
  | 60 => ("TabledGoalsModel", "done", "[I", true)
  | 61 => ("TabledGoalsModel", "left", "[I", true)
  | 62 => ("TabledGoalsModel", "leftAt", "[I", true)
  | 63 => ("TabledGoalsModel", "finished", "[I", true)
  | 64 => ("TabledGoalsModel", "opened", "I", false)
  | 65 => ("TabledGoalsModel", "leftMany", "I", false)
  | 66 => ("TabledGoalsModel", "completedMany", "I", false)
  | 67 => ("TabledGoalsModel", "comeTo", "[Z", true)
  | 68 => ("TabledGoalsModel", "row", "[I", true)
  | 69 => ("TabledGoalsModel", "leader", "[I", true)
  | 70 => ("TabledGoalsModel", "hither", "[Z", true)
  | 71 => ("TabledGoalsModel", "conditions", "I", false)
  | 72 => ("TabledGoalsModel", "delayed", "I", false)
  | 73 => ("TabledGoalsModel", "conditionClause", "I", false)
  | 74 => ("TabledGoalsModel", "delays", "[I", true)
  | 75 => ("TabledGoalsModel", "reached", "[I", true)
  | _ => ("TabledGoalsModel", "isReached", "[Z", true)
def tyX10 : Nat → FieldType := fun k => match k with
  | 0 => .int
  | 1 => .array .int
  | 2 => .int
  | 3 => .int
  | 4 => .int
  | 5 => .array .int
  | 6 => .array .int
  | 7 => .array .long
  | 8 => .array .long
  | 9 => .array .int
  | 10 => .array .boolean
  | 11 => .array .boolean
  | 12 => .array .boolean
  | 13 => .array .int
  | 14 => .array .int
  | 15 => .int
  | 16 => .boolean
  | 17 => .array .int
  | 18 => .array .byte
  | 19 => .array .byte
  | 20 => .int
  | 21 => .int
  | 22 => .int
  | 23 => .int
  | 24 => .int
  | 25 => .int
  | 26 => .int
  | 27 => .long
  | 28 => .int
  | 29 => .int
  | 30 => .int
  | 31 => .int
  | 32 => .int
  | 33 => .array .int
  | 34 => .array .int
  | 35 => .array .long
  | 36 => .array .long
  | 37 => .array .int
  | 38 => .array .boolean
  | 39 => .array .int
  | 40 => .array .int
  | 41 => .array .int
  | 42 => .array .int
  | 43 => .int
  | 44 => .array .int
  | 45 => .array .int
  | 46 => .int
  | 47 => .int
  | 48 => .int
  | 49 => .array .int
  | 50 => .array .int
  | 51 => .array .int
  | 52 => .array .int
  | 53 => .array .int
  | 54 => .array .boolean
  | 55 => .array .short
  | 56 => .array .byte
  | 57 => .array .int
  | 58 => .array .byte
  | 59 => .array .int
  | 60 => .array .int
  | 61 => .array .int
  | 62 => .array .int
  | 63 => .array .int
  | 64 => .int
  | 65 => .int
  | 66 => .int
  | 67 => .array .boolean
  | 68 => .array .int
  | 69 => .array .int
  | 70 => .array .boolean
  | 71 => .int
  | 72 => .int
  | 73 => .int
  | 74 => .array .int
  | 75 => .array .int
  | _ => .array .boolean
abbrev wsX100 : List Cond := u_ws RX10 TX10 77
theorem nmX10 : ∀ a, a < 77 → ∀ b, b < 77 → a ≠ b → (TX10 a).2.1 ≠ (TX10 b).2.1 := by decide +kernel
theorem tyX10_ok : ∀ k, k < 77 → parseFieldDescriptor (TX10 k).2.2.1 = some (tyX10 k) := by decide +kernel
abbrev cX10_init : ByteArray := prog_12_method_1_code
def yX10_init : MethodName := ⟨RX10, "<init>", "()V"⟩
abbrev cX10_thrown : ByteArray := prog_12_method_2_code
def yX10_thrown : MethodName := ⟨RX10, "thrown", "()I"⟩
abbrev cX10_isFine : ByteArray := prog_12_method_3_code
def yX10_isFine : MethodName := ⟨RX10, "isFine", "(ZII)Z"⟩
abbrev cX10_within : ByteArray := prog_12_method_4_code
def yX10_within : MethodName := ⟨RX10, "within", "(III)Z"⟩
abbrev cX10_part : ByteArray := prog_12_method_5_code
def yX10_part : MethodName := ⟨RX10, "part", "(III)I"⟩
abbrev cX10_literalsOf : ByteArray := prog_12_method_6_code
def yX10_literalsOf : MethodName := ⟨RX10, "literalsOf", "(I)I"⟩
abbrev cX10_variablesOf : ByteArray := prog_12_method_7_code
def yX10_variablesOf : MethodName := ⟨RX10, "variablesOf", "(I)I"⟩
abbrev cX10_atomAt : ByteArray := prog_12_method_8_code
def yX10_atomAt : MethodName := ⟨RX10, "atomAt", "(III)I"⟩
abbrev cX10_term : ByteArray := prog_12_method_9_code
def yX10_term : MethodName := ⟨RX10, "term", "(I)I"⟩
abbrev cX10_atomOf : ByteArray := prog_12_method_10_code
def yX10_atomOf : MethodName := ⟨RX10, "atomOf", "(II)I"⟩
abbrev cX10_firstInstance : ByteArray := prog_12_method_11_code
def yX10_firstInstance : MethodName := ⟨RX10, "firstInstance", "(I)Z"⟩
abbrev cX10_nextInstance : ByteArray := prog_12_method_12_code
def yX10_nextInstance : MethodName := ⟨RX10, "nextInstance", "(I)Z"⟩
abbrev cX10_holds : ByteArray := prog_12_method_13_code
def yX10_holds : MethodName := ⟨RX10, "holds", "(I[Z[Z)Z"⟩
abbrev cX10_follows : ByteArray := prog_12_method_14_code
def yX10_follows : MethodName := ⟨RX10, "follows", "([Z[Z)V"⟩
abbrev cX10_marks : ByteArray := prog_12_method_15_code
def yX10_marks : MethodName := ⟨RX10, "marks", "(I)V"⟩
abbrev cX10_makes : ByteArray := prog_12_method_16_code
def yX10_makes : MethodName := ⟨RX10, "makes", "()V"⟩
abbrev cX10_valueAt : ByteArray := prog_12_method_17_code
def yX10_valueAt : MethodName := ⟨RX10, "valueAt", "(I)I"⟩
abbrev cX10_valueOf : ByteArray := prog_12_method_18_code
def yX10_valueOf : MethodName := ⟨RX10, "valueOf", "(II)I"⟩
abbrev cX10_layers : ByteArray := prog_12_method_19_code
def yX10_layers : MethodName := ⟨RX10, "layers", "()V"⟩
abbrev cX10_feed : ByteArray := prog_12_method_20_code
def yX10_feed : MethodName := ⟨RX10, "feed", "(IIIII)I"⟩
abbrev cX10_puts : ByteArray := prog_12_method_21_code
def yX10_puts : MethodName := ⟨RX10, "puts", "(I)V"⟩
abbrev cX10_wrong : ByteArray := prog_12_method_22_code
def yX10_wrong : MethodName := ⟨RX10, "wrong", "(II)V"⟩
abbrev cX10_sign : ByteArray := prog_12_method_23_code
def yX10_sign : MethodName := ⟨RX10, "sign", "()I"⟩
abbrev cX10_isSmall : ByteArray := prog_12_method_24_code
def yX10_isSmall : MethodName := ⟨RX10, "isSmall", "(I)Z"⟩
abbrev cX10_isGreat : ByteArray := prog_12_method_25_code
def yX10_isGreat : MethodName := ⟨RX10, "isGreat", "(I)Z"⟩
abbrev cX10_at : ByteArray := prog_12_method_26_code
def yX10_at : MethodName := ⟨RX10, "at", "(I)I"⟩
abbrev cX10_reads : ByteArray := prog_12_method_27_code
def yX10_reads : MethodName := ⟨RX10, "reads", "()V"⟩
abbrev cX10_isNot : ByteArray := prog_12_method_28_code
def yX10_isNot : MethodName := ⟨RX10, "isNot", "()Z"⟩
abbrev cX10_named : ByteArray := prog_12_method_29_code
def yX10_named : MethodName := ⟨RX10, "named", "()V"⟩
abbrev cX10_passes : ByteArray := prog_12_method_30_code
def yX10_passes : MethodName := ⟨RX10, "passes", "(I)Z"⟩
abbrev cX10_needs : ByteArray := prog_12_method_31_code
def yX10_needs : MethodName := ⟨RX10, "needs", "(I)V"⟩
abbrev cX10_constant : ByteArray := prog_12_method_32_code
def yX10_constant : MethodName := ⟨RX10, "constant", "()I"⟩
abbrev cX10_variable : ByteArray := prog_12_method_33_code
def yX10_variable : MethodName := ⟨RX10, "variable", "()I"⟩
abbrev cX10_termRead : ByteArray := prog_12_method_34_code
def yX10_termRead : MethodName := ⟨RX10, "termRead", "(Z)I"⟩
abbrev cX10_predicateRead : ByteArray := prog_12_method_35_code
def yX10_predicateRead : MethodName := ⟨RX10, "predicateRead", "()I"⟩
abbrev cX10_atomRead : ByteArray := prog_12_method_36_code
def yX10_atomRead : MethodName := ⟨RX10, "atomRead", "(IZZ)V"⟩
abbrev cX10_literalRead : ByteArray := prog_12_method_37_code
def yX10_literalRead : MethodName := ⟨RX10, "literalRead", "(I)V"⟩
abbrev cX10_clauseRead : ByteArray := prog_12_method_38_code
def yX10_clauseRead : MethodName := ⟨RX10, "clauseRead", "()V"⟩
abbrev cX10_text : ByteArray := prog_12_method_39_code
def yX10_text : MethodName := ⟨RX10, "text", "(I)I"⟩
abbrev cX10_stands : ByteArray := prog_12_method_40_code
def yX10_stands : MethodName := ⟨RX10, "stands", "()V"⟩
abbrev cX10_fault : ByteArray := prog_12_method_41_code
def yX10_fault : MethodName := ⟨RX10, "fault", "()I"⟩
abbrev cX10_goalAt : ByteArray := prog_12_method_42_code
def yX10_goalAt : MethodName := ⟨RX10, "goalAt", "(III)I"⟩
abbrev cX10_predicateOf : ByteArray := prog_12_method_43_code
def yX10_predicateOf : MethodName := ⟨RX10, "predicateOf", "(I)I"⟩
abbrev cX10_termOf : ByteArray := prog_12_method_44_code
def yX10_termOf : MethodName := ⟨RX10, "termOf", "(II)I"⟩
abbrev cX10_variant : ByteArray := prog_12_method_45_code
def yX10_variant : MethodName := ⟨RX10, "variant", "(III)I"⟩
abbrev cX10_isLike : ByteArray := prog_12_method_46_code
def yX10_isLike : MethodName := ⟨RX10, "isLike", "(III)Z"⟩
abbrev cX10_comes : ByteArray := prog_12_method_47_code
def yX10_comes : MethodName := ⟨RX10, "comes", "(IZ)V"⟩
abbrev cX10_root : ByteArray := prog_12_method_48_code
def yX10_root : MethodName := ⟨RX10, "root", "(I)I"⟩
abbrev cX10_joins : ByteArray := prog_12_method_49_code
def yX10_joins : MethodName := ⟨RX10, "joins", "(II)Z"⟩
abbrev cX10_becomes : ByteArray := prog_12_method_50_code
def yX10_becomes : MethodName := ⟨RX10, "becomes", "(II)Z"⟩
abbrev cX10_meets : ByteArray := prog_12_method_51_code
def yX10_meets : MethodName := ⟨RX10, "meets", "(II)Z"⟩
abbrev cX10_now : ByteArray := prog_12_method_52_code
def yX10_now : MethodName := ⟨RX10, "now", "(I)I"⟩
abbrev cX10_goesOn : ByteArray := prog_12_method_53_code
def yX10_goesOn : MethodName := ⟨RX10, "goesOn", "(II)V"⟩
abbrev cX10_laysCalls : ByteArray := prog_12_method_54_code
def yX10_laysCalls : MethodName := ⟨RX10, "laysCalls", "(I)V"⟩
abbrev cX10_tableFor : ByteArray := prog_12_method_55_code
def yX10_tableFor : MethodName := ⟨RX10, "tableFor", "(I)I"⟩
abbrev cX10_noTables : ByteArray := prog_12_method_56_code
def yX10_noTables : MethodName := ⟨RX10, "noTables", "()V"⟩
abbrev cX10_tableMade : ByteArray := prog_12_method_57_code
def yX10_tableMade : MethodName := ⟨RX10, "tableMade", "(II)I"⟩
abbrev cX10_isAtom : ByteArray := prog_12_method_58_code
def yX10_isAtom : MethodName := ⟨RX10, "isAtom", "(III)Z"⟩
abbrev cX10_callAt : ByteArray := prog_12_method_59_code
def yX10_callAt : MethodName := ⟨RX10, "callAt", "(II)I"⟩
abbrev cX10_goesInto : ByteArray := prog_12_method_60_code
def yX10_goesInto : MethodName := ⟨RX10, "goesInto", "(II)V"⟩
abbrev cX10_goesThrough : ByteArray := prog_12_method_61_code
def yX10_goesThrough : MethodName := ⟨RX10, "goesThrough", "()V"⟩
abbrev cX10_spreads : ByteArray := prog_12_method_62_code
def yX10_spreads : MethodName := ⟨RX10, "spreads", "(I)V"⟩
abbrev cX10_leads : ByteArray := prog_12_method_63_code
def yX10_leads : MethodName := ⟨RX10, "leads", "()V"⟩
abbrev cX10_completes : ByteArray := prog_12_method_64_code
def yX10_completes : MethodName := ⟨RX10, "completes", "()V"⟩
abbrev cX10_wasLeft : ByteArray := prog_12_method_65_code
def yX10_wasLeft : MethodName := ⟨RX10, "wasLeft", "(I)Z"⟩
abbrev cX10_isConstant : ByteArray := prog_12_method_66_code
def yX10_isConstant : MethodName := ⟨RX10, "isConstant", "(I)Z"⟩
abbrev cX10_isTerm : ByteArray := prog_12_method_67_code
def yX10_isTerm : MethodName := ⟨RX10, "isTerm", "(IIIZ)Z"⟩
abbrev cX10_isGiven : ByteArray := prog_12_method_68_code
def yX10_isGiven : MethodName := ⟨RX10, "isGiven", "(IIIZI)Z"⟩
abbrev cX10_factAt : ByteArray := prog_12_method_69_code
def yX10_factAt : MethodName := ⟨RX10, "factAt", "(III)I"⟩
abbrev cX10_stales : ByteArray := prog_12_method_70_code
def yX10_stales : MethodName := ⟨RX10, "stales", "(III)I"⟩
abbrev cX10_callsStale : ByteArray := prog_12_method_71_code
def yX10_callsStale : MethodName := ⟨RX10, "callsStale", "(I)Z"⟩
abbrev cX10_assume : ByteArray := prog_12_method_72_code
def yX10_assume : MethodName := ⟨RX10, "assume", "(III)I"⟩
abbrev cX10_retract : ByteArray := prog_12_method_73_code
def yX10_retract : MethodName := ⟨RX10, "retract", "(III)I"⟩
abbrev cX10_ask : ByteArray := prog_12_method_74_code
def yX10_ask : MethodName := ⟨RX10, "ask", "(III)I"⟩
abbrev cX10_abolish : ByteArray := prog_12_method_75_code
def yX10_abolish : MethodName := ⟨RX10, "abolish", "()I"⟩
abbrev cX10_factMany : ByteArray := prog_12_method_76_code
def yX10_factMany : MethodName := ⟨RX10, "factMany", "()I"⟩
abbrev cX10_freshMany : ByteArray := prog_12_method_77_code
def yX10_freshMany : MethodName := ⟨RX10, "freshMany", "()I"⟩
abbrev cX10_atomsOf : ByteArray := prog_12_method_78_code
def yX10_atomsOf : MethodName := ⟨RX10, "atomsOf", "(II)I"⟩
abbrev cX10_allAtoms : ByteArray := prog_12_method_79_code
def yX10_allAtoms : MethodName := ⟨RX10, "allAtoms", "(I)I"⟩
abbrev cX10_told : ByteArray := prog_12_method_80_code
def yX10_told : MethodName := ⟨RX10, "told", "(I)I"⟩
abbrev cX10_lettersOf : ByteArray := prog_12_method_81_code
def yX10_lettersOf : MethodName := ⟨RX10, "lettersOf", "(J)I"⟩
abbrev cX10_headMany : ByteArray := prog_12_method_82_code
def yX10_headMany : MethodName := ⟨RX10, "headMany", "(I)I"⟩
abbrev cX10_predicate : ByteArray := prog_12_method_83_code
def yX10_predicate : MethodName := ⟨RX10, "predicate", "(II)I"⟩
abbrev cX10_nameAt : ByteArray := prog_12_method_84_code
def yX10_nameAt : MethodName := ⟨RX10, "nameAt", "(III)I"⟩
abbrev cX10_clause : ByteArray := prog_12_method_85_code
def yX10_clause : MethodName := ⟨RX10, "clause", "(III)I"⟩
abbrev cX10_literals : ByteArray := prog_12_method_86_code
def yX10_literals : MethodName := ⟨RX10, "literals", "(I)I"⟩
abbrev cX10_value : ByteArray := prog_12_method_87_code
def yX10_value : MethodName := ⟨RX10, "value", "(III)I"⟩
abbrev cX10_stage : ByteArray := prog_12_method_88_code
def yX10_stage : MethodName := ⟨RX10, "stage", "(III)I"⟩
abbrev cX10_find : ByteArray := prog_12_method_89_code
def yX10_find : MethodName := ⟨RX10, "find", "(III)I"⟩
abbrev cX10_isTable : ByteArray := prog_12_method_90_code
def yX10_isTable : MethodName := ⟨RX10, "isTable", "(I)Z"⟩
abbrev cX10_answersOf : ByteArray := prog_12_method_91_code
def yX10_answersOf : MethodName := ⟨RX10, "answersOf", "(II)I"⟩
abbrev cX10_nodes : ByteArray := prog_12_method_92_code
def yX10_nodes : MethodName := ⟨RX10, "nodes", "(I)I"⟩
abbrev cX10_callers : ByteArray := prog_12_method_93_code
def yX10_callers : MethodName := ⟨RX10, "callers", "(I)I"⟩
abbrev cX10_leaderOf : ByteArray := prog_12_method_94_code
def yX10_leaderOf : MethodName := ⟨RX10, "leaderOf", "(I)I"⟩
abbrev cX10_table : ByteArray := prog_12_method_95_code
def yX10_table : MethodName := ⟨RX10, "table", "(II)I"⟩
abbrev cX10_calls : ByteArray := prog_12_method_96_code
def yX10_calls : MethodName := ⟨RX10, "calls", "(III)I"⟩
abbrev cX10_answer : ByteArray := prog_12_method_97_code
def yX10_answer : MethodName := ⟨RX10, "answer", "(III)I"⟩
abbrev cX10_completed : ByteArray := prog_12_method_98_code
def yX10_completed : MethodName := ⟨RX10, "completed", "(I)I"⟩
abbrev cX10_isCondition : ByteArray := prog_12_method_99_code
def yX10_isCondition : MethodName := ⟨RX10, "isCondition", "(I)Z"⟩
abbrev cX10_seeks : ByteArray := prog_12_method_100_code
def yX10_seeks : MethodName := ⟨RX10, "seeks", "(II)V"⟩
abbrev cX10_lays : ByteArray := prog_12_method_101_code
def yX10_lays : MethodName := ⟨RX10, "lays", "(I)V"⟩
abbrev cX10_condition : ByteArray := prog_12_method_102_code
def yX10_condition : MethodName := ⟨RX10, "condition", "(IIIII)I"⟩
abbrev cX10_reach : ByteArray := prog_12_method_103_code
def yX10_reach : MethodName := ⟨RX10, "reach", "(III)I"⟩
abbrev cX10_print : ByteArray := prog_12_method_104_code
def yX10_print : MethodName := ⟨RX10, "print", "()J"⟩
abbrev cX10_status : ByteArray := prog_12_method_105_code
def yX10_status : MethodName := ⟨RX10, "status", "(I)I"⟩
def RJx145de : String := "java/io/Serializable"
def RJ13 : String := "java/lang/Long"
abbrev cJ13_bitCount_95d88 : ByteArray := prog_17_method_50_code
def yJ13_bitCount_95d88 : MethodName := ⟨RJ13, "bitCount", "(J)I"⟩
def RJ9 : String := "java/lang/Math"
abbrev cJ9_max_7cf53 : ByteArray := prog_18_method_65_code
def yJ9_max_7cf53 : MethodName := ⟨RJ9, "max", "(II)I"⟩
abbrev cJ9_min_7cf53 : ByteArray := prog_18_method_69_code
def yJ9_min_7cf53 : MethodName := ⟨RJ9, "min", "(II)I"⟩
def RJ0 : String := "java/lang/String"
def RJ10 : String := "java/lang/System"
def RJ7 : String := "java/util/Arrays"
abbrev cJ7_fill_d0a16 : ByteArray := prog_23_method_101_code
def yJ7_fill_d0a16 : MethodName := ⟨RJ7, "fill", "([JJ)V"⟩
abbrev cJ7_fill_53178 : ByteArray := prog_23_method_103_code
def yJ7_fill_53178 : MethodName := ⟨RJ7, "fill", "([II)V"⟩
def RL : String := "TabledGoalsLaw"
abbrev cL_text : ByteArray := method_3_code
def yL_text : MethodName := ⟨RL, "text", "(LTabledGoals;I[J)I"⟩
abbrev cL_assume : ByteArray := method_4_code
def yL_assume : MethodName := ⟨RL, "assume", "(LTabledGoals;III[J)I"⟩
abbrev cL_retract : ByteArray := method_5_code
def yL_retract : MethodName := ⟨RL, "retract", "(LTabledGoals;III[J)I"⟩
abbrev cL_ask : ByteArray := method_6_code
def yL_ask : MethodName := ⟨RL, "ask", "(LTabledGoals;III[J)I"⟩
abbrev cL_told : ByteArray := method_7_code
def yL_told : MethodName := ⟨RL, "told", "(LTabledGoals;I[J)I"⟩
abbrev cL_predicate : ByteArray := method_8_code
def yL_predicate : MethodName := ⟨RL, "predicate", "(LTabledGoals;II[J)I"⟩
abbrev cL_nameAt : ByteArray := method_9_code
def yL_nameAt : MethodName := ⟨RL, "nameAt", "(LTabledGoals;III[J)I"⟩
abbrev cL_clause : ByteArray := method_10_code
def yL_clause : MethodName := ⟨RL, "clause", "(LTabledGoals;III[J)I"⟩
abbrev cL_literals : ByteArray := method_11_code
def yL_literals : MethodName := ⟨RL, "literals", "(LTabledGoals;I[J)I"⟩
abbrev cL_value : ByteArray := method_12_code
def yL_value : MethodName := ⟨RL, "value", "(LTabledGoals;III[J)I"⟩
abbrev cL_stage : ByteArray := method_13_code
def yL_stage : MethodName := ⟨RL, "stage", "(LTabledGoals;III[J)I"⟩
abbrev cL_find : ByteArray := method_14_code
def yL_find : MethodName := ⟨RL, "find", "(LTabledGoals;III[J)I"⟩
abbrev cL_table : ByteArray := method_15_code
def yL_table : MethodName := ⟨RL, "table", "(LTabledGoals;II[J)I"⟩
abbrev cL_calls : ByteArray := method_16_code
def yL_calls : MethodName := ⟨RL, "calls", "(LTabledGoals;III[J)I"⟩
abbrev cL_answer : ByteArray := method_17_code
def yL_answer : MethodName := ⟨RL, "answer", "(LTabledGoals;III[J)I"⟩
abbrev cL_condition : ByteArray := method_18_code
def yL_condition : MethodName := ⟨RL, "condition", "(LTabledGoals;IIIII[J)I"⟩
abbrev cL_reach : ByteArray := method_19_code
def yL_reach : MethodName := ⟨RL, "reach", "(LTabledGoals;III[J)I"⟩
abbrev cL_law : ByteArray := code
def yL_law : MethodName := ⟨RL, "law", "([I)Z"⟩
abbrev vwCl : List vw_C := [(RX0, TX0, 9), (RX1, TX1, 7), (RX2, TX2, 7), (RX3, TX3, 9), (RX4, TX4, 10), (RX5, TX5, 18), (RX6, TX6, 14), (RX8, TX8, 12), (RX9, TX9, 9), (RX10, TX10, 77)]
end
section
abbrev nse : String := "java/util/NoSuchElementException"
abbrev iae : String := "java/lang/IllegalArgumentException"
def wsE : List Cond := [Cond.constantLong RJ13 314 (6148914691236517205), Cond.constantLong RJ13 316 (3689348814741910323), Cond.constantLong RJ13 318 (1085102592571150095), Cond.fieldLink RX9 55 "TabledGoals" "tapeBytes" "I", Cond.fieldLink RX9 9 "TabledGoals" "tape" "[I", Cond.code yX9_putBytes cX9_putBytes 3 none, Cond.initialized RX9, Cond.methodLink RX9 58 yX9_putBytes, Cond.instanceMethod yX9_putBytes, Cond.selects RX9 yX9_putBytes yX9_putBytes, Cond.fieldLink RX9 13 "TabledGoals" "faultPlace" "I", Cond.fieldLink RX9 17 "TabledGoals" "refused" "[I", Cond.classLink RX9 285 nse, Cond.initialized nse, Cond.classLink RX9 292 iae, Cond.initialized iae, Cond.code yX9_refuseMissing cX9_refuseMissing 1 none, Cond.methodLink RX9 262 yX9_refuseMissing, Cond.instanceMethod yX9_refuseMissing, Cond.selects RX9 yX9_refuseMissing yX9_refuseMissing, Cond.fieldLink RX9 23 "TabledGoals" "program" "LTabledGoals$Program;", Cond.fieldLink RX9 138 "TabledGoals$Program" "predicates" "I", Cond.code yX9_needIndex cX9_needIndex 3 none, Cond.methodLink RX9 199 yX9_needIndex, Cond.instanceMethod yX9_needIndex, Cond.selects RX9 yX9_needIndex yX9_needIndex, Cond.fieldLink RX9 141 "TabledGoals$Program" "constants" "I", Cond.code yX9_needPredicate cX9_needPredicate 2 none, Cond.methodLink RX9 166 yX9_needPredicate, Cond.instanceMethod yX9_needPredicate, Cond.selects RX9 yX9_needPredicate yX9_needPredicate, Cond.code yX9_needAtom cX9_needAtom 5 none, Cond.methodLink RX9 90 yX9_needAtom, Cond.instanceMethod yX9_needAtom, Cond.selects RX9 yX9_needAtom yX9_needAtom, Cond.code yX9_needGoal cX9_needGoal 5 none, Cond.methodLink RX9 115 yX9_needGoal, Cond.instanceMethod yX9_needGoal, Cond.selects RX9 yX9_needGoal yX9_needGoal, Cond.fieldLink RX9 87 "TabledGoals$Program" "clauses" "I", Cond.code yX9_refuseArgument cX9_refuseArgument 1 none, Cond.methodLink RX9 62 yX9_refuseArgument, Cond.instanceMethod yX9_refuseArgument, Cond.selects RX9 yX9_refuseArgument yX9_refuseArgument, Cond.fieldLink RX1 9 "TabledGoals$Follower" "program" "LTabledGoals$Program;", Cond.sameField "TabledGoals$Follower" "TabledGoals$Walk" "program" "LTabledGoals$Program;", Cond.fieldLink RX1 40 "TabledGoals$Follower" "barred" "[J", Cond.sameField "TabledGoals$Follower" "TabledGoals$Walk" "barred" "[J", Cond.fieldLink RX1 37 "TabledGoals$Follower" "grownNow" "I", Cond.fieldLink RX1 43 "TabledGoals$Program" "clauses" "I", Cond.fieldLink RX2 9 "TabledGoals$Model" "truth" "[J", Cond.fieldLink RX2 22 "TabledGoals$Model" "grown" "[J", Cond.methodLink RX2 68 arraycopyName, Cond.native arraycopyName, Cond.static arraycopyName, Cond.initialized "java/lang/System", Cond.fieldLink RX2 30 "TabledGoals$Model" "follower" "LTabledGoals$Follower;", Cond.code yX1_follow cX1_follow 6 none, Cond.initialized RX1, Cond.methodLink RX2 74 yX1_follow, Cond.instanceMethod yX1_follow, Cond.selects RX1 yX1_follow yX1_follow, Cond.fieldLink RX2 15 "TabledGoals$Model" "possible" "[J", Cond.fieldLink RX2 34 "TabledGoals$Model" "known" "Z", Cond.code yJ7_fill_d0a16 cJ7_fill_d0a16 5 none, Cond.initialized RJ7, Cond.methodLink RX2 38 yJ7_fill_d0a16, Cond.static yJ7_fill_d0a16, Cond.fieldLink RX2 18 "TabledGoals$Model" "stageOf" "[I", Cond.code yJ7_fill_53178 cJ7_fill_53178 4 none, Cond.methodLink RX2 44 yJ7_fill_53178, Cond.static yJ7_fill_53178, Cond.fieldLink RX2 47 "TabledGoals$Model" "stages" "I", Cond.code yX2_growPossible cX2_growPossible 2 none, Cond.initialized RX2, Cond.methodLink RX2 51 yX2_growPossible, Cond.instanceMethod yX2_growPossible, Cond.selects RX2 yX2_growPossible yX2_growPossible, Cond.fieldLink RX2 55 "TabledGoals$Program" "predicates" "I", Cond.code yX2_noteStage cX2_noteStage 7 none, Cond.methodLink RX2 60 yX2_noteStage, Cond.instanceMethod yX2_noteStage, Cond.selects RX2 yX2_noteStage yX2_noteStage, Cond.code yX2_growTruth cX2_growTruth 4 (some .boolean), Cond.methodLink RX2 64 yX2_growTruth, Cond.instanceMethod yX2_growTruth, Cond.selects RX2 yX2_growTruth yX2_growTruth, Cond.constantLong RX2 78 (-1), Cond.code yJ13_bitCount_95d88 cJ13_bitCount_95d88 2 (some .int), Cond.initialized RJ13, Cond.methodLink RX2 80 yJ13_bitCount_95d88, Cond.static yJ13_bitCount_95d88, Cond.code yX2_undefinedOf cX2_undefinedOf 2 (some .long), Cond.methodLink RX2 86 yX2_undefinedOf, Cond.instanceMethod yX2_undefinedOf, Cond.selects RX2 yX2_undefinedOf yX2_undefinedOf, Cond.fieldLink RX3 37 "TabledGoals$Program" "clauses" "I", Cond.fieldLink RX6 60 "TabledGoals$Tables" "count" "I", Cond.fieldLink RX6 15 "TabledGoals$Tables" "numberOf" "[I", Cond.methodLink RX6 44 yJ7_fill_53178, Cond.fieldLink RX6 63 "TabledGoals$Tables" "completedCount" "I", Cond.code yX6_clear cX6_clear 1 none, Cond.initialized RX6, Cond.methodLink RX6 50 yX6_clear, Cond.instanceMethod yX6_clear, Cond.selects RX6 yX6_clear yX6_clear, Cond.fieldLink RX6 53 "TabledGoals$Tables" "madeInAll" "I", Cond.fieldLink RX6 57 "TabledGoals$Tables" "hitsInAll" "I", Cond.fieldLink RX3 30 "TabledGoals$Program" "predicates" "I", Cond.fieldLink RX3 34 "TabledGoals$Program" "constants" "I", Cond.methodLink RX4 3 objectInit, Cond.instanceMethod objectInit, Cond.code objectInit ⟨#[0xb1]⟩ 1 none, Cond.fieldLink RX4 9 "TabledGoals$Reader" "place" "I", Cond.arrayClass .int, Cond.fieldLink RX4 15 "TabledGoals$Reader" "variables" "[I", Cond.fieldLink RX4 19 "TabledGoals$Reader" "headPlaces" "[I", Cond.fieldLink RX4 22 "TabledGoals$Reader" "bytes" "[I", Cond.methodLink RX4 25 Lib.Math.min.name, Cond.static Lib.Math.min.name, Cond.initialized "java/lang/Math", Cond.code Lib.Math.min.name Lib.Math.min.code 2 (some .int), Cond.fieldLink RX4 31 "TabledGoals$Reader" "end" "I", Cond.fieldLink RX4 34 "TabledGoals$Reader" "into" "LTabledGoals$Program;", Cond.fieldLink RX4 54 "TabledGoals$Reader" "at" "I", Cond.code yX3_clear cX3_clear 1 none, Cond.initialized RX3, Cond.methodLink RX4 38 yX3_clear, Cond.instanceMethod yX3_clear, Cond.selects RX3 yX3_clear yX3_clear, Cond.code yX4_next cX4_next 1 (some .int), Cond.initialized RX4, Cond.methodLink RX4 43 yX4_next, Cond.instanceMethod yX4_next, Cond.selects RX4 yX4_next yX4_next, Cond.classLink RX9 65 RX4, Cond.instantiable RX4 10, Cond.fieldLink RX9 27 "TabledGoals" "spare" "LTabledGoals$Program;", Cond.code yX4_init cX4_init 4 none, Cond.instanceMethod yX4_init, Cond.methodLink RX9 67 yX4_init, Cond.code yX4_readText cX4_readText 2 (some .boolean), Cond.methodLink RX9 70 yX4_readText, Cond.instanceMethod yX4_readText, Cond.selects RX4 yX4_readText yX4_readText, Cond.fieldLink RX9 74 "TabledGoals$Reader" "place" "I", Cond.fieldLink RX9 35 "TabledGoals" "model" "LTabledGoals$Model;", Cond.fieldLink RX9 80 "TabledGoals$Model" "known" "Z", Cond.fieldLink RX9 51 "TabledGoals" "tables" "LTabledGoals$Tables;", Cond.code yX6_startAnew cX6_startAnew 1 none, Cond.methodLink RX9 84 yX6_startAnew, Cond.instanceMethod yX6_startAnew, Cond.selects RX6 yX6_startAnew yX6_startAnew, Cond.fieldLink RX9 128 "TabledGoals$Tables" "count" "I", Cond.methodLink RX9 131 yX6_clear, Cond.code yX9_needWhat cX9_needWhat 3 none, Cond.methodLink RX9 134 yX9_needWhat, Cond.instanceMethod yX9_needWhat, Cond.selects RX9 yX9_needWhat yX9_needWhat, Cond.code yX3_facts cX3_facts 3 (some .int), Cond.methodLink RX9 144 yX3_facts, Cond.instanceMethod yX3_facts, Cond.selects RX3 yX3_facts yX3_facts, Cond.code yX6_freshOnes cX6_freshOnes 3 (some .int), Cond.methodLink RX9 148 yX6_freshOnes, Cond.instanceMethod yX6_freshOnes, Cond.selects RX6 yX6_freshOnes yX6_freshOnes, Cond.fieldLink RX9 151 "TabledGoals$Tables" "madeInAll" "I", Cond.fieldLink RX9 154 "TabledGoals$Tables" "hitsInAll" "I", Cond.code yX2_settle cX2_settle 2 none, Cond.methodLink RX9 118 yX2_settle, Cond.instanceMethod yX2_settle, Cond.selects RX2 yX2_settle yX2_settle, Cond.fieldLink RX9 157 "TabledGoals$Model" "stages" "I", Cond.code yX2_trueAtoms cX2_trueAtoms 3 (some .int), Cond.methodLink RX9 160 yX2_trueAtoms, Cond.instanceMethod yX2_trueAtoms, Cond.selects RX2 yX2_trueAtoms yX2_trueAtoms, Cond.code yX2_undefinedAtoms cX2_undefinedAtoms 3 (some .int), Cond.methodLink RX9 163 yX2_undefinedAtoms, Cond.instanceMethod yX2_undefinedAtoms, Cond.selects RX2 yX2_undefinedAtoms yX2_undefinedAtoms, Cond.code yX9_needConstant cX9_needConstant 2 none, Cond.methodLink RX9 196 yX9_needConstant, Cond.instanceMethod yX9_needConstant, Cond.selects RX9 yX9_needConstant yX9_needConstant, Cond.fieldLink RX9 256 "TabledGoals$Tables" "completedCount" "I", Cond.code yX6_sum cX6_sum 5 (some .long), Cond.methodLink RX9 282 yX6_sum, Cond.instanceMethod yX6_sum, Cond.selects RX6 yX6_sum yX6_sum, Cond.fieldLink RX10 164 "TabledGoalsModel" "thrown" "I", Cond.fieldLink RX10 7 "TabledGoalsModel" "refused" "[I", Cond.fieldLink RX10 48 "TabledGoalsModel" "tape" "[B", Cond.fieldLink RX10 231 "TabledGoalsModel" "taped" "I", Cond.code yX10_puts cX10_puts 3 none, Cond.initialized RX10, Cond.methodLink RX10 234 yX10_puts, Cond.instanceMethod yX10_puts, Cond.selects RX10 yX10_puts yX10_puts, Cond.fieldLink RX10 55 "TabledGoalsModel" "faultAt" "I", Cond.fieldLink RX10 344 "TabledGoalsModel" "predicates" "I", Cond.code yX10_within cX10_within 3 (some .boolean), Cond.methodLink RX10 330 yX10_within, Cond.static yX10_within, Cond.code yX10_isFine cX10_isFine 4 (some .boolean), Cond.methodLink RX10 334 yX10_isFine, Cond.instanceMethod yX10_isFine, Cond.selects RX10 yX10_isFine yX10_isFine, Cond.code yX10_isGiven cX10_isGiven 8 (some .boolean), Cond.methodLink RX10 449 yX10_isGiven, Cond.instanceMethod yX10_isGiven, Cond.selects RX10 yX10_isGiven yX10_isGiven, Cond.fieldLink RX10 191 "TabledGoalsModel" "clauses" "I", Cond.fieldLink RX10 400 "TabledGoalsModel" "tables" "I", Cond.code yX10_isTable cX10_isTable 2 (some .boolean), Cond.methodLink RX10 490 yX10_isTable, Cond.instanceMethod yX10_isTable, Cond.selects RX10 yX10_isTable yX10_isTable, Cond.fieldLink RX10 403 "TabledGoalsModel" "completedMany" "I", Cond.fieldLink RX10 98 "TabledGoalsModel" "tableOf" "[I", Cond.code yX10_noTables cX10_noTables 2 none, Cond.methodLink RX10 353 yX10_noTables, Cond.instanceMethod yX10_noTables, Cond.selects RX10 yX10_noTables yX10_noTables, Cond.fieldLink RX10 307 "TabledGoalsModel" "readPredicates" "I", Cond.fieldLink RX10 292 "TabledGoalsModel" "readConstants" "I", Cond.fieldLink RX10 181 "TabledGoalsModel" "constants" "I", Cond.fieldLink RX10 324 "TabledGoalsModel" "readClauses" "I", Cond.fieldLink RX10 205 "TabledGoalsModel" "isMade" "Z", Cond.fieldLink RX10 347 "TabledGoalsModel" "made" "I", Cond.fieldLink RX10 350 "TabledGoalsModel" "hits" "I", Cond.fieldLink RX10 23 "TabledGoalsModel" "constantName" "[J", Cond.fieldLink RX10 68 "TabledGoalsModel" "readConstant" "[J", Cond.fieldLink RX10 13 "TabledGoalsModel" "arity" "[I", Cond.fieldLink RX10 59 "TabledGoalsModel" "readArity" "[I", Cond.fieldLink RX10 19 "TabledGoalsModel" "predicateName" "[J", Cond.fieldLink RX10 65 "TabledGoalsModel" "readPredicate" "[J", Cond.fieldLink RX10 16 "TabledGoalsModel" "rule" "[I", Cond.fieldLink RX10 62 "TabledGoalsModel" "readRule" "[I", Cond.fieldLink RX10 243 "TabledGoalsModel" "here" "I", Cond.fieldLink RX10 246 "TabledGoalsModel" "size" "I", Cond.fieldLink RX10 237 "TabledGoalsModel" "fault" "I", Cond.code yX10_sign cX10_sign 1 (some .int), Cond.methodLink RX10 249 yX10_sign, Cond.instanceMethod yX10_sign, Cond.selects RX10 yX10_sign yX10_sign, Cond.code yX10_stands cX10_stands 2 none, Cond.methodLink RX10 341 yX10_stands, Cond.instanceMethod yX10_stands, Cond.selects RX10 yX10_stands yX10_stands, Cond.fieldLink RX10 29 "TabledGoalsModel" "known" "[Z", Cond.fieldLink RX10 33 "TabledGoalsModel" "possible" "[Z", Cond.fieldLink RX10 42 "TabledGoalsModel" "falseAt" "[I", Cond.fieldLink RX10 209 "TabledGoalsModel" "stages" "I", Cond.code yX10_follows cX10_follows 6 none, Cond.methodLink RX10 212 yX10_follows, Cond.instanceMethod yX10_follows, Cond.selects RX10 yX10_follows yX10_follows, Cond.code yX10_marks cX10_marks 3 none, Cond.methodLink RX10 216 yX10_marks, Cond.instanceMethod yX10_marks, Cond.selects RX10 yX10_marks yX10_marks, Cond.fieldLink RX10 36 "TabledGoalsModel" "next" "[Z", Cond.fieldLink RX10 39 "TabledGoalsModel" "trueAt" "[I", Cond.code yX10_makes cX10_makes 3 none, Cond.methodLink RX10 391 yX10_makes, Cond.instanceMethod yX10_makes, Cond.selects RX10 yX10_makes yX10_makes, Cond.code yX10_factMany cX10_factMany 3 (some .int), Cond.methodLink RX10 468 yX10_factMany, Cond.instanceMethod yX10_factMany, Cond.selects RX10 yX10_factMany yX10_factMany, Cond.code yX10_freshMany cX10_freshMany 3 (some .int), Cond.methodLink RX10 471 yX10_freshMany, Cond.instanceMethod yX10_freshMany, Cond.selects RX10 yX10_freshMany yX10_freshMany, Cond.code yX10_allAtoms cX10_allAtoms 4 (some .int), Cond.methodLink RX10 474 yX10_allAtoms, Cond.instanceMethod yX10_allAtoms, Cond.selects RX10 yX10_allAtoms yX10_allAtoms, Cond.code yX10_lettersOf cX10_lettersOf 5 (some .int), Cond.methodLink RX10 483 yX10_lettersOf, Cond.static yX10_lettersOf, Cond.methodLink RX3 3 objectInit, Cond.fieldLink RX3 9 "TabledGoals$Program" "terms" "[I", Cond.fieldLink RX3 15 "TabledGoals$Program" "lengths" "[I", Cond.fieldLink RX3 18 "TabledGoals$Program" "letters" "[I", Cond.fieldLink RX3 21 "TabledGoals$Program" "sizes" "[I", Cond.fieldLink RX3 24 "TabledGoals$Program" "needs" "[I", Cond.fieldLink RX3 27 "TabledGoals$Program" "parts" "[I", Cond.methodLink RX7 3 objectInit, Cond.fieldLink RX7 9 "TabledGoals$Walk" "bound" "[I", Cond.fieldLink RX7 15 "TabledGoals$Walk" "same" "[I", Cond.fieldLink RX7 18 "TabledGoals$Walk" "program" "LTabledGoals$Program;", Cond.fieldLink RX7 22 "TabledGoals$Walk" "plain" "[J", Cond.fieldLink RX7 26 "TabledGoals$Walk" "barred" "[J", Cond.code yX7_init cX7_init 4 none, Cond.initialized RX7, Cond.instanceMethod yX7_init, Cond.methodLink RX1 3 yX7_init, Cond.methodLink RX2 3 objectInit, Cond.arrayClass .long, Cond.classLink RX2 25 RX1, Cond.instantiable RX1 7, Cond.code yX1_init cX1_init 4 none, Cond.instanceMethod yX1_init, Cond.methodLink RX2 27 yX1_init, Cond.fieldLink RX8 3 "TabledGoals$Model" "possible" "[J", Cond.fieldLink RX8 9 "TabledGoals$Model" "truth" "[J", Cond.methodLink RX8 12 yX7_init, Cond.fieldLink RX8 18 "TabledGoals$Weigher" "delayed" "[I", Cond.fieldLink RX8 24 "TabledGoals$Weigher" "model" "LTabledGoals$Model;", Cond.fieldLink RX0 3 "TabledGoals$Model" "possible" "[J", Cond.fieldLink RX0 9 "TabledGoals$Model" "truth" "[J", Cond.methodLink RX0 12 yX7_init, Cond.fieldLink RX0 18 "TabledGoals$Caller" "keys" "[I", Cond.fieldLink RX0 24 "TabledGoals$Caller" "ways" "[I", Cond.methodLink RX6 3 objectInit, Cond.fieldLink RX6 9 "TabledGoals$Tables" "completedOnes" "[I", Cond.classLink RX6 18 RX5, Cond.fieldLink RX6 20 "TabledGoals$Tables" "all" "[LTabledGoals$Table;", Cond.fieldLink RX6 24 "TabledGoals$Tables" "queue" "[I", Cond.arrayClass .boolean, Cond.fieldLink RX6 27 "TabledGoals$Tables" "seen" "[Z", Cond.fieldLink RX6 31 "TabledGoals$Tables" "model" "LTabledGoals$Model;", Cond.classLink RX6 35 RX0, Cond.instantiable RX0 9, Cond.initialized RX0, Cond.code yX0_init cX0_init 3 none, Cond.instanceMethod yX0_init, Cond.methodLink RX6 37 yX0_init, Cond.fieldLink RX6 40 "TabledGoals$Tables" "caller" "LTabledGoals$Caller;", Cond.methodLink RX9 3 objectInit, Cond.classLink RX9 20 RX3, Cond.instantiable RX3 9, Cond.code yX3_init cX3_init 1 none, Cond.instanceMethod yX3_init, Cond.classLink RX9 30 RX2, Cond.instantiable RX2 7, Cond.code yX2_init cX2_init 2 none, Cond.instanceMethod yX2_init, Cond.methodLink RX9 32 yX2_init, Cond.classLink RX9 39 RX8, Cond.instantiable RX8 12, Cond.initialized RX8, Cond.code yX8_init cX8_init 3 none, Cond.instanceMethod yX8_init, Cond.methodLink RX9 41 yX8_init, Cond.fieldLink RX9 44 "TabledGoals" "weigher" "LTabledGoals$Weigher;", Cond.classLink RX9 48 RX6, Cond.instantiable RX6 14, Cond.code yX6_init cX6_init 3 none, Cond.instanceMethod yX6_init, Cond.methodLink RX9 50 yX6_init, Cond.methodLink RX10 1 objectInit, Cond.fieldLink RX10 26 "TabledGoalsModel" "is" "[I", Cond.fieldLink RX10 45 "TabledGoalsModel" "stratum" "[I", Cond.arrayClass .byte, Cond.fieldLink RX10 52 "TabledGoalsModel" "text" "[B", Cond.fieldLink RX10 71 "TabledGoalsModel" "name" "[I", Cond.fieldLink RX10 74 "TabledGoalsModel" "isBound" "[Z", Cond.fieldLink RX10 77 "TabledGoalsModel" "placeOf" "[I", Cond.fieldLink RX10 80 "TabledGoalsModel" "called" "[I", Cond.fieldLink RX10 83 "TabledGoalsModel" "how" "[I", Cond.fieldLink RX10 86 "TabledGoalsModel" "way" "[I", Cond.fieldLink RX10 89 "TabledGoalsModel" "bound" "[I", Cond.fieldLink RX10 92 "TabledGoalsModel" "alike" "[I", Cond.fieldLink RX10 95 "TabledGoalsModel" "goalOf" "[I", Cond.fieldLink RX10 101 "TabledGoalsModel" "went" "[I", Cond.fieldLink RX10 104 "TabledGoalsModel" "hitsOf" "[I", Cond.fieldLink RX10 107 "TabledGoalsModel" "madeOf" "[I", Cond.fieldLink RX10 110 "TabledGoalsModel" "isFresh" "[Z", Cond.constant RX10 113 (672400), Cond.arrayClass .short, Cond.fieldLink RX10 114 "TabledGoalsModel" "callRow" "[S", Cond.fieldLink RX10 118 "TabledGoalsModel" "callHow" "[B", Cond.fieldLink RX10 121 "TabledGoalsModel" "callMany" "[I", Cond.constant RX10 124 (52480), Cond.fieldLink RX10 125 "TabledGoalsModel" "answers" "[B", Cond.fieldLink RX10 128 "TabledGoalsModel" "open" "[I", Cond.fieldLink RX10 131 "TabledGoalsModel" "done" "[I", Cond.fieldLink RX10 134 "TabledGoalsModel" "left" "[I", Cond.fieldLink RX10 137 "TabledGoalsModel" "leftAt" "[I", Cond.fieldLink RX10 140 "TabledGoalsModel" "finished" "[I", Cond.fieldLink RX10 143 "TabledGoalsModel" "comeTo" "[Z", Cond.fieldLink RX10 146 "TabledGoalsModel" "row" "[I", Cond.fieldLink RX10 149 "TabledGoalsModel" "leader" "[I", Cond.fieldLink RX10 152 "TabledGoalsModel" "hither" "[Z", Cond.fieldLink RX10 155 "TabledGoalsModel" "delays" "[I", Cond.fieldLink RX10 158 "TabledGoalsModel" "reached" "[I", Cond.fieldLink RX10 161 "TabledGoalsModel" "isReached" "[Z", Cond.code yX9_text cX9_text 5 (some .int), Cond.methodLink RL 7 yX9_text, Cond.instanceMethod yX9_text, Cond.selects RX9 yX9_text yX9_text, Cond.classLink RL 13 iae, Cond.code yX9_assume cX9_assume 4 (some .int), Cond.methodLink RL 15 yX9_assume, Cond.instanceMethod yX9_assume, Cond.selects RX9 yX9_assume yX9_assume, Cond.classLink RL 19 nse, Cond.code yX9_retract cX9_retract 5 (some .int), Cond.methodLink RL 23 yX9_retract, Cond.instanceMethod yX9_retract, Cond.selects RX9 yX9_retract yX9_retract, Cond.code yX9_ask cX9_ask 4 (some .int), Cond.methodLink RL 26 yX9_ask, Cond.instanceMethod yX9_ask, Cond.selects RX9 yX9_ask yX9_ask, Cond.code yX9_value cX9_value 4 (some .int), Cond.methodLink RL 45 yX9_value, Cond.instanceMethod yX9_value, Cond.selects RX9 yX9_value yX9_value, Cond.code yX9_stage cX9_stage 4 (some .int), Cond.methodLink RL 48 yX9_stage, Cond.instanceMethod yX9_stage, Cond.selects RX9 yX9_stage yX9_stage, Cond.code yX9_find cX9_find 4 (some .int), Cond.methodLink RL 51 yX9_find, Cond.instanceMethod yX9_find, Cond.selects RX9 yX9_find yX9_find, Cond.code yX9_reach cX9_reach 4 (some .int), Cond.methodLink RL 67 yX9_reach, Cond.instanceMethod yX9_reach, Cond.selects RX9 yX9_reach yX9_reach, Cond.code yX9_condition cX9_condition 6 (some .int), Cond.methodLink RL 63 yX9_condition, Cond.instanceMethod yX9_condition, Cond.selects RX9 yX9_condition yX9_condition, Cond.code yX9_predicate cX9_predicate 3 (some .int), Cond.methodLink RL 32 yX9_predicate, Cond.instanceMethod yX9_predicate, Cond.selects RX9 yX9_predicate yX9_predicate, Cond.code yX9_clause cX9_clause 4 (some .int), Cond.methodLink RL 39 yX9_clause, Cond.instanceMethod yX9_clause, Cond.selects RX9 yX9_clause yX9_clause, Cond.code yX9_literals cX9_literals 2 (some .int), Cond.methodLink RL 42 yX9_literals, Cond.instanceMethod yX9_literals, Cond.selects RX9 yX9_literals yX9_literals, Cond.code yX9_table cX9_table 4 (some .int), Cond.methodLink RL 54 yX9_table, Cond.instanceMethod yX9_table, Cond.selects RX9 yX9_table yX9_table, Cond.code yX9_calls cX9_calls 5 (some .int), Cond.methodLink RL 57 yX9_calls, Cond.instanceMethod yX9_calls, Cond.selects RX9 yX9_calls yX9_calls, Cond.code yX9_answer cX9_answer 8 (some .int), Cond.methodLink RL 60 yX9_answer, Cond.instanceMethod yX9_answer, Cond.selects RX9 yX9_answer yX9_answer, Cond.code yX9_told cX9_told 2 (some .int), Cond.methodLink RL 29 yX9_told, Cond.instanceMethod yX9_told, Cond.selects RX9 yX9_told yX9_told, Cond.code yX9_nameAt cX9_nameAt 5 (some .int), Cond.methodLink RL 36 yX9_nameAt, Cond.instanceMethod yX9_nameAt, Cond.selects RX9 yX9_nameAt yX9_nameAt, Cond.code yX9_feed cX9_feed 6 (some .int), Cond.methodLink RL 74 yX9_feed, Cond.instanceMethod yX9_feed, Cond.selects RX9 yX9_feed yX9_feed, Cond.code yX10_feed cX10_feed 6 (some .int), Cond.methodLink RL 77 yX10_feed, Cond.instanceMethod yX10_feed, Cond.selects RX10 yX10_feed yX10_feed, Cond.codeWith yL_text cL_text 4 (some .int) [(0, 9, 12, 13)], Cond.initialized RL, Cond.methodLink RL 78 yL_text, Cond.static yL_text, Cond.code yX10_text cX10_text 3 (some .int), Cond.methodLink RL 83 yX10_text, Cond.instanceMethod yX10_text, Cond.selects RX10 yX10_text yX10_text, Cond.code yX10_thrown cX10_thrown 1 (some .int), Cond.methodLink RL 84 yX10_thrown, Cond.instanceMethod yX10_thrown, Cond.selects RX10 yX10_thrown yX10_thrown, Cond.code yX9_fault cX9_fault 1 (some .int), Cond.methodLink RL 88 yX9_fault, Cond.instanceMethod yX9_fault, Cond.selects RX9 yX9_fault yX9_fault, Cond.code yX10_fault cX10_fault 1 (some .int), Cond.methodLink RL 91 yX10_fault, Cond.instanceMethod yX10_fault, Cond.selects RX10 yX10_fault yX10_fault, Cond.codeWith yL_assume cL_assume 6 (some .int) [(0, 12, 15, 19), (0, 12, 19, 13), (0, 12, 23, 21)], Cond.methodLink RL 92 yL_assume, Cond.static yL_assume, Cond.code yX10_assume cX10_assume 5 (some .int), Cond.methodLink RL 95 yX10_assume, Cond.instanceMethod yX10_assume, Cond.selects RX10 yX10_assume yX10_assume, Cond.codeWith yL_retract cL_retract 6 (some .int) [(0, 12, 15, 19), (0, 12, 19, 13)], Cond.methodLink RL 96 yL_retract, Cond.static yL_retract, Cond.code yX10_retract cX10_retract 6 (some .int), Cond.methodLink RL 98 yX10_retract, Cond.instanceMethod yX10_retract, Cond.selects RX10 yX10_retract yX10_retract, Cond.codeWith yL_ask cL_ask 6 (some .int) [(0, 12, 15, 19), (0, 12, 19, 13)], Cond.methodLink RL 99 yL_ask, Cond.static yL_ask, Cond.code yX10_ask cX10_ask 5 (some .int), Cond.methodLink RL 101 yX10_ask, Cond.instanceMethod yX10_ask, Cond.selects RX10 yX10_ask yX10_ask, Cond.code yX9_abolish cX9_abolish 2 (some .int), Cond.methodLink RL 102 yX9_abolish, Cond.instanceMethod yX9_abolish, Cond.selects RX9 yX9_abolish yX9_abolish, Cond.code yX10_abolish cX10_abolish 2 (some .int), Cond.methodLink RL 105 yX10_abolish, Cond.instanceMethod yX10_abolish, Cond.selects RX10 yX10_abolish yX10_abolish, Cond.codeWith yL_told cL_told 4 (some .int) [(0, 9, 12, 13)], Cond.methodLink RL 106 yL_told, Cond.static yL_told, Cond.code yX10_told cX10_told 2 (some .int), Cond.methodLink RL 108 yX10_told, Cond.instanceMethod yX10_told, Cond.selects RX10 yX10_told yX10_told, Cond.codeWith yL_predicate cL_predicate 5 (some .int) [(0, 10, 13, 19), (0, 10, 17, 13)], Cond.methodLink RL 109 yL_predicate, Cond.static yL_predicate, Cond.code yX10_predicate cX10_predicate 3 (some .int), Cond.methodLink RL 112 yX10_predicate, Cond.instanceMethod yX10_predicate, Cond.selects RX10 yX10_predicate yX10_predicate, Cond.codeWith yL_nameAt cL_nameAt 6 (some .int) [(0, 12, 15, 19), (0, 12, 19, 13)], Cond.methodLink RL 113 yL_nameAt, Cond.static yL_nameAt, Cond.code yX10_nameAt cX10_nameAt 10 (some .int), Cond.methodLink RL 115 yX10_nameAt, Cond.instanceMethod yX10_nameAt, Cond.selects RX10 yX10_nameAt yX10_nameAt, Cond.codeWith yL_clause cL_clause 6 (some .int) [(0, 12, 15, 19), (0, 12, 19, 13)], Cond.methodLink RL 116 yL_clause, Cond.static yL_clause, Cond.code yX10_clause cX10_clause 5 (some .int), Cond.methodLink RL 118 yX10_clause, Cond.instanceMethod yX10_clause, Cond.selects RX10 yX10_clause yX10_clause, Cond.codeWith yL_literals cL_literals 4 (some .int) [(0, 9, 12, 19)], Cond.methodLink RL 119 yL_literals, Cond.static yL_literals, Cond.code yX10_literals cX10_literals 2 (some .int), Cond.methodLink RL 121 yX10_literals, Cond.instanceMethod yX10_literals, Cond.selects RX10 yX10_literals yX10_literals, Cond.codeWith yL_value cL_value 6 (some .int) [(0, 12, 15, 19), (0, 12, 19, 13)], Cond.methodLink RL 122 yL_value, Cond.static yL_value, Cond.code yX10_value cX10_value 4 (some .int), Cond.methodLink RL 124 yX10_value, Cond.instanceMethod yX10_value, Cond.selects RX10 yX10_value yX10_value, Cond.codeWith yL_stage cL_stage 6 (some .int) [(0, 12, 15, 19), (0, 12, 19, 13)], Cond.methodLink RL 125 yL_stage, Cond.static yL_stage, Cond.code yX10_stage cX10_stage 6 (some .int), Cond.methodLink RL 127 yX10_stage, Cond.instanceMethod yX10_stage, Cond.selects RX10 yX10_stage yX10_stage, Cond.codeWith yL_find cL_find 6 (some .int) [(0, 12, 15, 19), (0, 12, 19, 13)], Cond.methodLink RL 128 yL_find, Cond.static yL_find, Cond.code yX10_find cX10_find 4 (some .int), Cond.methodLink RL 130 yX10_find, Cond.instanceMethod yX10_find, Cond.selects RX10 yX10_find yX10_find, Cond.codeWith yL_table cL_table 5 (some .int) [(0, 10, 13, 19), (0, 10, 17, 13)], Cond.methodLink RL 131 yL_table, Cond.static yL_table, Cond.code yX10_table cX10_table 3 (some .int), Cond.methodLink RL 133 yX10_table, Cond.instanceMethod yX10_table, Cond.selects RX10 yX10_table yX10_table, Cond.codeWith yL_calls cL_calls 6 (some .int) [(0, 12, 15, 19), (0, 12, 19, 13)], Cond.methodLink RL 134 yL_calls, Cond.static yL_calls, Cond.code yX10_calls cX10_calls 4 (some .int), Cond.methodLink RL 136 yX10_calls, Cond.instanceMethod yX10_calls, Cond.selects RX10 yX10_calls yX10_calls, Cond.codeWith yL_answer cL_answer 6 (some .int) [(0, 12, 15, 19), (0, 12, 19, 13)], Cond.methodLink RL 137 yL_answer, Cond.static yL_answer, Cond.code yX10_answer cX10_answer 7 (some .int), Cond.methodLink RL 139 yX10_answer, Cond.instanceMethod yX10_answer, Cond.selects RX10 yX10_answer yX10_answer, Cond.code yX9_completed cX9_completed 2 (some .int), Cond.methodLink RL 140 yX9_completed, Cond.instanceMethod yX9_completed, Cond.selects RX9 yX9_completed yX9_completed, Cond.code yX10_completed cX10_completed 2 (some .int), Cond.methodLink RL 143 yX10_completed, Cond.instanceMethod yX10_completed, Cond.selects RX10 yX10_completed yX10_completed, Cond.codeWith yL_condition cL_condition 8 (some .int) [(0, 16, 19, 19), (0, 16, 23, 13)], Cond.methodLink RL 144 yL_condition, Cond.static yL_condition, Cond.code yX10_condition cX10_condition 7 (some .int), Cond.methodLink RL 147 yX10_condition, Cond.instanceMethod yX10_condition, Cond.selects RX10 yX10_condition yX10_condition, Cond.codeWith yL_reach cL_reach 6 (some .int) [(0, 12, 15, 19), (0, 12, 19, 13)], Cond.methodLink RL 148 yL_reach, Cond.static yL_reach, Cond.code yX10_reach cX10_reach 7 (some .int), Cond.methodLink RL 150 yX10_reach, Cond.instanceMethod yX10_reach, Cond.selects RX10 yX10_reach yX10_reach, Cond.code yX9_print cX9_print 1 (some .long), Cond.methodLink RL 151 yX9_print, Cond.instanceMethod yX9_print, Cond.selects RX9 yX9_print yX9_print, Cond.code yX10_print cX10_print 4 (some .long), Cond.methodLink RL 155 yX10_print, Cond.instanceMethod yX10_print, Cond.selects RX10 yX10_print yX10_print, Cond.code yX9_status cX9_status 2 (some .int), Cond.methodLink RL 156 yX9_status, Cond.instanceMethod yX9_status, Cond.selects RX9 yX9_status yX9_status, Cond.code yX10_status cX10_status 2 (some .int), Cond.methodLink RL 159 yX10_status, Cond.instanceMethod yX10_status, Cond.selects RX10 yX10_status yX10_status, Cond.classLink RL 8 RX9, Cond.instantiable RX9 9, Cond.code yX9_init cX9_init 1 none, Cond.instanceMethod yX9_init, Cond.methodLink RL 70 yX9_init, Cond.classLink RL 71 RX10, Cond.instantiable RX10 77, Cond.code yX10_init cX10_init 1 none, Cond.instanceMethod yX10_init, Cond.methodLink RL 73 yX10_init, Cond.instantiable RX5 18]
def wsY : List Cond := wsX00 ++ wsX10 ++ wsX20 ++ wsX30 ++ wsX40 ++ wsX50 ++ wsX60 ++ wsX80 ++ wsX90 ++ wsX100
def rxN : ByteArray := prog_24_method_4_code
def nsT (own : String) (ic : Nat) : List Cond := [.methodLink own ic (Bundle.initS nse), .instantiable nse 6, .castable nse nse, .selects nse Bundle.tFill0 Bundle.tFill0, .selects nse Bundle.tFill Bundle.tFill, .lays nse Bundle.tN "cause" "Ljava/lang/Throwable;", .lays nse Bundle.tN "stackTrace" Bundle.steD, .lays nse Bundle.tN "suppressedExceptions" Bundle.listD, .lays nse Bundle.tN "detailMessage" "Ljava/lang/String;", .isRef (.static Bundle.tN "UNASSIGNED_STACK" Bundle.steD), .isRef (.static Bundle.tN "SUPPRESSED_SENTINEL" Bundle.listD), .fieldLink Bundle.tN 198 Bundle.tN "backtrace" "Ljava/lang/Object;", .lays Bundle.tN Bundle.tN "backtrace" "Ljava/lang/Object;", .lays nse Bundle.tN "backtrace" "Ljava/lang/Object;"]
def nsW (own : String) (ic : Nat) : List Cond := Bundle.throwableAtoms ++ (Bundle.throwableSAtoms ++ (Bundle.passSAtoms nse "java/lang/RuntimeException" 13 rxN ++ (Bundle.chainSAtoms "java/lang/RuntimeException" ["java/lang/Exception"] ++ nsT own ic)))
def wsT1 : List Cond := ((nsW RX9 289).filter vx_no).filter goodWord
def wsT2 : List Cond := (vx_atS RX9 296 iae ["java/lang/RuntimeException", "java/lang/Exception"]).filter goodWord
def WS : List Cond := wsE ++ (wsY ++ (wsT1 ++ wsT2))
theorem WS_g1 : wsE.all goodWord = true := by decide +kernel
theorem WS_g2 : wsY.all goodWord = true := by decide +kernel
theorem WS_good : ∀ w ∈ WS, goodWord w = true := fun w h => (List.mem_append.mp h).elim (fun h => List.all_eq_true.mp WS_g1 w h) (fun h => (List.mem_append.mp h).elim (fun h => List.all_eq_true.mp WS_g2 w h) (fun h => (List.mem_append.mp h).elim (fun h => (List.mem_filter.mp h).2) (fun h => (List.mem_filter.mp h).2)))
theorem WS_e1 : ∀ w ∈ ((nsW RX9 289).filter vx_no).filter goodWord, w ∈ WS := fun w h => List.mem_append_right _ (List.mem_append_right _ (List.mem_append_left _ h))
theorem WS_e2 : ∀ w ∈ (vx_atS RX9 296 iae ["java/lang/RuntimeException", "java/lang/Exception"]).filter goodWord, w ∈ WS := fun w h => List.mem_append_right _ (List.mem_append_right _ (List.mem_append_right _ h))
theorem iwX0 : ∀ w ∈ u_ws RX0 TX0 9, w ∈ WS := fun w h => List.mem_append_right _ (List.mem_append_left _ (List.mem_append_left _ (List.mem_append_left _ (List.mem_append_left _ (List.mem_append_left _ (List.mem_append_left _ (List.mem_append_left _ (List.mem_append_left _ (List.mem_append_left _ (List.mem_append_left _ h))))))))))
theorem iwX1 : ∀ w ∈ u_ws RX1 TX1 7, w ∈ WS := fun w h => List.mem_append_right _ (List.mem_append_left _ (List.mem_append_left _ (List.mem_append_left _ (List.mem_append_left _ (List.mem_append_left _ (List.mem_append_left _ (List.mem_append_left _ (List.mem_append_left _ (List.mem_append_left _ (List.mem_append_right _ h))))))))))
theorem iwX2 : ∀ w ∈ u_ws RX2 TX2 7, w ∈ WS := fun w h => List.mem_append_right _ (List.mem_append_left _ (List.mem_append_left _ (List.mem_append_left _ (List.mem_append_left _ (List.mem_append_left _ (List.mem_append_left _ (List.mem_append_left _ (List.mem_append_left _ (List.mem_append_right _ h)))))))))
theorem iwX3 : ∀ w ∈ u_ws RX3 TX3 9, w ∈ WS := fun w h => List.mem_append_right _ (List.mem_append_left _ (List.mem_append_left _ (List.mem_append_left _ (List.mem_append_left _ (List.mem_append_left _ (List.mem_append_left _ (List.mem_append_left _ (List.mem_append_right _ h))))))))
theorem iwX4 : ∀ w ∈ u_ws RX4 TX4 10, w ∈ WS := fun w h => List.mem_append_right _ (List.mem_append_left _ (List.mem_append_left _ (List.mem_append_left _ (List.mem_append_left _ (List.mem_append_left _ (List.mem_append_left _ (List.mem_append_right _ h)))))))
theorem iwX5 : ∀ w ∈ u_ws RX5 TX5 18, w ∈ WS := fun w h => List.mem_append_right _ (List.mem_append_left _ (List.mem_append_left _ (List.mem_append_left _ (List.mem_append_left _ (List.mem_append_left _ (List.mem_append_right _ h))))))
theorem iwX6 : ∀ w ∈ u_ws RX6 TX6 14, w ∈ WS := fun w h => List.mem_append_right _ (List.mem_append_left _ (List.mem_append_left _ (List.mem_append_left _ (List.mem_append_left _ (List.mem_append_right _ h)))))
theorem iwX8 : ∀ w ∈ u_ws RX8 TX8 12, w ∈ WS := fun w h => List.mem_append_right _ (List.mem_append_left _ (List.mem_append_left _ (List.mem_append_left _ (List.mem_append_right _ h))))
theorem iwX9 : ∀ w ∈ u_ws RX9 TX9 9, w ∈ WS := fun w h => List.mem_append_right _ (List.mem_append_left _ (List.mem_append_left _ (List.mem_append_right _ h)))
theorem iwX10 : ∀ w ∈ u_ws RX10 TX10 77, w ∈ WS := fun w h => List.mem_append_right _ (List.mem_append_left _ (List.mem_append_right _ h))
theorem m_0 : Cond.constantLong RJ13 314 (6148914691236517205) ∈ WS := List.mem_append_left _ (List.mem_of_getElem? (i := 0) rfl)
theorem m_1 : Cond.constantLong RJ13 316 (3689348814741910323) ∈ WS := List.mem_append_left _ (List.mem_of_getElem? (i := 1) rfl)
theorem m_2 : Cond.constantLong RJ13 318 (1085102592571150095) ∈ WS := List.mem_append_left _ (List.mem_of_getElem? (i := 2) rfl)
theorem m_3 : Cond.fieldLink RX9 55 "TabledGoals" "tapeBytes" "I" ∈ WS := List.mem_append_left _ (List.mem_of_getElem? (i := 3) rfl)
theorem m_4 : Cond.fieldLink RX9 9 "TabledGoals" "tape" "[I" ∈ WS := List.mem_append_left _ (List.mem_of_getElem? (i := 4) rfl)
theorem m_5 : Cond.code yX9_putBytes cX9_putBytes 3 none ∈ WS := List.mem_append_left _ (List.mem_of_getElem? (i := 5) rfl)
theorem m_6 : Cond.initialized RX9 ∈ WS := List.mem_append_left _ (List.mem_of_getElem? (i := 6) rfl)
theorem m_7 : Cond.methodLink RX9 58 yX9_putBytes ∈ WS := List.mem_append_left _ (List.mem_of_getElem? (i := 7) rfl)
theorem m_8 : Cond.instanceMethod yX9_putBytes ∈ WS := List.mem_append_left _ (List.mem_of_getElem? (i := 8) rfl)
theorem m_9 : Cond.selects RX9 yX9_putBytes yX9_putBytes ∈ WS := List.mem_append_left _ (List.mem_of_getElem? (i := 9) rfl)
theorem m_10 : Cond.fieldLink RX9 13 "TabledGoals" "faultPlace" "I" ∈ WS := List.mem_append_left _ (List.mem_of_getElem? (i := 10) rfl)
theorem m_11 : Cond.fieldLink RX9 17 "TabledGoals" "refused" "[I" ∈ WS := List.mem_append_left _ (List.mem_of_getElem? (i := 11) rfl)
theorem m_12 : Cond.classLink RX9 285 nse ∈ WS := List.mem_append_left _ (List.mem_of_getElem? (i := 12) rfl)
theorem m_13 : Cond.initialized nse ∈ WS := List.mem_append_left _ (List.mem_of_getElem? (i := 13) rfl)
theorem m_14 : Cond.classLink RX9 292 iae ∈ WS := List.mem_append_left _ (List.mem_of_getElem? (i := 14) rfl)
theorem m_15 : Cond.initialized iae ∈ WS := List.mem_append_left _ (List.mem_of_getElem? (i := 15) rfl)
theorem m_16 : Cond.code yX9_refuseMissing cX9_refuseMissing 1 none ∈ WS := List.mem_append_left _ (List.mem_of_getElem? (i := 16) rfl)
theorem m_17 : Cond.methodLink RX9 262 yX9_refuseMissing ∈ WS := List.mem_append_left _ (List.mem_of_getElem? (i := 17) rfl)
theorem m_18 : Cond.instanceMethod yX9_refuseMissing ∈ WS := List.mem_append_left _ (List.mem_of_getElem? (i := 18) rfl)
theorem m_19 : Cond.selects RX9 yX9_refuseMissing yX9_refuseMissing ∈ WS := List.mem_append_left _ (List.mem_of_getElem? (i := 19) rfl)
theorem m_20 : Cond.fieldLink RX9 23 "TabledGoals" "program" "LTabledGoals$Program;" ∈ WS := List.mem_append_left _ (List.mem_of_getElem? (i := 20) rfl)
theorem m_21 : Cond.fieldLink RX9 138 "TabledGoals$Program" "predicates" "I" ∈ WS := List.mem_append_left _ (List.mem_of_getElem? (i := 21) rfl)
theorem m_22 : Cond.code yX9_needIndex cX9_needIndex 3 none ∈ WS := List.mem_append_left _ (List.mem_of_getElem? (i := 22) rfl)
theorem m_23 : Cond.methodLink RX9 199 yX9_needIndex ∈ WS := List.mem_append_left _ (List.mem_of_getElem? (i := 23) rfl)
theorem m_24 : Cond.instanceMethod yX9_needIndex ∈ WS := List.mem_append_left _ (List.mem_of_getElem? (i := 24) rfl)
theorem m_25 : Cond.selects RX9 yX9_needIndex yX9_needIndex ∈ WS := List.mem_append_left _ (List.mem_of_getElem? (i := 25) rfl)
theorem m_26 : Cond.fieldLink RX9 141 "TabledGoals$Program" "constants" "I" ∈ WS := List.mem_append_left _ (List.mem_of_getElem? (i := 26) rfl)
theorem m_27 : Cond.code yX9_needPredicate cX9_needPredicate 2 none ∈ WS := List.mem_append_left _ (List.mem_of_getElem? (i := 27) rfl)
theorem m_28 : Cond.methodLink RX9 166 yX9_needPredicate ∈ WS := List.mem_append_left _ (List.mem_of_getElem? (i := 28) rfl)
theorem m_29 : Cond.instanceMethod yX9_needPredicate ∈ WS := List.mem_append_left _ (List.mem_of_getElem? (i := 29) rfl)
theorem m_30 : Cond.selects RX9 yX9_needPredicate yX9_needPredicate ∈ WS := List.mem_append_left _ (List.mem_of_getElem? (i := 30) rfl)
theorem m_31 : Cond.code yX9_needAtom cX9_needAtom 5 none ∈ WS := List.mem_append_left _ (List.mem_of_getElem? (i := 31) rfl)
theorem m_32 : Cond.methodLink RX9 90 yX9_needAtom ∈ WS := List.mem_append_left _ (List.mem_of_getElem? (i := 32) rfl)
theorem m_33 : Cond.instanceMethod yX9_needAtom ∈ WS := List.mem_append_left _ (List.mem_of_getElem? (i := 33) rfl)
theorem m_34 : Cond.selects RX9 yX9_needAtom yX9_needAtom ∈ WS := List.mem_append_left _ (List.mem_of_getElem? (i := 34) rfl)
theorem m_35 : Cond.code yX9_needGoal cX9_needGoal 5 none ∈ WS := List.mem_append_left _ (List.mem_of_getElem? (i := 35) rfl)
theorem m_36 : Cond.methodLink RX9 115 yX9_needGoal ∈ WS := List.mem_append_left _ (List.mem_of_getElem? (i := 36) rfl)
theorem m_37 : Cond.instanceMethod yX9_needGoal ∈ WS := List.mem_append_left _ (List.mem_of_getElem? (i := 37) rfl)
theorem m_38 : Cond.selects RX9 yX9_needGoal yX9_needGoal ∈ WS := List.mem_append_left _ (List.mem_of_getElem? (i := 38) rfl)
theorem m_39 : Cond.fieldLink RX9 87 "TabledGoals$Program" "clauses" "I" ∈ WS := List.mem_append_left _ (List.mem_of_getElem? (i := 39) rfl)
theorem m_40 : Cond.code yX9_refuseArgument cX9_refuseArgument 1 none ∈ WS := List.mem_append_left _ (List.mem_of_getElem? (i := 40) rfl)
theorem m_41 : Cond.methodLink RX9 62 yX9_refuseArgument ∈ WS := List.mem_append_left _ (List.mem_of_getElem? (i := 41) rfl)
theorem m_42 : Cond.instanceMethod yX9_refuseArgument ∈ WS := List.mem_append_left _ (List.mem_of_getElem? (i := 42) rfl)
theorem m_43 : Cond.selects RX9 yX9_refuseArgument yX9_refuseArgument ∈ WS := List.mem_append_left _ (List.mem_of_getElem? (i := 43) rfl)
theorem m_44 : Cond.fieldLink RX1 9 "TabledGoals$Follower" "program" "LTabledGoals$Program;" ∈ WS := List.mem_append_left _ (List.mem_of_getElem? (i := 44) rfl)
theorem m_45 : Cond.sameField "TabledGoals$Follower" "TabledGoals$Walk" "program" "LTabledGoals$Program;" ∈ WS := List.mem_append_left _ (List.mem_of_getElem? (i := 45) rfl)
theorem m_46 : Cond.fieldLink RX1 40 "TabledGoals$Follower" "barred" "[J" ∈ WS := List.mem_append_left _ (List.mem_of_getElem? (i := 46) rfl)
theorem m_47 : Cond.sameField "TabledGoals$Follower" "TabledGoals$Walk" "barred" "[J" ∈ WS := List.mem_append_left _ (List.mem_of_getElem? (i := 47) rfl)
theorem m_48 : Cond.fieldLink RX1 37 "TabledGoals$Follower" "grownNow" "I" ∈ WS := List.mem_append_left _ (List.mem_of_getElem? (i := 48) rfl)
theorem m_49 : Cond.fieldLink RX1 43 "TabledGoals$Program" "clauses" "I" ∈ WS := List.mem_append_left _ (List.mem_of_getElem? (i := 49) rfl)
theorem m_50 : Cond.fieldLink RX2 9 "TabledGoals$Model" "truth" "[J" ∈ WS := List.mem_append_left _ (List.mem_of_getElem? (i := 50) rfl)
theorem m_51 : Cond.fieldLink RX2 22 "TabledGoals$Model" "grown" "[J" ∈ WS := List.mem_append_left _ (List.mem_of_getElem? (i := 51) rfl)
theorem m_52 : Cond.methodLink RX2 68 arraycopyName ∈ WS := List.mem_append_left _ (List.mem_of_getElem? (i := 52) rfl)
theorem m_53 : Cond.native arraycopyName ∈ WS := List.mem_append_left _ (List.mem_of_getElem? (i := 53) rfl)
theorem m_54 : Cond.static arraycopyName ∈ WS := List.mem_append_left _ (List.mem_of_getElem? (i := 54) rfl)
theorem m_55 : Cond.initialized "java/lang/System" ∈ WS := List.mem_append_left _ (List.mem_of_getElem? (i := 55) rfl)
theorem m_56 : Cond.fieldLink RX2 30 "TabledGoals$Model" "follower" "LTabledGoals$Follower;" ∈ WS := List.mem_append_left _ (List.mem_of_getElem? (i := 56) rfl)
theorem m_57 : Cond.code yX1_follow cX1_follow 6 none ∈ WS := List.mem_append_left _ (List.mem_of_getElem? (i := 57) rfl)
theorem m_58 : Cond.initialized RX1 ∈ WS := List.mem_append_left _ (List.mem_of_getElem? (i := 58) rfl)
theorem m_59 : Cond.methodLink RX2 74 yX1_follow ∈ WS := List.mem_append_left _ (List.mem_of_getElem? (i := 59) rfl)
theorem m_60 : Cond.instanceMethod yX1_follow ∈ WS := List.mem_append_left _ (List.mem_of_getElem? (i := 60) rfl)
theorem m_61 : Cond.selects RX1 yX1_follow yX1_follow ∈ WS := List.mem_append_left _ (List.mem_of_getElem? (i := 61) rfl)
theorem m_62 : Cond.fieldLink RX2 15 "TabledGoals$Model" "possible" "[J" ∈ WS := List.mem_append_left _ (List.mem_of_getElem? (i := 62) rfl)
theorem m_63 : Cond.fieldLink RX2 34 "TabledGoals$Model" "known" "Z" ∈ WS := List.mem_append_left _ (List.mem_of_getElem? (i := 63) rfl)
theorem m_64 : Cond.code yJ7_fill_d0a16 cJ7_fill_d0a16 5 none ∈ WS := List.mem_append_left _ (List.mem_of_getElem? (i := 64) rfl)
theorem m_65 : Cond.initialized RJ7 ∈ WS := List.mem_append_left _ (List.mem_of_getElem? (i := 65) rfl)
theorem m_66 : Cond.methodLink RX2 38 yJ7_fill_d0a16 ∈ WS := List.mem_append_left _ (List.mem_of_getElem? (i := 66) rfl)
theorem m_67 : Cond.static yJ7_fill_d0a16 ∈ WS := List.mem_append_left _ (List.mem_of_getElem? (i := 67) rfl)
theorem m_68 : Cond.fieldLink RX2 18 "TabledGoals$Model" "stageOf" "[I" ∈ WS := List.mem_append_left _ (List.mem_of_getElem? (i := 68) rfl)
theorem m_69 : Cond.code yJ7_fill_53178 cJ7_fill_53178 4 none ∈ WS := List.mem_append_left _ (List.mem_of_getElem? (i := 69) rfl)
theorem m_70 : Cond.methodLink RX2 44 yJ7_fill_53178 ∈ WS := List.mem_append_left _ (List.mem_of_getElem? (i := 70) rfl)
theorem m_71 : Cond.static yJ7_fill_53178 ∈ WS := List.mem_append_left _ (List.mem_of_getElem? (i := 71) rfl)
theorem m_72 : Cond.fieldLink RX2 47 "TabledGoals$Model" "stages" "I" ∈ WS := List.mem_append_left _ (List.mem_of_getElem? (i := 72) rfl)
theorem m_73 : Cond.code yX2_growPossible cX2_growPossible 2 none ∈ WS := List.mem_append_left _ (List.mem_of_getElem? (i := 73) rfl)
theorem m_74 : Cond.initialized RX2 ∈ WS := List.mem_append_left _ (List.mem_of_getElem? (i := 74) rfl)
theorem m_75 : Cond.methodLink RX2 51 yX2_growPossible ∈ WS := List.mem_append_left _ (List.mem_of_getElem? (i := 75) rfl)
theorem m_76 : Cond.instanceMethod yX2_growPossible ∈ WS := List.mem_append_left _ (List.mem_of_getElem? (i := 76) rfl)
theorem m_77 : Cond.selects RX2 yX2_growPossible yX2_growPossible ∈ WS := List.mem_append_left _ (List.mem_of_getElem? (i := 77) rfl)
theorem m_78 : Cond.fieldLink RX2 55 "TabledGoals$Program" "predicates" "I" ∈ WS := List.mem_append_left _ (List.mem_of_getElem? (i := 78) rfl)
theorem m_79 : Cond.code yX2_noteStage cX2_noteStage 7 none ∈ WS := List.mem_append_left _ (List.mem_of_getElem? (i := 79) rfl)
theorem m_80 : Cond.methodLink RX2 60 yX2_noteStage ∈ WS := List.mem_append_left _ (List.mem_of_getElem? (i := 80) rfl)
theorem m_81 : Cond.instanceMethod yX2_noteStage ∈ WS := List.mem_append_left _ (List.mem_of_getElem? (i := 81) rfl)
theorem m_82 : Cond.selects RX2 yX2_noteStage yX2_noteStage ∈ WS := List.mem_append_left _ (List.mem_of_getElem? (i := 82) rfl)
theorem m_83 : Cond.code yX2_growTruth cX2_growTruth 4 (some .boolean) ∈ WS := List.mem_append_left _ (List.mem_of_getElem? (i := 83) rfl)
theorem m_84 : Cond.methodLink RX2 64 yX2_growTruth ∈ WS := List.mem_append_left _ (List.mem_of_getElem? (i := 84) rfl)
theorem m_85 : Cond.instanceMethod yX2_growTruth ∈ WS := List.mem_append_left _ (List.mem_of_getElem? (i := 85) rfl)
theorem m_86 : Cond.selects RX2 yX2_growTruth yX2_growTruth ∈ WS := List.mem_append_left _ (List.mem_of_getElem? (i := 86) rfl)
theorem m_87 : Cond.constantLong RX2 78 (-1) ∈ WS := List.mem_append_left _ (List.mem_of_getElem? (i := 87) rfl)
theorem m_88 : Cond.code yJ13_bitCount_95d88 cJ13_bitCount_95d88 2 (some .int) ∈ WS := List.mem_append_left _ (List.mem_of_getElem? (i := 88) rfl)
theorem m_89 : Cond.initialized RJ13 ∈ WS := List.mem_append_left _ (List.mem_of_getElem? (i := 89) rfl)
theorem m_90 : Cond.methodLink RX2 80 yJ13_bitCount_95d88 ∈ WS := List.mem_append_left _ (List.mem_of_getElem? (i := 90) rfl)
theorem m_91 : Cond.static yJ13_bitCount_95d88 ∈ WS := List.mem_append_left _ (List.mem_of_getElem? (i := 91) rfl)
theorem m_92 : Cond.code yX2_undefinedOf cX2_undefinedOf 2 (some .long) ∈ WS := List.mem_append_left _ (List.mem_of_getElem? (i := 92) rfl)
theorem m_93 : Cond.methodLink RX2 86 yX2_undefinedOf ∈ WS := List.mem_append_left _ (List.mem_of_getElem? (i := 93) rfl)
theorem m_94 : Cond.instanceMethod yX2_undefinedOf ∈ WS := List.mem_append_left _ (List.mem_of_getElem? (i := 94) rfl)
theorem m_95 : Cond.selects RX2 yX2_undefinedOf yX2_undefinedOf ∈ WS := List.mem_append_left _ (List.mem_of_getElem? (i := 95) rfl)
theorem m_96 : Cond.fieldLink RX3 37 "TabledGoals$Program" "clauses" "I" ∈ WS := List.mem_append_left _ (List.mem_of_getElem? (i := 96) rfl)
theorem m_97 : Cond.fieldLink RX6 60 "TabledGoals$Tables" "count" "I" ∈ WS := List.mem_append_left _ (List.mem_of_getElem? (i := 97) rfl)
theorem m_98 : Cond.fieldLink RX6 15 "TabledGoals$Tables" "numberOf" "[I" ∈ WS := List.mem_append_left _ (List.mem_of_getElem? (i := 98) rfl)
theorem m_99 : Cond.methodLink RX6 44 yJ7_fill_53178 ∈ WS := List.mem_append_left _ (List.mem_of_getElem? (i := 99) rfl)
theorem m_100 : Cond.fieldLink RX6 63 "TabledGoals$Tables" "completedCount" "I" ∈ WS := List.mem_append_left _ (List.mem_of_getElem? (i := 100) rfl)
theorem m_101 : Cond.code yX6_clear cX6_clear 1 none ∈ WS := List.mem_append_left _ (List.mem_of_getElem? (i := 101) rfl)
theorem m_102 : Cond.initialized RX6 ∈ WS := List.mem_append_left _ (List.mem_of_getElem? (i := 102) rfl)
theorem m_103 : Cond.methodLink RX6 50 yX6_clear ∈ WS := List.mem_append_left _ (List.mem_of_getElem? (i := 103) rfl)
theorem m_104 : Cond.instanceMethod yX6_clear ∈ WS := List.mem_append_left _ (List.mem_of_getElem? (i := 104) rfl)
theorem m_105 : Cond.selects RX6 yX6_clear yX6_clear ∈ WS := List.mem_append_left _ (List.mem_of_getElem? (i := 105) rfl)
theorem m_106 : Cond.fieldLink RX6 53 "TabledGoals$Tables" "madeInAll" "I" ∈ WS := List.mem_append_left _ (List.mem_of_getElem? (i := 106) rfl)
theorem m_107 : Cond.fieldLink RX6 57 "TabledGoals$Tables" "hitsInAll" "I" ∈ WS := List.mem_append_left _ (List.mem_of_getElem? (i := 107) rfl)
theorem m_108 : Cond.fieldLink RX3 30 "TabledGoals$Program" "predicates" "I" ∈ WS := List.mem_append_left _ (List.mem_of_getElem? (i := 108) rfl)
theorem m_109 : Cond.fieldLink RX3 34 "TabledGoals$Program" "constants" "I" ∈ WS := List.mem_append_left _ (List.mem_of_getElem? (i := 109) rfl)
theorem m_110 : Cond.methodLink RX4 3 objectInit ∈ WS := List.mem_append_left _ (List.mem_of_getElem? (i := 110) rfl)
theorem m_111 : Cond.instanceMethod objectInit ∈ WS := List.mem_append_left _ (List.mem_of_getElem? (i := 111) rfl)
theorem m_112 : Cond.code objectInit ⟨#[0xb1]⟩ 1 none ∈ WS := List.mem_append_left _ (List.mem_of_getElem? (i := 112) rfl)
theorem m_113 : Cond.fieldLink RX4 9 "TabledGoals$Reader" "place" "I" ∈ WS := List.mem_append_left _ (List.mem_of_getElem? (i := 113) rfl)
theorem m_114 : Cond.arrayClass .int ∈ WS := List.mem_append_left _ (List.mem_of_getElem? (i := 114) rfl)
theorem m_115 : Cond.fieldLink RX4 15 "TabledGoals$Reader" "variables" "[I" ∈ WS := List.mem_append_left _ (List.mem_of_getElem? (i := 115) rfl)
theorem m_116 : Cond.fieldLink RX4 19 "TabledGoals$Reader" "headPlaces" "[I" ∈ WS := List.mem_append_left _ (List.mem_of_getElem? (i := 116) rfl)
theorem m_117 : Cond.fieldLink RX4 22 "TabledGoals$Reader" "bytes" "[I" ∈ WS := List.mem_append_left _ (List.mem_of_getElem? (i := 117) rfl)
theorem m_118 : Cond.methodLink RX4 25 Lib.Math.min.name ∈ WS := List.mem_append_left _ (List.mem_of_getElem? (i := 118) rfl)
theorem m_119 : Cond.static Lib.Math.min.name ∈ WS := List.mem_append_left _ (List.mem_of_getElem? (i := 119) rfl)
theorem m_120 : Cond.initialized "java/lang/Math" ∈ WS := List.mem_append_left _ (List.mem_of_getElem? (i := 120) rfl)
theorem m_121 : Cond.code Lib.Math.min.name Lib.Math.min.code 2 (some .int) ∈ WS := List.mem_append_left _ (List.mem_of_getElem? (i := 121) rfl)
theorem m_122 : Cond.fieldLink RX4 31 "TabledGoals$Reader" "end" "I" ∈ WS := List.mem_append_left _ (List.mem_of_getElem? (i := 122) rfl)
theorem m_123 : Cond.fieldLink RX4 34 "TabledGoals$Reader" "into" "LTabledGoals$Program;" ∈ WS := List.mem_append_left _ (List.mem_of_getElem? (i := 123) rfl)
theorem m_124 : Cond.fieldLink RX4 54 "TabledGoals$Reader" "at" "I" ∈ WS := List.mem_append_left _ (List.mem_of_getElem? (i := 124) rfl)
theorem m_125 : Cond.code yX3_clear cX3_clear 1 none ∈ WS := List.mem_append_left _ (List.mem_of_getElem? (i := 125) rfl)
theorem m_126 : Cond.initialized RX3 ∈ WS := List.mem_append_left _ (List.mem_of_getElem? (i := 126) rfl)
theorem m_127 : Cond.methodLink RX4 38 yX3_clear ∈ WS := List.mem_append_left _ (List.mem_of_getElem? (i := 127) rfl)
theorem m_128 : Cond.instanceMethod yX3_clear ∈ WS := List.mem_append_left _ (List.mem_of_getElem? (i := 128) rfl)
theorem m_129 : Cond.selects RX3 yX3_clear yX3_clear ∈ WS := List.mem_append_left _ (List.mem_of_getElem? (i := 129) rfl)
theorem m_130 : Cond.code yX4_next cX4_next 1 (some .int) ∈ WS := List.mem_append_left _ (List.mem_of_getElem? (i := 130) rfl)
theorem m_131 : Cond.initialized RX4 ∈ WS := List.mem_append_left _ (List.mem_of_getElem? (i := 131) rfl)
theorem m_132 : Cond.methodLink RX4 43 yX4_next ∈ WS := List.mem_append_left _ (List.mem_of_getElem? (i := 132) rfl)
theorem m_133 : Cond.instanceMethod yX4_next ∈ WS := List.mem_append_left _ (List.mem_of_getElem? (i := 133) rfl)
theorem m_134 : Cond.selects RX4 yX4_next yX4_next ∈ WS := List.mem_append_left _ (List.mem_of_getElem? (i := 134) rfl)
theorem m_135 : Cond.classLink RX9 65 RX4 ∈ WS := List.mem_append_left _ (List.mem_of_getElem? (i := 135) rfl)
theorem m_136 : Cond.instantiable RX4 10 ∈ WS := List.mem_append_left _ (List.mem_of_getElem? (i := 136) rfl)
theorem m_137 : Cond.fieldLink RX9 27 "TabledGoals" "spare" "LTabledGoals$Program;" ∈ WS := List.mem_append_left _ (List.mem_of_getElem? (i := 137) rfl)
theorem m_138 : Cond.code yX4_init cX4_init 4 none ∈ WS := List.mem_append_left _ (List.mem_of_getElem? (i := 138) rfl)
theorem m_139 : Cond.instanceMethod yX4_init ∈ WS := List.mem_append_left _ (List.mem_of_getElem? (i := 139) rfl)
theorem m_140 : Cond.methodLink RX9 67 yX4_init ∈ WS := List.mem_append_left _ (List.mem_of_getElem? (i := 140) rfl)
theorem m_141 : Cond.code yX4_readText cX4_readText 2 (some .boolean) ∈ WS := List.mem_append_left _ (List.mem_of_getElem? (i := 141) rfl)
theorem m_142 : Cond.methodLink RX9 70 yX4_readText ∈ WS := List.mem_append_left _ (List.mem_of_getElem? (i := 142) rfl)
theorem m_143 : Cond.instanceMethod yX4_readText ∈ WS := List.mem_append_left _ (List.mem_of_getElem? (i := 143) rfl)
theorem m_144 : Cond.selects RX4 yX4_readText yX4_readText ∈ WS := List.mem_append_left _ (List.mem_of_getElem? (i := 144) rfl)
theorem m_145 : Cond.fieldLink RX9 74 "TabledGoals$Reader" "place" "I" ∈ WS := List.mem_append_left _ (List.mem_of_getElem? (i := 145) rfl)
theorem m_146 : Cond.fieldLink RX9 35 "TabledGoals" "model" "LTabledGoals$Model;" ∈ WS := List.mem_append_left _ (List.mem_of_getElem? (i := 146) rfl)
theorem m_147 : Cond.fieldLink RX9 80 "TabledGoals$Model" "known" "Z" ∈ WS := List.mem_append_left _ (List.mem_of_getElem? (i := 147) rfl)
theorem m_148 : Cond.fieldLink RX9 51 "TabledGoals" "tables" "LTabledGoals$Tables;" ∈ WS := List.mem_append_left _ (List.mem_of_getElem? (i := 148) rfl)
theorem m_149 : Cond.code yX6_startAnew cX6_startAnew 1 none ∈ WS := List.mem_append_left _ (List.mem_of_getElem? (i := 149) rfl)
theorem m_150 : Cond.methodLink RX9 84 yX6_startAnew ∈ WS := List.mem_append_left _ (List.mem_of_getElem? (i := 150) rfl)
theorem m_151 : Cond.instanceMethod yX6_startAnew ∈ WS := List.mem_append_left _ (List.mem_of_getElem? (i := 151) rfl)
theorem m_152 : Cond.selects RX6 yX6_startAnew yX6_startAnew ∈ WS := List.mem_append_left _ (List.mem_of_getElem? (i := 152) rfl)
theorem m_153 : Cond.fieldLink RX9 128 "TabledGoals$Tables" "count" "I" ∈ WS := List.mem_append_left _ (List.mem_of_getElem? (i := 153) rfl)
theorem m_154 : Cond.methodLink RX9 131 yX6_clear ∈ WS := List.mem_append_left _ (List.mem_of_getElem? (i := 154) rfl)
theorem m_155 : Cond.code yX9_needWhat cX9_needWhat 3 none ∈ WS := List.mem_append_left _ (List.mem_of_getElem? (i := 155) rfl)
theorem m_156 : Cond.methodLink RX9 134 yX9_needWhat ∈ WS := List.mem_append_left _ (List.mem_of_getElem? (i := 156) rfl)
theorem m_157 : Cond.instanceMethod yX9_needWhat ∈ WS := List.mem_append_left _ (List.mem_of_getElem? (i := 157) rfl)
theorem m_158 : Cond.selects RX9 yX9_needWhat yX9_needWhat ∈ WS := List.mem_append_left _ (List.mem_of_getElem? (i := 158) rfl)
theorem m_159 : Cond.code yX3_facts cX3_facts 3 (some .int) ∈ WS := List.mem_append_left _ (List.mem_of_getElem? (i := 159) rfl)
theorem m_160 : Cond.methodLink RX9 144 yX3_facts ∈ WS := List.mem_append_left _ (List.mem_of_getElem? (i := 160) rfl)
theorem m_161 : Cond.instanceMethod yX3_facts ∈ WS := List.mem_append_left _ (List.mem_of_getElem? (i := 161) rfl)
theorem m_162 : Cond.selects RX3 yX3_facts yX3_facts ∈ WS := List.mem_append_left _ (List.mem_of_getElem? (i := 162) rfl)
theorem m_163 : Cond.code yX6_freshOnes cX6_freshOnes 3 (some .int) ∈ WS := List.mem_append_left _ (List.mem_of_getElem? (i := 163) rfl)
theorem m_164 : Cond.methodLink RX9 148 yX6_freshOnes ∈ WS := List.mem_append_left _ (List.mem_of_getElem? (i := 164) rfl)
theorem m_165 : Cond.instanceMethod yX6_freshOnes ∈ WS := List.mem_append_left _ (List.mem_of_getElem? (i := 165) rfl)
theorem m_166 : Cond.selects RX6 yX6_freshOnes yX6_freshOnes ∈ WS := List.mem_append_left _ (List.mem_of_getElem? (i := 166) rfl)
theorem m_167 : Cond.fieldLink RX9 151 "TabledGoals$Tables" "madeInAll" "I" ∈ WS := List.mem_append_left _ (List.mem_of_getElem? (i := 167) rfl)
theorem m_168 : Cond.fieldLink RX9 154 "TabledGoals$Tables" "hitsInAll" "I" ∈ WS := List.mem_append_left _ (List.mem_of_getElem? (i := 168) rfl)
theorem m_169 : Cond.code yX2_settle cX2_settle 2 none ∈ WS := List.mem_append_left _ (List.mem_of_getElem? (i := 169) rfl)
theorem m_170 : Cond.methodLink RX9 118 yX2_settle ∈ WS := List.mem_append_left _ (List.mem_of_getElem? (i := 170) rfl)
theorem m_171 : Cond.instanceMethod yX2_settle ∈ WS := List.mem_append_left _ (List.mem_of_getElem? (i := 171) rfl)
theorem m_172 : Cond.selects RX2 yX2_settle yX2_settle ∈ WS := List.mem_append_left _ (List.mem_of_getElem? (i := 172) rfl)
theorem m_173 : Cond.fieldLink RX9 157 "TabledGoals$Model" "stages" "I" ∈ WS := List.mem_append_left _ (List.mem_of_getElem? (i := 173) rfl)
theorem m_174 : Cond.code yX2_trueAtoms cX2_trueAtoms 3 (some .int) ∈ WS := List.mem_append_left _ (List.mem_of_getElem? (i := 174) rfl)
theorem m_175 : Cond.methodLink RX9 160 yX2_trueAtoms ∈ WS := List.mem_append_left _ (List.mem_of_getElem? (i := 175) rfl)
theorem m_176 : Cond.instanceMethod yX2_trueAtoms ∈ WS := List.mem_append_left _ (List.mem_of_getElem? (i := 176) rfl)
theorem m_177 : Cond.selects RX2 yX2_trueAtoms yX2_trueAtoms ∈ WS := List.mem_append_left _ (List.mem_of_getElem? (i := 177) rfl)
theorem m_178 : Cond.code yX2_undefinedAtoms cX2_undefinedAtoms 3 (some .int) ∈ WS := List.mem_append_left _ (List.mem_of_getElem? (i := 178) rfl)
theorem m_179 : Cond.methodLink RX9 163 yX2_undefinedAtoms ∈ WS := List.mem_append_left _ (List.mem_of_getElem? (i := 179) rfl)
theorem m_180 : Cond.instanceMethod yX2_undefinedAtoms ∈ WS := List.mem_append_left _ (List.mem_of_getElem? (i := 180) rfl)
theorem m_181 : Cond.selects RX2 yX2_undefinedAtoms yX2_undefinedAtoms ∈ WS := List.mem_append_left _ (List.mem_of_getElem? (i := 181) rfl)
theorem m_182 : Cond.code yX9_needConstant cX9_needConstant 2 none ∈ WS := List.mem_append_left _ (List.mem_of_getElem? (i := 182) rfl)
theorem m_183 : Cond.methodLink RX9 196 yX9_needConstant ∈ WS := List.mem_append_left _ (List.mem_of_getElem? (i := 183) rfl)
theorem m_184 : Cond.instanceMethod yX9_needConstant ∈ WS := List.mem_append_left _ (List.mem_of_getElem? (i := 184) rfl)
theorem m_185 : Cond.selects RX9 yX9_needConstant yX9_needConstant ∈ WS := List.mem_append_left _ (List.mem_of_getElem? (i := 185) rfl)
theorem m_186 : Cond.fieldLink RX9 256 "TabledGoals$Tables" "completedCount" "I" ∈ WS := List.mem_append_left _ (List.mem_of_getElem? (i := 186) rfl)
theorem m_187 : Cond.code yX6_sum cX6_sum 5 (some .long) ∈ WS := List.mem_append_left _ (List.mem_of_getElem? (i := 187) rfl)
theorem m_188 : Cond.methodLink RX9 282 yX6_sum ∈ WS := List.mem_append_left _ (List.mem_of_getElem? (i := 188) rfl)
theorem m_189 : Cond.instanceMethod yX6_sum ∈ WS := List.mem_append_left _ (List.mem_of_getElem? (i := 189) rfl)
theorem m_190 : Cond.selects RX6 yX6_sum yX6_sum ∈ WS := List.mem_append_left _ (List.mem_of_getElem? (i := 190) rfl)
theorem m_191 : Cond.fieldLink RX10 164 "TabledGoalsModel" "thrown" "I" ∈ WS := List.mem_append_left _ (List.mem_of_getElem? (i := 191) rfl)
theorem m_192 : Cond.fieldLink RX10 7 "TabledGoalsModel" "refused" "[I" ∈ WS := List.mem_append_left _ (List.mem_of_getElem? (i := 192) rfl)
theorem m_193 : Cond.fieldLink RX10 48 "TabledGoalsModel" "tape" "[B" ∈ WS := List.mem_append_left _ (List.mem_of_getElem? (i := 193) rfl)
theorem m_194 : Cond.fieldLink RX10 231 "TabledGoalsModel" "taped" "I" ∈ WS := List.mem_append_left _ (List.mem_of_getElem? (i := 194) rfl)
theorem m_195 : Cond.code yX10_puts cX10_puts 3 none ∈ WS := List.mem_append_left _ (List.mem_of_getElem? (i := 195) rfl)
theorem m_196 : Cond.initialized RX10 ∈ WS := List.mem_append_left _ (List.mem_of_getElem? (i := 196) rfl)
theorem m_197 : Cond.methodLink RX10 234 yX10_puts ∈ WS := List.mem_append_left _ (List.mem_of_getElem? (i := 197) rfl)
theorem m_198 : Cond.instanceMethod yX10_puts ∈ WS := List.mem_append_left _ (List.mem_of_getElem? (i := 198) rfl)
theorem m_199 : Cond.selects RX10 yX10_puts yX10_puts ∈ WS := List.mem_append_left _ (List.mem_of_getElem? (i := 199) rfl)
theorem m_200 : Cond.fieldLink RX10 55 "TabledGoalsModel" "faultAt" "I" ∈ WS := List.mem_append_left _ (List.mem_of_getElem? (i := 200) rfl)
theorem m_201 : Cond.fieldLink RX10 344 "TabledGoalsModel" "predicates" "I" ∈ WS := List.mem_append_left _ (List.mem_of_getElem? (i := 201) rfl)
theorem m_202 : Cond.code yX10_within cX10_within 3 (some .boolean) ∈ WS := List.mem_append_left _ (List.mem_of_getElem? (i := 202) rfl)
theorem m_203 : Cond.methodLink RX10 330 yX10_within ∈ WS := List.mem_append_left _ (List.mem_of_getElem? (i := 203) rfl)
theorem m_204 : Cond.static yX10_within ∈ WS := List.mem_append_left _ (List.mem_of_getElem? (i := 204) rfl)
theorem m_205 : Cond.code yX10_isFine cX10_isFine 4 (some .boolean) ∈ WS := List.mem_append_left _ (List.mem_of_getElem? (i := 205) rfl)
theorem m_206 : Cond.methodLink RX10 334 yX10_isFine ∈ WS := List.mem_append_left _ (List.mem_of_getElem? (i := 206) rfl)
theorem m_207 : Cond.instanceMethod yX10_isFine ∈ WS := List.mem_append_left _ (List.mem_of_getElem? (i := 207) rfl)
theorem m_208 : Cond.selects RX10 yX10_isFine yX10_isFine ∈ WS := List.mem_append_left _ (List.mem_of_getElem? (i := 208) rfl)
theorem m_209 : Cond.code yX10_isGiven cX10_isGiven 8 (some .boolean) ∈ WS := List.mem_append_left _ (List.mem_of_getElem? (i := 209) rfl)
theorem m_210 : Cond.methodLink RX10 449 yX10_isGiven ∈ WS := List.mem_append_left _ (List.mem_of_getElem? (i := 210) rfl)
theorem m_211 : Cond.instanceMethod yX10_isGiven ∈ WS := List.mem_append_left _ (List.mem_of_getElem? (i := 211) rfl)
theorem m_212 : Cond.selects RX10 yX10_isGiven yX10_isGiven ∈ WS := List.mem_append_left _ (List.mem_of_getElem? (i := 212) rfl)
theorem m_213 : Cond.fieldLink RX10 191 "TabledGoalsModel" "clauses" "I" ∈ WS := List.mem_append_left _ (List.mem_of_getElem? (i := 213) rfl)
theorem m_214 : Cond.fieldLink RX10 400 "TabledGoalsModel" "tables" "I" ∈ WS := List.mem_append_left _ (List.mem_of_getElem? (i := 214) rfl)
theorem m_215 : Cond.code yX10_isTable cX10_isTable 2 (some .boolean) ∈ WS := List.mem_append_left _ (List.mem_of_getElem? (i := 215) rfl)
theorem m_216 : Cond.methodLink RX10 490 yX10_isTable ∈ WS := List.mem_append_left _ (List.mem_of_getElem? (i := 216) rfl)
theorem m_217 : Cond.instanceMethod yX10_isTable ∈ WS := List.mem_append_left _ (List.mem_of_getElem? (i := 217) rfl)
theorem m_218 : Cond.selects RX10 yX10_isTable yX10_isTable ∈ WS := List.mem_append_left _ (List.mem_of_getElem? (i := 218) rfl)
theorem m_219 : Cond.fieldLink RX10 403 "TabledGoalsModel" "completedMany" "I" ∈ WS := List.mem_append_left _ (List.mem_of_getElem? (i := 219) rfl)
theorem m_220 : Cond.fieldLink RX10 98 "TabledGoalsModel" "tableOf" "[I" ∈ WS := List.mem_append_left _ (List.mem_of_getElem? (i := 220) rfl)
theorem m_221 : Cond.code yX10_noTables cX10_noTables 2 none ∈ WS := List.mem_append_left _ (List.mem_of_getElem? (i := 221) rfl)
theorem m_222 : Cond.methodLink RX10 353 yX10_noTables ∈ WS := List.mem_append_left _ (List.mem_of_getElem? (i := 222) rfl)
theorem m_223 : Cond.instanceMethod yX10_noTables ∈ WS := List.mem_append_left _ (List.mem_of_getElem? (i := 223) rfl)
theorem m_224 : Cond.selects RX10 yX10_noTables yX10_noTables ∈ WS := List.mem_append_left _ (List.mem_of_getElem? (i := 224) rfl)
theorem m_225 : Cond.fieldLink RX10 307 "TabledGoalsModel" "readPredicates" "I" ∈ WS := List.mem_append_left _ (List.mem_of_getElem? (i := 225) rfl)
theorem m_226 : Cond.fieldLink RX10 292 "TabledGoalsModel" "readConstants" "I" ∈ WS := List.mem_append_left _ (List.mem_of_getElem? (i := 226) rfl)
theorem m_227 : Cond.fieldLink RX10 181 "TabledGoalsModel" "constants" "I" ∈ WS := List.mem_append_left _ (List.mem_of_getElem? (i := 227) rfl)
theorem m_228 : Cond.fieldLink RX10 324 "TabledGoalsModel" "readClauses" "I" ∈ WS := List.mem_append_left _ (List.mem_of_getElem? (i := 228) rfl)
theorem m_229 : Cond.fieldLink RX10 205 "TabledGoalsModel" "isMade" "Z" ∈ WS := List.mem_append_left _ (List.mem_of_getElem? (i := 229) rfl)
theorem m_230 : Cond.fieldLink RX10 347 "TabledGoalsModel" "made" "I" ∈ WS := List.mem_append_left _ (List.mem_of_getElem? (i := 230) rfl)
theorem m_231 : Cond.fieldLink RX10 350 "TabledGoalsModel" "hits" "I" ∈ WS := List.mem_append_left _ (List.mem_of_getElem? (i := 231) rfl)
theorem m_232 : Cond.fieldLink RX10 23 "TabledGoalsModel" "constantName" "[J" ∈ WS := List.mem_append_left _ (List.mem_of_getElem? (i := 232) rfl)
theorem m_233 : Cond.fieldLink RX10 68 "TabledGoalsModel" "readConstant" "[J" ∈ WS := List.mem_append_left _ (List.mem_of_getElem? (i := 233) rfl)
theorem m_234 : Cond.fieldLink RX10 13 "TabledGoalsModel" "arity" "[I" ∈ WS := List.mem_append_left _ (List.mem_of_getElem? (i := 234) rfl)
theorem m_235 : Cond.fieldLink RX10 59 "TabledGoalsModel" "readArity" "[I" ∈ WS := List.mem_append_left _ (List.mem_of_getElem? (i := 235) rfl)
theorem m_236 : Cond.fieldLink RX10 19 "TabledGoalsModel" "predicateName" "[J" ∈ WS := List.mem_append_left _ (List.mem_of_getElem? (i := 236) rfl)
theorem m_237 : Cond.fieldLink RX10 65 "TabledGoalsModel" "readPredicate" "[J" ∈ WS := List.mem_append_left _ (List.mem_of_getElem? (i := 237) rfl)
theorem m_238 : Cond.fieldLink RX10 16 "TabledGoalsModel" "rule" "[I" ∈ WS := List.mem_append_left _ (List.mem_of_getElem? (i := 238) rfl)
theorem m_239 : Cond.fieldLink RX10 62 "TabledGoalsModel" "readRule" "[I" ∈ WS := List.mem_append_left _ (List.mem_of_getElem? (i := 239) rfl)
theorem m_240 : Cond.fieldLink RX10 243 "TabledGoalsModel" "here" "I" ∈ WS := List.mem_append_left _ (List.mem_of_getElem? (i := 240) rfl)
theorem m_241 : Cond.fieldLink RX10 246 "TabledGoalsModel" "size" "I" ∈ WS := List.mem_append_left _ (List.mem_of_getElem? (i := 241) rfl)
theorem m_242 : Cond.fieldLink RX10 237 "TabledGoalsModel" "fault" "I" ∈ WS := List.mem_append_left _ (List.mem_of_getElem? (i := 242) rfl)
theorem m_243 : Cond.code yX10_sign cX10_sign 1 (some .int) ∈ WS := List.mem_append_left _ (List.mem_of_getElem? (i := 243) rfl)
theorem m_244 : Cond.methodLink RX10 249 yX10_sign ∈ WS := List.mem_append_left _ (List.mem_of_getElem? (i := 244) rfl)
theorem m_245 : Cond.instanceMethod yX10_sign ∈ WS := List.mem_append_left _ (List.mem_of_getElem? (i := 245) rfl)
theorem m_246 : Cond.selects RX10 yX10_sign yX10_sign ∈ WS := List.mem_append_left _ (List.mem_of_getElem? (i := 246) rfl)
theorem m_247 : Cond.code yX10_stands cX10_stands 2 none ∈ WS := List.mem_append_left _ (List.mem_of_getElem? (i := 247) rfl)
theorem m_248 : Cond.methodLink RX10 341 yX10_stands ∈ WS := List.mem_append_left _ (List.mem_of_getElem? (i := 248) rfl)
theorem m_249 : Cond.instanceMethod yX10_stands ∈ WS := List.mem_append_left _ (List.mem_of_getElem? (i := 249) rfl)
theorem m_250 : Cond.selects RX10 yX10_stands yX10_stands ∈ WS := List.mem_append_left _ (List.mem_of_getElem? (i := 250) rfl)
theorem m_251 : Cond.fieldLink RX10 29 "TabledGoalsModel" "known" "[Z" ∈ WS := List.mem_append_left _ (List.mem_of_getElem? (i := 251) rfl)
theorem m_252 : Cond.fieldLink RX10 33 "TabledGoalsModel" "possible" "[Z" ∈ WS := List.mem_append_left _ (List.mem_of_getElem? (i := 252) rfl)
theorem m_253 : Cond.fieldLink RX10 42 "TabledGoalsModel" "falseAt" "[I" ∈ WS := List.mem_append_left _ (List.mem_of_getElem? (i := 253) rfl)
theorem m_254 : Cond.fieldLink RX10 209 "TabledGoalsModel" "stages" "I" ∈ WS := List.mem_append_left _ (List.mem_of_getElem? (i := 254) rfl)
theorem m_255 : Cond.code yX10_follows cX10_follows 6 none ∈ WS := List.mem_append_left _ (List.mem_of_getElem? (i := 255) rfl)
theorem m_256 : Cond.methodLink RX10 212 yX10_follows ∈ WS := List.mem_append_left _ (List.mem_of_getElem? (i := 256) rfl)
theorem m_257 : Cond.instanceMethod yX10_follows ∈ WS := List.mem_append_left _ (List.mem_of_getElem? (i := 257) rfl)
theorem m_258 : Cond.selects RX10 yX10_follows yX10_follows ∈ WS := List.mem_append_left _ (List.mem_of_getElem? (i := 258) rfl)
theorem m_259 : Cond.code yX10_marks cX10_marks 3 none ∈ WS := List.mem_append_left _ (List.mem_of_getElem? (i := 259) rfl)
theorem m_260 : Cond.methodLink RX10 216 yX10_marks ∈ WS := List.mem_append_left _ (List.mem_of_getElem? (i := 260) rfl)
theorem m_261 : Cond.instanceMethod yX10_marks ∈ WS := List.mem_append_left _ (List.mem_of_getElem? (i := 261) rfl)
theorem m_262 : Cond.selects RX10 yX10_marks yX10_marks ∈ WS := List.mem_append_left _ (List.mem_of_getElem? (i := 262) rfl)
theorem m_263 : Cond.fieldLink RX10 36 "TabledGoalsModel" "next" "[Z" ∈ WS := List.mem_append_left _ (List.mem_of_getElem? (i := 263) rfl)
theorem m_264 : Cond.fieldLink RX10 39 "TabledGoalsModel" "trueAt" "[I" ∈ WS := List.mem_append_left _ (List.mem_of_getElem? (i := 264) rfl)
theorem m_265 : Cond.code yX10_makes cX10_makes 3 none ∈ WS := List.mem_append_left _ (List.mem_of_getElem? (i := 265) rfl)
theorem m_266 : Cond.methodLink RX10 391 yX10_makes ∈ WS := List.mem_append_left _ (List.mem_of_getElem? (i := 266) rfl)
theorem m_267 : Cond.instanceMethod yX10_makes ∈ WS := List.mem_append_left _ (List.mem_of_getElem? (i := 267) rfl)
theorem m_268 : Cond.selects RX10 yX10_makes yX10_makes ∈ WS := List.mem_append_left _ (List.mem_of_getElem? (i := 268) rfl)
theorem m_269 : Cond.code yX10_factMany cX10_factMany 3 (some .int) ∈ WS := List.mem_append_left _ (List.mem_of_getElem? (i := 269) rfl)
theorem m_270 : Cond.methodLink RX10 468 yX10_factMany ∈ WS := List.mem_append_left _ (List.mem_of_getElem? (i := 270) rfl)
theorem m_271 : Cond.instanceMethod yX10_factMany ∈ WS := List.mem_append_left _ (List.mem_of_getElem? (i := 271) rfl)
theorem m_272 : Cond.selects RX10 yX10_factMany yX10_factMany ∈ WS := List.mem_append_left _ (List.mem_of_getElem? (i := 272) rfl)
theorem m_273 : Cond.code yX10_freshMany cX10_freshMany 3 (some .int) ∈ WS := List.mem_append_left _ (List.mem_of_getElem? (i := 273) rfl)
theorem m_274 : Cond.methodLink RX10 471 yX10_freshMany ∈ WS := List.mem_append_left _ (List.mem_of_getElem? (i := 274) rfl)
theorem m_275 : Cond.instanceMethod yX10_freshMany ∈ WS := List.mem_append_left _ (List.mem_of_getElem? (i := 275) rfl)
theorem m_276 : Cond.selects RX10 yX10_freshMany yX10_freshMany ∈ WS := List.mem_append_left _ (List.mem_of_getElem? (i := 276) rfl)
theorem m_277 : Cond.code yX10_allAtoms cX10_allAtoms 4 (some .int) ∈ WS := List.mem_append_left _ (List.mem_of_getElem? (i := 277) rfl)
theorem m_278 : Cond.methodLink RX10 474 yX10_allAtoms ∈ WS := List.mem_append_left _ (List.mem_of_getElem? (i := 278) rfl)
theorem m_279 : Cond.instanceMethod yX10_allAtoms ∈ WS := List.mem_append_left _ (List.mem_of_getElem? (i := 279) rfl)
theorem m_280 : Cond.selects RX10 yX10_allAtoms yX10_allAtoms ∈ WS := List.mem_append_left _ (List.mem_of_getElem? (i := 280) rfl)
theorem m_281 : Cond.code yX10_lettersOf cX10_lettersOf 5 (some .int) ∈ WS := List.mem_append_left _ (List.mem_of_getElem? (i := 281) rfl)
theorem m_282 : Cond.methodLink RX10 483 yX10_lettersOf ∈ WS := List.mem_append_left _ (List.mem_of_getElem? (i := 282) rfl)
theorem m_283 : Cond.static yX10_lettersOf ∈ WS := List.mem_append_left _ (List.mem_of_getElem? (i := 283) rfl)
theorem m_284 : Cond.methodLink RX3 3 objectInit ∈ WS := List.mem_append_left _ (List.mem_of_getElem? (i := 284) rfl)
theorem m_285 : Cond.fieldLink RX3 9 "TabledGoals$Program" "terms" "[I" ∈ WS := List.mem_append_left _ (List.mem_of_getElem? (i := 285) rfl)
theorem m_286 : Cond.fieldLink RX3 15 "TabledGoals$Program" "lengths" "[I" ∈ WS := List.mem_append_left _ (List.mem_of_getElem? (i := 286) rfl)
theorem m_287 : Cond.fieldLink RX3 18 "TabledGoals$Program" "letters" "[I" ∈ WS := List.mem_append_left _ (List.mem_of_getElem? (i := 287) rfl)
theorem m_288 : Cond.fieldLink RX3 21 "TabledGoals$Program" "sizes" "[I" ∈ WS := List.mem_append_left _ (List.mem_of_getElem? (i := 288) rfl)
theorem m_289 : Cond.fieldLink RX3 24 "TabledGoals$Program" "needs" "[I" ∈ WS := List.mem_append_left _ (List.mem_of_getElem? (i := 289) rfl)
theorem m_290 : Cond.fieldLink RX3 27 "TabledGoals$Program" "parts" "[I" ∈ WS := List.mem_append_left _ (List.mem_of_getElem? (i := 290) rfl)
theorem m_291 : Cond.methodLink RX7 3 objectInit ∈ WS := List.mem_append_left _ (List.mem_of_getElem? (i := 291) rfl)
theorem m_292 : Cond.fieldLink RX7 9 "TabledGoals$Walk" "bound" "[I" ∈ WS := List.mem_append_left _ (List.mem_of_getElem? (i := 292) rfl)
theorem m_293 : Cond.fieldLink RX7 15 "TabledGoals$Walk" "same" "[I" ∈ WS := List.mem_append_left _ (List.mem_of_getElem? (i := 293) rfl)
theorem m_294 : Cond.fieldLink RX7 18 "TabledGoals$Walk" "program" "LTabledGoals$Program;" ∈ WS := List.mem_append_left _ (List.mem_of_getElem? (i := 294) rfl)
theorem m_295 : Cond.fieldLink RX7 22 "TabledGoals$Walk" "plain" "[J" ∈ WS := List.mem_append_left _ (List.mem_of_getElem? (i := 295) rfl)
theorem m_296 : Cond.fieldLink RX7 26 "TabledGoals$Walk" "barred" "[J" ∈ WS := List.mem_append_left _ (List.mem_of_getElem? (i := 296) rfl)
theorem m_297 : Cond.code yX7_init cX7_init 4 none ∈ WS := List.mem_append_left _ (List.mem_of_getElem? (i := 297) rfl)
theorem m_298 : Cond.initialized RX7 ∈ WS := List.mem_append_left _ (List.mem_of_getElem? (i := 298) rfl)
theorem m_299 : Cond.instanceMethod yX7_init ∈ WS := List.mem_append_left _ (List.mem_of_getElem? (i := 299) rfl)
set_option maxRecDepth 100000 in
theorem m_300 : Cond.methodLink RX1 3 yX7_init ∈ WS := List.mem_append_left _ (List.mem_of_getElem? (i := 300) rfl)
set_option maxRecDepth 100000 in
theorem m_301 : Cond.methodLink RX2 3 objectInit ∈ WS := List.mem_append_left _ (List.mem_of_getElem? (i := 301) rfl)
set_option maxRecDepth 100000 in
theorem m_302 : Cond.arrayClass .long ∈ WS := List.mem_append_left _ (List.mem_of_getElem? (i := 302) rfl)
set_option maxRecDepth 100000 in
theorem m_303 : Cond.classLink RX2 25 RX1 ∈ WS := List.mem_append_left _ (List.mem_of_getElem? (i := 303) rfl)
set_option maxRecDepth 100000 in
theorem m_304 : Cond.instantiable RX1 7 ∈ WS := List.mem_append_left _ (List.mem_of_getElem? (i := 304) rfl)
set_option maxRecDepth 100000 in
theorem m_305 : Cond.code yX1_init cX1_init 4 none ∈ WS := List.mem_append_left _ (List.mem_of_getElem? (i := 305) rfl)
set_option maxRecDepth 100000 in
theorem m_306 : Cond.instanceMethod yX1_init ∈ WS := List.mem_append_left _ (List.mem_of_getElem? (i := 306) rfl)
set_option maxRecDepth 100000 in
theorem m_307 : Cond.methodLink RX2 27 yX1_init ∈ WS := List.mem_append_left _ (List.mem_of_getElem? (i := 307) rfl)
set_option maxRecDepth 100000 in
theorem m_308 : Cond.fieldLink RX8 3 "TabledGoals$Model" "possible" "[J" ∈ WS := List.mem_append_left _ (List.mem_of_getElem? (i := 308) rfl)
set_option maxRecDepth 100000 in
theorem m_309 : Cond.fieldLink RX8 9 "TabledGoals$Model" "truth" "[J" ∈ WS := List.mem_append_left _ (List.mem_of_getElem? (i := 309) rfl)
set_option maxRecDepth 100000 in
theorem m_310 : Cond.methodLink RX8 12 yX7_init ∈ WS := List.mem_append_left _ (List.mem_of_getElem? (i := 310) rfl)
set_option maxRecDepth 100000 in
theorem m_311 : Cond.fieldLink RX8 18 "TabledGoals$Weigher" "delayed" "[I" ∈ WS := List.mem_append_left _ (List.mem_of_getElem? (i := 311) rfl)
set_option maxRecDepth 100000 in
theorem m_312 : Cond.fieldLink RX8 24 "TabledGoals$Weigher" "model" "LTabledGoals$Model;" ∈ WS := List.mem_append_left _ (List.mem_of_getElem? (i := 312) rfl)
set_option maxRecDepth 100000 in
theorem m_313 : Cond.fieldLink RX0 3 "TabledGoals$Model" "possible" "[J" ∈ WS := List.mem_append_left _ (List.mem_of_getElem? (i := 313) rfl)
set_option maxRecDepth 100000 in
theorem m_314 : Cond.fieldLink RX0 9 "TabledGoals$Model" "truth" "[J" ∈ WS := List.mem_append_left _ (List.mem_of_getElem? (i := 314) rfl)
set_option maxRecDepth 100000 in
theorem m_315 : Cond.methodLink RX0 12 yX7_init ∈ WS := List.mem_append_left _ (List.mem_of_getElem? (i := 315) rfl)
set_option maxRecDepth 100000 in
theorem m_316 : Cond.fieldLink RX0 18 "TabledGoals$Caller" "keys" "[I" ∈ WS := List.mem_append_left _ (List.mem_of_getElem? (i := 316) rfl)
set_option maxRecDepth 100000 in
theorem m_317 : Cond.fieldLink RX0 24 "TabledGoals$Caller" "ways" "[I" ∈ WS := List.mem_append_left _ (List.mem_of_getElem? (i := 317) rfl)
set_option maxRecDepth 100000 in
theorem m_318 : Cond.methodLink RX6 3 objectInit ∈ WS := List.mem_append_left _ (List.mem_of_getElem? (i := 318) rfl)
set_option maxRecDepth 100000 in
theorem m_319 : Cond.fieldLink RX6 9 "TabledGoals$Tables" "completedOnes" "[I" ∈ WS := List.mem_append_left _ (List.mem_of_getElem? (i := 319) rfl)
set_option maxRecDepth 100000 in
theorem m_320 : Cond.classLink RX6 18 RX5 ∈ WS := List.mem_append_left _ (List.mem_of_getElem? (i := 320) rfl)
set_option maxRecDepth 100000 in
theorem m_321 : Cond.fieldLink RX6 20 "TabledGoals$Tables" "all" "[LTabledGoals$Table;" ∈ WS := List.mem_append_left _ (List.mem_of_getElem? (i := 321) rfl)
set_option maxRecDepth 100000 in
theorem m_322 : Cond.fieldLink RX6 24 "TabledGoals$Tables" "queue" "[I" ∈ WS := List.mem_append_left _ (List.mem_of_getElem? (i := 322) rfl)
set_option maxRecDepth 100000 in
theorem m_323 : Cond.arrayClass .boolean ∈ WS := List.mem_append_left _ (List.mem_of_getElem? (i := 323) rfl)
set_option maxRecDepth 100000 in
theorem m_324 : Cond.fieldLink RX6 27 "TabledGoals$Tables" "seen" "[Z" ∈ WS := List.mem_append_left _ (List.mem_of_getElem? (i := 324) rfl)
set_option maxRecDepth 100000 in
theorem m_325 : Cond.fieldLink RX6 31 "TabledGoals$Tables" "model" "LTabledGoals$Model;" ∈ WS := List.mem_append_left _ (List.mem_of_getElem? (i := 325) rfl)
set_option maxRecDepth 100000 in
theorem m_326 : Cond.classLink RX6 35 RX0 ∈ WS := List.mem_append_left _ (List.mem_of_getElem? (i := 326) rfl)
set_option maxRecDepth 100000 in
theorem m_327 : Cond.instantiable RX0 9 ∈ WS := List.mem_append_left _ (List.mem_of_getElem? (i := 327) rfl)
set_option maxRecDepth 100000 in
theorem m_328 : Cond.initialized RX0 ∈ WS := List.mem_append_left _ (List.mem_of_getElem? (i := 328) rfl)
set_option maxRecDepth 100000 in
theorem m_329 : Cond.code yX0_init cX0_init 3 none ∈ WS := List.mem_append_left _ (List.mem_of_getElem? (i := 329) rfl)
set_option maxRecDepth 100000 in
theorem m_330 : Cond.instanceMethod yX0_init ∈ WS := List.mem_append_left _ (List.mem_of_getElem? (i := 330) rfl)
set_option maxRecDepth 100000 in
theorem m_331 : Cond.methodLink RX6 37 yX0_init ∈ WS := List.mem_append_left _ (List.mem_of_getElem? (i := 331) rfl)
set_option maxRecDepth 100000 in
theorem m_332 : Cond.fieldLink RX6 40 "TabledGoals$Tables" "caller" "LTabledGoals$Caller;" ∈ WS := List.mem_append_left _ (List.mem_of_getElem? (i := 332) rfl)
set_option maxRecDepth 100000 in
theorem m_333 : Cond.methodLink RX9 3 objectInit ∈ WS := List.mem_append_left _ (List.mem_of_getElem? (i := 333) rfl)
set_option maxRecDepth 100000 in
theorem m_334 : Cond.classLink RX9 20 RX3 ∈ WS := List.mem_append_left _ (List.mem_of_getElem? (i := 334) rfl)
set_option maxRecDepth 100000 in
theorem m_335 : Cond.instantiable RX3 9 ∈ WS := List.mem_append_left _ (List.mem_of_getElem? (i := 335) rfl)
set_option maxRecDepth 100000 in
theorem m_336 : Cond.code yX3_init cX3_init 1 none ∈ WS := List.mem_append_left _ (List.mem_of_getElem? (i := 336) rfl)
set_option maxRecDepth 100000 in
theorem m_337 : Cond.instanceMethod yX3_init ∈ WS := List.mem_append_left _ (List.mem_of_getElem? (i := 337) rfl)
set_option maxRecDepth 100000 in
theorem m_338 : Cond.classLink RX9 30 RX2 ∈ WS := List.mem_append_left _ (List.mem_of_getElem? (i := 338) rfl)
set_option maxRecDepth 100000 in
theorem m_339 : Cond.instantiable RX2 7 ∈ WS := List.mem_append_left _ (List.mem_of_getElem? (i := 339) rfl)
set_option maxRecDepth 100000 in
theorem m_340 : Cond.code yX2_init cX2_init 2 none ∈ WS := List.mem_append_left _ (List.mem_of_getElem? (i := 340) rfl)
set_option maxRecDepth 100000 in
theorem m_341 : Cond.instanceMethod yX2_init ∈ WS := List.mem_append_left _ (List.mem_of_getElem? (i := 341) rfl)
set_option maxRecDepth 100000 in
theorem m_342 : Cond.methodLink RX9 32 yX2_init ∈ WS := List.mem_append_left _ (List.mem_of_getElem? (i := 342) rfl)
set_option maxRecDepth 100000 in
theorem m_343 : Cond.classLink RX9 39 RX8 ∈ WS := List.mem_append_left _ (List.mem_of_getElem? (i := 343) rfl)
set_option maxRecDepth 100000 in
theorem m_344 : Cond.instantiable RX8 12 ∈ WS := List.mem_append_left _ (List.mem_of_getElem? (i := 344) rfl)
set_option maxRecDepth 100000 in
theorem m_345 : Cond.initialized RX8 ∈ WS := List.mem_append_left _ (List.mem_of_getElem? (i := 345) rfl)
set_option maxRecDepth 100000 in
theorem m_346 : Cond.code yX8_init cX8_init 3 none ∈ WS := List.mem_append_left _ (List.mem_of_getElem? (i := 346) rfl)
set_option maxRecDepth 100000 in
theorem m_347 : Cond.instanceMethod yX8_init ∈ WS := List.mem_append_left _ (List.mem_of_getElem? (i := 347) rfl)
set_option maxRecDepth 100000 in
theorem m_348 : Cond.methodLink RX9 41 yX8_init ∈ WS := List.mem_append_left _ (List.mem_of_getElem? (i := 348) rfl)
set_option maxRecDepth 100000 in
theorem m_349 : Cond.fieldLink RX9 44 "TabledGoals" "weigher" "LTabledGoals$Weigher;" ∈ WS := List.mem_append_left _ (List.mem_of_getElem? (i := 349) rfl)
set_option maxRecDepth 100000 in
theorem m_350 : Cond.classLink RX9 48 RX6 ∈ WS := List.mem_append_left _ (List.mem_of_getElem? (i := 350) rfl)
set_option maxRecDepth 100000 in
theorem m_351 : Cond.instantiable RX6 14 ∈ WS := List.mem_append_left _ (List.mem_of_getElem? (i := 351) rfl)
set_option maxRecDepth 100000 in
theorem m_352 : Cond.code yX6_init cX6_init 3 none ∈ WS := List.mem_append_left _ (List.mem_of_getElem? (i := 352) rfl)
set_option maxRecDepth 100000 in
theorem m_353 : Cond.instanceMethod yX6_init ∈ WS := List.mem_append_left _ (List.mem_of_getElem? (i := 353) rfl)
set_option maxRecDepth 100000 in
theorem m_354 : Cond.methodLink RX9 50 yX6_init ∈ WS := List.mem_append_left _ (List.mem_of_getElem? (i := 354) rfl)
set_option maxRecDepth 100000 in
theorem m_355 : Cond.methodLink RX10 1 objectInit ∈ WS := List.mem_append_left _ (List.mem_of_getElem? (i := 355) rfl)
set_option maxRecDepth 100000 in
theorem m_356 : Cond.fieldLink RX10 26 "TabledGoalsModel" "is" "[I" ∈ WS := List.mem_append_left _ (List.mem_of_getElem? (i := 356) rfl)
set_option maxRecDepth 100000 in
theorem m_357 : Cond.fieldLink RX10 45 "TabledGoalsModel" "stratum" "[I" ∈ WS := List.mem_append_left _ (List.mem_of_getElem? (i := 357) rfl)
set_option maxRecDepth 100000 in
theorem m_358 : Cond.arrayClass .byte ∈ WS := List.mem_append_left _ (List.mem_of_getElem? (i := 358) rfl)
set_option maxRecDepth 100000 in
theorem m_359 : Cond.fieldLink RX10 52 "TabledGoalsModel" "text" "[B" ∈ WS := List.mem_append_left _ (List.mem_of_getElem? (i := 359) rfl)
set_option maxRecDepth 100000 in
theorem m_360 : Cond.fieldLink RX10 71 "TabledGoalsModel" "name" "[I" ∈ WS := List.mem_append_left _ (List.mem_of_getElem? (i := 360) rfl)
set_option maxRecDepth 100000 in
theorem m_361 : Cond.fieldLink RX10 74 "TabledGoalsModel" "isBound" "[Z" ∈ WS := List.mem_append_left _ (List.mem_of_getElem? (i := 361) rfl)
set_option maxRecDepth 100000 in
theorem m_362 : Cond.fieldLink RX10 77 "TabledGoalsModel" "placeOf" "[I" ∈ WS := List.mem_append_left _ (List.mem_of_getElem? (i := 362) rfl)
set_option maxRecDepth 100000 in
theorem m_363 : Cond.fieldLink RX10 80 "TabledGoalsModel" "called" "[I" ∈ WS := List.mem_append_left _ (List.mem_of_getElem? (i := 363) rfl)
set_option maxRecDepth 100000 in
theorem m_364 : Cond.fieldLink RX10 83 "TabledGoalsModel" "how" "[I" ∈ WS := List.mem_append_left _ (List.mem_of_getElem? (i := 364) rfl)
set_option maxRecDepth 100000 in
theorem m_365 : Cond.fieldLink RX10 86 "TabledGoalsModel" "way" "[I" ∈ WS := List.mem_append_left _ (List.mem_of_getElem? (i := 365) rfl)
set_option maxRecDepth 100000 in
theorem m_366 : Cond.fieldLink RX10 89 "TabledGoalsModel" "bound" "[I" ∈ WS := List.mem_append_left _ (List.mem_of_getElem? (i := 366) rfl)
set_option maxRecDepth 100000 in
theorem m_367 : Cond.fieldLink RX10 92 "TabledGoalsModel" "alike" "[I" ∈ WS := List.mem_append_left _ (List.mem_of_getElem? (i := 367) rfl)
set_option maxRecDepth 100000 in
theorem m_368 : Cond.fieldLink RX10 95 "TabledGoalsModel" "goalOf" "[I" ∈ WS := List.mem_append_left _ (List.mem_of_getElem? (i := 368) rfl)
set_option maxRecDepth 100000 in
theorem m_369 : Cond.fieldLink RX10 101 "TabledGoalsModel" "went" "[I" ∈ WS := List.mem_append_left _ (List.mem_of_getElem? (i := 369) rfl)
set_option maxRecDepth 100000 in
theorem m_370 : Cond.fieldLink RX10 104 "TabledGoalsModel" "hitsOf" "[I" ∈ WS := List.mem_append_left _ (List.mem_of_getElem? (i := 370) rfl)
set_option maxRecDepth 100000 in
theorem m_371 : Cond.fieldLink RX10 107 "TabledGoalsModel" "madeOf" "[I" ∈ WS := List.mem_append_left _ (List.mem_of_getElem? (i := 371) rfl)
set_option maxRecDepth 100000 in
theorem m_372 : Cond.fieldLink RX10 110 "TabledGoalsModel" "isFresh" "[Z" ∈ WS := List.mem_append_left _ (List.mem_of_getElem? (i := 372) rfl)
set_option maxRecDepth 100000 in
theorem m_373 : Cond.constant RX10 113 (672400) ∈ WS := List.mem_append_left _ (List.mem_of_getElem? (i := 373) rfl)
set_option maxRecDepth 100000 in
theorem m_374 : Cond.arrayClass .short ∈ WS := List.mem_append_left _ (List.mem_of_getElem? (i := 374) rfl)
set_option maxRecDepth 100000 in
theorem m_375 : Cond.fieldLink RX10 114 "TabledGoalsModel" "callRow" "[S" ∈ WS := List.mem_append_left _ (List.mem_of_getElem? (i := 375) rfl)
set_option maxRecDepth 100000 in
theorem m_376 : Cond.fieldLink RX10 118 "TabledGoalsModel" "callHow" "[B" ∈ WS := List.mem_append_left _ (List.mem_of_getElem? (i := 376) rfl)
set_option maxRecDepth 100000 in
theorem m_377 : Cond.fieldLink RX10 121 "TabledGoalsModel" "callMany" "[I" ∈ WS := List.mem_append_left _ (List.mem_of_getElem? (i := 377) rfl)
set_option maxRecDepth 100000 in
theorem m_378 : Cond.constant RX10 124 (52480) ∈ WS := List.mem_append_left _ (List.mem_of_getElem? (i := 378) rfl)
set_option maxRecDepth 100000 in
theorem m_379 : Cond.fieldLink RX10 125 "TabledGoalsModel" "answers" "[B" ∈ WS := List.mem_append_left _ (List.mem_of_getElem? (i := 379) rfl)
set_option maxRecDepth 100000 in
theorem m_380 : Cond.fieldLink RX10 128 "TabledGoalsModel" "open" "[I" ∈ WS := List.mem_append_left _ (List.mem_of_getElem? (i := 380) rfl)
set_option maxRecDepth 100000 in
theorem m_381 : Cond.fieldLink RX10 131 "TabledGoalsModel" "done" "[I" ∈ WS := List.mem_append_left _ (List.mem_of_getElem? (i := 381) rfl)
set_option maxRecDepth 100000 in
theorem m_382 : Cond.fieldLink RX10 134 "TabledGoalsModel" "left" "[I" ∈ WS := List.mem_append_left _ (List.mem_of_getElem? (i := 382) rfl)
set_option maxRecDepth 100000 in
theorem m_383 : Cond.fieldLink RX10 137 "TabledGoalsModel" "leftAt" "[I" ∈ WS := List.mem_append_left _ (List.mem_of_getElem? (i := 383) rfl)
set_option maxRecDepth 100000 in
theorem m_384 : Cond.fieldLink RX10 140 "TabledGoalsModel" "finished" "[I" ∈ WS := List.mem_append_left _ (List.mem_of_getElem? (i := 384) rfl)
set_option maxRecDepth 100000 in
theorem m_385 : Cond.fieldLink RX10 143 "TabledGoalsModel" "comeTo" "[Z" ∈ WS := List.mem_append_left _ (List.mem_of_getElem? (i := 385) rfl)
set_option maxRecDepth 100000 in
theorem m_386 : Cond.fieldLink RX10 146 "TabledGoalsModel" "row" "[I" ∈ WS := List.mem_append_left _ (List.mem_of_getElem? (i := 386) rfl)
set_option maxRecDepth 100000 in
theorem m_387 : Cond.fieldLink RX10 149 "TabledGoalsModel" "leader" "[I" ∈ WS := List.mem_append_left _ (List.mem_of_getElem? (i := 387) rfl)
set_option maxRecDepth 100000 in
theorem m_388 : Cond.fieldLink RX10 152 "TabledGoalsModel" "hither" "[Z" ∈ WS := List.mem_append_left _ (List.mem_of_getElem? (i := 388) rfl)
set_option maxRecDepth 100000 in
theorem m_389 : Cond.fieldLink RX10 155 "TabledGoalsModel" "delays" "[I" ∈ WS := List.mem_append_left _ (List.mem_of_getElem? (i := 389) rfl)
set_option maxRecDepth 100000 in
theorem m_390 : Cond.fieldLink RX10 158 "TabledGoalsModel" "reached" "[I" ∈ WS := List.mem_append_left _ (List.mem_of_getElem? (i := 390) rfl)
set_option maxRecDepth 100000 in
theorem m_391 : Cond.fieldLink RX10 161 "TabledGoalsModel" "isReached" "[Z" ∈ WS := List.mem_append_left _ (List.mem_of_getElem? (i := 391) rfl)
set_option maxRecDepth 100000 in
theorem m_392 : Cond.code yX9_text cX9_text 5 (some .int) ∈ WS := List.mem_append_left _ (List.mem_of_getElem? (i := 392) rfl)
set_option maxRecDepth 100000 in
theorem m_393 : Cond.methodLink RL 7 yX9_text ∈ WS := List.mem_append_left _ (List.mem_of_getElem? (i := 393) rfl)
set_option maxRecDepth 100000 in
theorem m_394 : Cond.instanceMethod yX9_text ∈ WS := List.mem_append_left _ (List.mem_of_getElem? (i := 394) rfl)
set_option maxRecDepth 100000 in
theorem m_395 : Cond.selects RX9 yX9_text yX9_text ∈ WS := List.mem_append_left _ (List.mem_of_getElem? (i := 395) rfl)
set_option maxRecDepth 100000 in
theorem m_396 : Cond.classLink RL 13 iae ∈ WS := List.mem_append_left _ (List.mem_of_getElem? (i := 396) rfl)
set_option maxRecDepth 100000 in
theorem m_397 : Cond.code yX9_assume cX9_assume 4 (some .int) ∈ WS := List.mem_append_left _ (List.mem_of_getElem? (i := 397) rfl)
set_option maxRecDepth 100000 in
theorem m_398 : Cond.methodLink RL 15 yX9_assume ∈ WS := List.mem_append_left _ (List.mem_of_getElem? (i := 398) rfl)
set_option maxRecDepth 100000 in
theorem m_399 : Cond.instanceMethod yX9_assume ∈ WS := List.mem_append_left _ (List.mem_of_getElem? (i := 399) rfl)
set_option maxRecDepth 100000 in
theorem m_400 : Cond.selects RX9 yX9_assume yX9_assume ∈ WS := List.mem_append_left _ (List.mem_of_getElem? (i := 400) rfl)
set_option maxRecDepth 100000 in
theorem m_401 : Cond.classLink RL 19 nse ∈ WS := List.mem_append_left _ (List.mem_of_getElem? (i := 401) rfl)
set_option maxRecDepth 100000 in
theorem m_402 : Cond.code yX9_retract cX9_retract 5 (some .int) ∈ WS := List.mem_append_left _ (List.mem_of_getElem? (i := 402) rfl)
set_option maxRecDepth 100000 in
theorem m_403 : Cond.methodLink RL 23 yX9_retract ∈ WS := List.mem_append_left _ (List.mem_of_getElem? (i := 403) rfl)
set_option maxRecDepth 100000 in
theorem m_404 : Cond.instanceMethod yX9_retract ∈ WS := List.mem_append_left _ (List.mem_of_getElem? (i := 404) rfl)
set_option maxRecDepth 100000 in
theorem m_405 : Cond.selects RX9 yX9_retract yX9_retract ∈ WS := List.mem_append_left _ (List.mem_of_getElem? (i := 405) rfl)
set_option maxRecDepth 100000 in
theorem m_406 : Cond.code yX9_ask cX9_ask 4 (some .int) ∈ WS := List.mem_append_left _ (List.mem_of_getElem? (i := 406) rfl)
set_option maxRecDepth 100000 in
theorem m_407 : Cond.methodLink RL 26 yX9_ask ∈ WS := List.mem_append_left _ (List.mem_of_getElem? (i := 407) rfl)
set_option maxRecDepth 100000 in
theorem m_408 : Cond.instanceMethod yX9_ask ∈ WS := List.mem_append_left _ (List.mem_of_getElem? (i := 408) rfl)
set_option maxRecDepth 100000 in
theorem m_409 : Cond.selects RX9 yX9_ask yX9_ask ∈ WS := List.mem_append_left _ (List.mem_of_getElem? (i := 409) rfl)
set_option maxRecDepth 100000 in
theorem m_410 : Cond.code yX9_value cX9_value 4 (some .int) ∈ WS := List.mem_append_left _ (List.mem_of_getElem? (i := 410) rfl)
set_option maxRecDepth 100000 in
theorem m_411 : Cond.methodLink RL 45 yX9_value ∈ WS := List.mem_append_left _ (List.mem_of_getElem? (i := 411) rfl)
set_option maxRecDepth 100000 in
theorem m_412 : Cond.instanceMethod yX9_value ∈ WS := List.mem_append_left _ (List.mem_of_getElem? (i := 412) rfl)
set_option maxRecDepth 100000 in
theorem m_413 : Cond.selects RX9 yX9_value yX9_value ∈ WS := List.mem_append_left _ (List.mem_of_getElem? (i := 413) rfl)
set_option maxRecDepth 100000 in
theorem m_414 : Cond.code yX9_stage cX9_stage 4 (some .int) ∈ WS := List.mem_append_left _ (List.mem_of_getElem? (i := 414) rfl)
set_option maxRecDepth 100000 in
theorem m_415 : Cond.methodLink RL 48 yX9_stage ∈ WS := List.mem_append_left _ (List.mem_of_getElem? (i := 415) rfl)
set_option maxRecDepth 100000 in
theorem m_416 : Cond.instanceMethod yX9_stage ∈ WS := List.mem_append_left _ (List.mem_of_getElem? (i := 416) rfl)
set_option maxRecDepth 100000 in
theorem m_417 : Cond.selects RX9 yX9_stage yX9_stage ∈ WS := List.mem_append_left _ (List.mem_of_getElem? (i := 417) rfl)
set_option maxRecDepth 100000 in
theorem m_418 : Cond.code yX9_find cX9_find 4 (some .int) ∈ WS := List.mem_append_left _ (List.mem_of_getElem? (i := 418) rfl)
set_option maxRecDepth 100000 in
theorem m_419 : Cond.methodLink RL 51 yX9_find ∈ WS := List.mem_append_left _ (List.mem_of_getElem? (i := 419) rfl)
set_option maxRecDepth 100000 in
theorem m_420 : Cond.instanceMethod yX9_find ∈ WS := List.mem_append_left _ (List.mem_of_getElem? (i := 420) rfl)
set_option maxRecDepth 100000 in
theorem m_421 : Cond.selects RX9 yX9_find yX9_find ∈ WS := List.mem_append_left _ (List.mem_of_getElem? (i := 421) rfl)
set_option maxRecDepth 100000 in
theorem m_422 : Cond.code yX9_reach cX9_reach 4 (some .int) ∈ WS := List.mem_append_left _ (List.mem_of_getElem? (i := 422) rfl)
set_option maxRecDepth 100000 in
theorem m_423 : Cond.methodLink RL 67 yX9_reach ∈ WS := List.mem_append_left _ (List.mem_of_getElem? (i := 423) rfl)
set_option maxRecDepth 100000 in
theorem m_424 : Cond.instanceMethod yX9_reach ∈ WS := List.mem_append_left _ (List.mem_of_getElem? (i := 424) rfl)
set_option maxRecDepth 100000 in
theorem m_425 : Cond.selects RX9 yX9_reach yX9_reach ∈ WS := List.mem_append_left _ (List.mem_of_getElem? (i := 425) rfl)
set_option maxRecDepth 100000 in
theorem m_426 : Cond.code yX9_condition cX9_condition 6 (some .int) ∈ WS := List.mem_append_left _ (List.mem_of_getElem? (i := 426) rfl)
set_option maxRecDepth 100000 in
theorem m_427 : Cond.methodLink RL 63 yX9_condition ∈ WS := List.mem_append_left _ (List.mem_of_getElem? (i := 427) rfl)
set_option maxRecDepth 100000 in
theorem m_428 : Cond.instanceMethod yX9_condition ∈ WS := List.mem_append_left _ (List.mem_of_getElem? (i := 428) rfl)
set_option maxRecDepth 100000 in
theorem m_429 : Cond.selects RX9 yX9_condition yX9_condition ∈ WS := List.mem_append_left _ (List.mem_of_getElem? (i := 429) rfl)
set_option maxRecDepth 100000 in
theorem m_430 : Cond.code yX9_predicate cX9_predicate 3 (some .int) ∈ WS := List.mem_append_left _ (List.mem_of_getElem? (i := 430) rfl)
set_option maxRecDepth 100000 in
theorem m_431 : Cond.methodLink RL 32 yX9_predicate ∈ WS := List.mem_append_left _ (List.mem_of_getElem? (i := 431) rfl)
set_option maxRecDepth 100000 in
theorem m_432 : Cond.instanceMethod yX9_predicate ∈ WS := List.mem_append_left _ (List.mem_of_getElem? (i := 432) rfl)
set_option maxRecDepth 100000 in
theorem m_433 : Cond.selects RX9 yX9_predicate yX9_predicate ∈ WS := List.mem_append_left _ (List.mem_of_getElem? (i := 433) rfl)
set_option maxRecDepth 100000 in
theorem m_434 : Cond.code yX9_clause cX9_clause 4 (some .int) ∈ WS := List.mem_append_left _ (List.mem_of_getElem? (i := 434) rfl)
set_option maxRecDepth 100000 in
theorem m_435 : Cond.methodLink RL 39 yX9_clause ∈ WS := List.mem_append_left _ (List.mem_of_getElem? (i := 435) rfl)
set_option maxRecDepth 100000 in
theorem m_436 : Cond.instanceMethod yX9_clause ∈ WS := List.mem_append_left _ (List.mem_of_getElem? (i := 436) rfl)
set_option maxRecDepth 100000 in
theorem m_437 : Cond.selects RX9 yX9_clause yX9_clause ∈ WS := List.mem_append_left _ (List.mem_of_getElem? (i := 437) rfl)
set_option maxRecDepth 100000 in
theorem m_438 : Cond.code yX9_literals cX9_literals 2 (some .int) ∈ WS := List.mem_append_left _ (List.mem_of_getElem? (i := 438) rfl)
set_option maxRecDepth 100000 in
theorem m_439 : Cond.methodLink RL 42 yX9_literals ∈ WS := List.mem_append_left _ (List.mem_of_getElem? (i := 439) rfl)
set_option maxRecDepth 100000 in
theorem m_440 : Cond.instanceMethod yX9_literals ∈ WS := List.mem_append_left _ (List.mem_of_getElem? (i := 440) rfl)
set_option maxRecDepth 100000 in
theorem m_441 : Cond.selects RX9 yX9_literals yX9_literals ∈ WS := List.mem_append_left _ (List.mem_of_getElem? (i := 441) rfl)
set_option maxRecDepth 100000 in
theorem m_442 : Cond.code yX9_table cX9_table 4 (some .int) ∈ WS := List.mem_append_left _ (List.mem_of_getElem? (i := 442) rfl)
set_option maxRecDepth 100000 in
theorem m_443 : Cond.methodLink RL 54 yX9_table ∈ WS := List.mem_append_left _ (List.mem_of_getElem? (i := 443) rfl)
set_option maxRecDepth 100000 in
theorem m_444 : Cond.instanceMethod yX9_table ∈ WS := List.mem_append_left _ (List.mem_of_getElem? (i := 444) rfl)
set_option maxRecDepth 100000 in
theorem m_445 : Cond.selects RX9 yX9_table yX9_table ∈ WS := List.mem_append_left _ (List.mem_of_getElem? (i := 445) rfl)
set_option maxRecDepth 100000 in
theorem m_446 : Cond.code yX9_calls cX9_calls 5 (some .int) ∈ WS := List.mem_append_left _ (List.mem_of_getElem? (i := 446) rfl)
set_option maxRecDepth 100000 in
theorem m_447 : Cond.methodLink RL 57 yX9_calls ∈ WS := List.mem_append_left _ (List.mem_of_getElem? (i := 447) rfl)
set_option maxRecDepth 100000 in
theorem m_448 : Cond.instanceMethod yX9_calls ∈ WS := List.mem_append_left _ (List.mem_of_getElem? (i := 448) rfl)
set_option maxRecDepth 100000 in
theorem m_449 : Cond.selects RX9 yX9_calls yX9_calls ∈ WS := List.mem_append_left _ (List.mem_of_getElem? (i := 449) rfl)
set_option maxRecDepth 100000 in
theorem m_450 : Cond.code yX9_answer cX9_answer 8 (some .int) ∈ WS := List.mem_append_left _ (List.mem_of_getElem? (i := 450) rfl)
set_option maxRecDepth 100000 in
theorem m_451 : Cond.methodLink RL 60 yX9_answer ∈ WS := List.mem_append_left _ (List.mem_of_getElem? (i := 451) rfl)
set_option maxRecDepth 100000 in
theorem m_452 : Cond.instanceMethod yX9_answer ∈ WS := List.mem_append_left _ (List.mem_of_getElem? (i := 452) rfl)
set_option maxRecDepth 100000 in
theorem m_453 : Cond.selects RX9 yX9_answer yX9_answer ∈ WS := List.mem_append_left _ (List.mem_of_getElem? (i := 453) rfl)
set_option maxRecDepth 100000 in
theorem m_454 : Cond.code yX9_told cX9_told 2 (some .int) ∈ WS := List.mem_append_left _ (List.mem_of_getElem? (i := 454) rfl)
set_option maxRecDepth 100000 in
theorem m_455 : Cond.methodLink RL 29 yX9_told ∈ WS := List.mem_append_left _ (List.mem_of_getElem? (i := 455) rfl)
set_option maxRecDepth 100000 in
theorem m_456 : Cond.instanceMethod yX9_told ∈ WS := List.mem_append_left _ (List.mem_of_getElem? (i := 456) rfl)
set_option maxRecDepth 100000 in
theorem m_457 : Cond.selects RX9 yX9_told yX9_told ∈ WS := List.mem_append_left _ (List.mem_of_getElem? (i := 457) rfl)
set_option maxRecDepth 100000 in
theorem m_458 : Cond.code yX9_nameAt cX9_nameAt 5 (some .int) ∈ WS := List.mem_append_left _ (List.mem_of_getElem? (i := 458) rfl)
set_option maxRecDepth 100000 in
theorem m_459 : Cond.methodLink RL 36 yX9_nameAt ∈ WS := List.mem_append_left _ (List.mem_of_getElem? (i := 459) rfl)
set_option maxRecDepth 100000 in
theorem m_460 : Cond.instanceMethod yX9_nameAt ∈ WS := List.mem_append_left _ (List.mem_of_getElem? (i := 460) rfl)
set_option maxRecDepth 100000 in
theorem m_461 : Cond.selects RX9 yX9_nameAt yX9_nameAt ∈ WS := List.mem_append_left _ (List.mem_of_getElem? (i := 461) rfl)
set_option maxRecDepth 100000 in
theorem m_462 : Cond.code yX9_feed cX9_feed 6 (some .int) ∈ WS := List.mem_append_left _ (List.mem_of_getElem? (i := 462) rfl)
set_option maxRecDepth 100000 in
theorem m_463 : Cond.methodLink RL 74 yX9_feed ∈ WS := List.mem_append_left _ (List.mem_of_getElem? (i := 463) rfl)
set_option maxRecDepth 100000 in
theorem m_464 : Cond.instanceMethod yX9_feed ∈ WS := List.mem_append_left _ (List.mem_of_getElem? (i := 464) rfl)
set_option maxRecDepth 100000 in
theorem m_465 : Cond.selects RX9 yX9_feed yX9_feed ∈ WS := List.mem_append_left _ (List.mem_of_getElem? (i := 465) rfl)
set_option maxRecDepth 100000 in
theorem m_466 : Cond.code yX10_feed cX10_feed 6 (some .int) ∈ WS := List.mem_append_left _ (List.mem_of_getElem? (i := 466) rfl)
set_option maxRecDepth 100000 in
theorem m_467 : Cond.methodLink RL 77 yX10_feed ∈ WS := List.mem_append_left _ (List.mem_of_getElem? (i := 467) rfl)
set_option maxRecDepth 100000 in
theorem m_468 : Cond.instanceMethod yX10_feed ∈ WS := List.mem_append_left _ (List.mem_of_getElem? (i := 468) rfl)
set_option maxRecDepth 100000 in
theorem m_469 : Cond.selects RX10 yX10_feed yX10_feed ∈ WS := List.mem_append_left _ (List.mem_of_getElem? (i := 469) rfl)
set_option maxRecDepth 100000 in
theorem m_470 : Cond.codeWith yL_text cL_text 4 (some .int) [(0, 9, 12, 13)] ∈ WS := List.mem_append_left _ (List.mem_of_getElem? (i := 470) rfl)
set_option maxRecDepth 100000 in
theorem m_471 : Cond.initialized RL ∈ WS := List.mem_append_left _ (List.mem_of_getElem? (i := 471) rfl)
set_option maxRecDepth 100000 in
theorem m_472 : Cond.methodLink RL 78 yL_text ∈ WS := List.mem_append_left _ (List.mem_of_getElem? (i := 472) rfl)
set_option maxRecDepth 100000 in
theorem m_473 : Cond.static yL_text ∈ WS := List.mem_append_left _ (List.mem_of_getElem? (i := 473) rfl)
set_option maxRecDepth 100000 in
theorem m_474 : Cond.code yX10_text cX10_text 3 (some .int) ∈ WS := List.mem_append_left _ (List.mem_of_getElem? (i := 474) rfl)
set_option maxRecDepth 100000 in
theorem m_475 : Cond.methodLink RL 83 yX10_text ∈ WS := List.mem_append_left _ (List.mem_of_getElem? (i := 475) rfl)
set_option maxRecDepth 100000 in
theorem m_476 : Cond.instanceMethod yX10_text ∈ WS := List.mem_append_left _ (List.mem_of_getElem? (i := 476) rfl)
set_option maxRecDepth 100000 in
theorem m_477 : Cond.selects RX10 yX10_text yX10_text ∈ WS := List.mem_append_left _ (List.mem_of_getElem? (i := 477) rfl)
set_option maxRecDepth 100000 in
theorem m_478 : Cond.code yX10_thrown cX10_thrown 1 (some .int) ∈ WS := List.mem_append_left _ (List.mem_of_getElem? (i := 478) rfl)
set_option maxRecDepth 100000 in
theorem m_479 : Cond.methodLink RL 84 yX10_thrown ∈ WS := List.mem_append_left _ (List.mem_of_getElem? (i := 479) rfl)
set_option maxRecDepth 100000 in
theorem m_480 : Cond.instanceMethod yX10_thrown ∈ WS := List.mem_append_left _ (List.mem_of_getElem? (i := 480) rfl)
set_option maxRecDepth 100000 in
theorem m_481 : Cond.selects RX10 yX10_thrown yX10_thrown ∈ WS := List.mem_append_left _ (List.mem_of_getElem? (i := 481) rfl)
set_option maxRecDepth 100000 in
theorem m_482 : Cond.code yX9_fault cX9_fault 1 (some .int) ∈ WS := List.mem_append_left _ (List.mem_of_getElem? (i := 482) rfl)
set_option maxRecDepth 100000 in
theorem m_483 : Cond.methodLink RL 88 yX9_fault ∈ WS := List.mem_append_left _ (List.mem_of_getElem? (i := 483) rfl)
set_option maxRecDepth 100000 in
theorem m_484 : Cond.instanceMethod yX9_fault ∈ WS := List.mem_append_left _ (List.mem_of_getElem? (i := 484) rfl)
set_option maxRecDepth 100000 in
theorem m_485 : Cond.selects RX9 yX9_fault yX9_fault ∈ WS := List.mem_append_left _ (List.mem_of_getElem? (i := 485) rfl)
set_option maxRecDepth 100000 in
theorem m_486 : Cond.code yX10_fault cX10_fault 1 (some .int) ∈ WS := List.mem_append_left _ (List.mem_of_getElem? (i := 486) rfl)
set_option maxRecDepth 100000 in
theorem m_487 : Cond.methodLink RL 91 yX10_fault ∈ WS := List.mem_append_left _ (List.mem_of_getElem? (i := 487) rfl)
set_option maxRecDepth 100000 in
theorem m_488 : Cond.instanceMethod yX10_fault ∈ WS := List.mem_append_left _ (List.mem_of_getElem? (i := 488) rfl)
set_option maxRecDepth 100000 in
theorem m_489 : Cond.selects RX10 yX10_fault yX10_fault ∈ WS := List.mem_append_left _ (List.mem_of_getElem? (i := 489) rfl)
set_option maxRecDepth 100000 in
theorem m_490 : Cond.codeWith yL_assume cL_assume 6 (some .int) [(0, 12, 15, 19), (0, 12, 19, 13), (0, 12, 23, 21)] ∈ WS := List.mem_append_left _ (List.mem_of_getElem? (i := 490) rfl)
set_option maxRecDepth 100000 in
theorem m_491 : Cond.methodLink RL 92 yL_assume ∈ WS := List.mem_append_left _ (List.mem_of_getElem? (i := 491) rfl)
set_option maxRecDepth 100000 in
theorem m_492 : Cond.static yL_assume ∈ WS := List.mem_append_left _ (List.mem_of_getElem? (i := 492) rfl)
set_option maxRecDepth 100000 in
theorem m_493 : Cond.code yX10_assume cX10_assume 5 (some .int) ∈ WS := List.mem_append_left _ (List.mem_of_getElem? (i := 493) rfl)
set_option maxRecDepth 100000 in
theorem m_494 : Cond.methodLink RL 95 yX10_assume ∈ WS := List.mem_append_left _ (List.mem_of_getElem? (i := 494) rfl)
set_option maxRecDepth 100000 in
theorem m_495 : Cond.instanceMethod yX10_assume ∈ WS := List.mem_append_left _ (List.mem_of_getElem? (i := 495) rfl)
set_option maxRecDepth 100000 in
theorem m_496 : Cond.selects RX10 yX10_assume yX10_assume ∈ WS := List.mem_append_left _ (List.mem_of_getElem? (i := 496) rfl)
set_option maxRecDepth 100000 in
theorem m_497 : Cond.codeWith yL_retract cL_retract 6 (some .int) [(0, 12, 15, 19), (0, 12, 19, 13)] ∈ WS := List.mem_append_left _ (List.mem_of_getElem? (i := 497) rfl)
set_option maxRecDepth 100000 in
theorem m_498 : Cond.methodLink RL 96 yL_retract ∈ WS := List.mem_append_left _ (List.mem_of_getElem? (i := 498) rfl)
set_option maxRecDepth 100000 in
theorem m_499 : Cond.static yL_retract ∈ WS := List.mem_append_left _ (List.mem_of_getElem? (i := 499) rfl)
set_option maxRecDepth 100000 in
theorem m_500 : Cond.code yX10_retract cX10_retract 6 (some .int) ∈ WS := List.mem_append_left _ (List.mem_of_getElem? (i := 500) rfl)
set_option maxRecDepth 100000 in
theorem m_501 : Cond.methodLink RL 98 yX10_retract ∈ WS := List.mem_append_left _ (List.mem_of_getElem? (i := 501) rfl)
set_option maxRecDepth 100000 in
theorem m_502 : Cond.instanceMethod yX10_retract ∈ WS := List.mem_append_left _ (List.mem_of_getElem? (i := 502) rfl)
set_option maxRecDepth 100000 in
theorem m_503 : Cond.selects RX10 yX10_retract yX10_retract ∈ WS := List.mem_append_left _ (List.mem_of_getElem? (i := 503) rfl)
set_option maxRecDepth 100000 in
theorem m_504 : Cond.codeWith yL_ask cL_ask 6 (some .int) [(0, 12, 15, 19), (0, 12, 19, 13)] ∈ WS := List.mem_append_left _ (List.mem_of_getElem? (i := 504) rfl)
set_option maxRecDepth 100000 in
theorem m_505 : Cond.methodLink RL 99 yL_ask ∈ WS := List.mem_append_left _ (List.mem_of_getElem? (i := 505) rfl)
set_option maxRecDepth 100000 in
theorem m_506 : Cond.static yL_ask ∈ WS := List.mem_append_left _ (List.mem_of_getElem? (i := 506) rfl)
set_option maxRecDepth 100000 in
theorem m_507 : Cond.code yX10_ask cX10_ask 5 (some .int) ∈ WS := List.mem_append_left _ (List.mem_of_getElem? (i := 507) rfl)
set_option maxRecDepth 100000 in
theorem m_508 : Cond.methodLink RL 101 yX10_ask ∈ WS := List.mem_append_left _ (List.mem_of_getElem? (i := 508) rfl)
set_option maxRecDepth 100000 in
theorem m_509 : Cond.instanceMethod yX10_ask ∈ WS := List.mem_append_left _ (List.mem_of_getElem? (i := 509) rfl)
set_option maxRecDepth 100000 in
theorem m_510 : Cond.selects RX10 yX10_ask yX10_ask ∈ WS := List.mem_append_left _ (List.mem_of_getElem? (i := 510) rfl)
set_option maxRecDepth 100000 in
theorem m_511 : Cond.code yX9_abolish cX9_abolish 2 (some .int) ∈ WS := List.mem_append_left _ (List.mem_of_getElem? (i := 511) rfl)
set_option maxRecDepth 100000 in
theorem m_512 : Cond.methodLink RL 102 yX9_abolish ∈ WS := List.mem_append_left _ (List.mem_of_getElem? (i := 512) rfl)
set_option maxRecDepth 100000 in
theorem m_513 : Cond.instanceMethod yX9_abolish ∈ WS := List.mem_append_left _ (List.mem_of_getElem? (i := 513) rfl)
set_option maxRecDepth 100000 in
theorem m_514 : Cond.selects RX9 yX9_abolish yX9_abolish ∈ WS := List.mem_append_left _ (List.mem_of_getElem? (i := 514) rfl)
set_option maxRecDepth 100000 in
theorem m_515 : Cond.code yX10_abolish cX10_abolish 2 (some .int) ∈ WS := List.mem_append_left _ (List.mem_of_getElem? (i := 515) rfl)
set_option maxRecDepth 100000 in
theorem m_516 : Cond.methodLink RL 105 yX10_abolish ∈ WS := List.mem_append_left _ (List.mem_of_getElem? (i := 516) rfl)
set_option maxRecDepth 100000 in
theorem m_517 : Cond.instanceMethod yX10_abolish ∈ WS := List.mem_append_left _ (List.mem_of_getElem? (i := 517) rfl)
set_option maxRecDepth 100000 in
theorem m_518 : Cond.selects RX10 yX10_abolish yX10_abolish ∈ WS := List.mem_append_left _ (List.mem_of_getElem? (i := 518) rfl)
set_option maxRecDepth 100000 in
theorem m_519 : Cond.codeWith yL_told cL_told 4 (some .int) [(0, 9, 12, 13)] ∈ WS := List.mem_append_left _ (List.mem_of_getElem? (i := 519) rfl)
set_option maxRecDepth 100000 in
theorem m_520 : Cond.methodLink RL 106 yL_told ∈ WS := List.mem_append_left _ (List.mem_of_getElem? (i := 520) rfl)
set_option maxRecDepth 100000 in
theorem m_521 : Cond.static yL_told ∈ WS := List.mem_append_left _ (List.mem_of_getElem? (i := 521) rfl)
set_option maxRecDepth 100000 in
theorem m_522 : Cond.code yX10_told cX10_told 2 (some .int) ∈ WS := List.mem_append_left _ (List.mem_of_getElem? (i := 522) rfl)
set_option maxRecDepth 100000 in
theorem m_523 : Cond.methodLink RL 108 yX10_told ∈ WS := List.mem_append_left _ (List.mem_of_getElem? (i := 523) rfl)
set_option maxRecDepth 100000 in
theorem m_524 : Cond.instanceMethod yX10_told ∈ WS := List.mem_append_left _ (List.mem_of_getElem? (i := 524) rfl)
set_option maxRecDepth 100000 in
theorem m_525 : Cond.selects RX10 yX10_told yX10_told ∈ WS := List.mem_append_left _ (List.mem_of_getElem? (i := 525) rfl)
set_option maxRecDepth 100000 in
theorem m_526 : Cond.codeWith yL_predicate cL_predicate 5 (some .int) [(0, 10, 13, 19), (0, 10, 17, 13)] ∈ WS := List.mem_append_left _ (List.mem_of_getElem? (i := 526) rfl)
set_option maxRecDepth 100000 in
theorem m_527 : Cond.methodLink RL 109 yL_predicate ∈ WS := List.mem_append_left _ (List.mem_of_getElem? (i := 527) rfl)
set_option maxRecDepth 100000 in
theorem m_528 : Cond.static yL_predicate ∈ WS := List.mem_append_left _ (List.mem_of_getElem? (i := 528) rfl)
set_option maxRecDepth 100000 in
theorem m_529 : Cond.code yX10_predicate cX10_predicate 3 (some .int) ∈ WS := List.mem_append_left _ (List.mem_of_getElem? (i := 529) rfl)
set_option maxRecDepth 100000 in
theorem m_530 : Cond.methodLink RL 112 yX10_predicate ∈ WS := List.mem_append_left _ (List.mem_of_getElem? (i := 530) rfl)
set_option maxRecDepth 100000 in
theorem m_531 : Cond.instanceMethod yX10_predicate ∈ WS := List.mem_append_left _ (List.mem_of_getElem? (i := 531) rfl)
set_option maxRecDepth 100000 in
theorem m_532 : Cond.selects RX10 yX10_predicate yX10_predicate ∈ WS := List.mem_append_left _ (List.mem_of_getElem? (i := 532) rfl)
set_option maxRecDepth 100000 in
theorem m_533 : Cond.codeWith yL_nameAt cL_nameAt 6 (some .int) [(0, 12, 15, 19), (0, 12, 19, 13)] ∈ WS := List.mem_append_left _ (List.mem_of_getElem? (i := 533) rfl)
set_option maxRecDepth 100000 in
theorem m_534 : Cond.methodLink RL 113 yL_nameAt ∈ WS := List.mem_append_left _ (List.mem_of_getElem? (i := 534) rfl)
set_option maxRecDepth 100000 in
theorem m_535 : Cond.static yL_nameAt ∈ WS := List.mem_append_left _ (List.mem_of_getElem? (i := 535) rfl)
set_option maxRecDepth 100000 in
theorem m_536 : Cond.code yX10_nameAt cX10_nameAt 10 (some .int) ∈ WS := List.mem_append_left _ (List.mem_of_getElem? (i := 536) rfl)
set_option maxRecDepth 100000 in
theorem m_537 : Cond.methodLink RL 115 yX10_nameAt ∈ WS := List.mem_append_left _ (List.mem_of_getElem? (i := 537) rfl)
set_option maxRecDepth 100000 in
theorem m_538 : Cond.instanceMethod yX10_nameAt ∈ WS := List.mem_append_left _ (List.mem_of_getElem? (i := 538) rfl)
set_option maxRecDepth 100000 in
theorem m_539 : Cond.selects RX10 yX10_nameAt yX10_nameAt ∈ WS := List.mem_append_left _ (List.mem_of_getElem? (i := 539) rfl)
set_option maxRecDepth 100000 in
theorem m_540 : Cond.codeWith yL_clause cL_clause 6 (some .int) [(0, 12, 15, 19), (0, 12, 19, 13)] ∈ WS := List.mem_append_left _ (List.mem_of_getElem? (i := 540) rfl)
set_option maxRecDepth 100000 in
theorem m_541 : Cond.methodLink RL 116 yL_clause ∈ WS := List.mem_append_left _ (List.mem_of_getElem? (i := 541) rfl)
set_option maxRecDepth 100000 in
theorem m_542 : Cond.static yL_clause ∈ WS := List.mem_append_left _ (List.mem_of_getElem? (i := 542) rfl)
set_option maxRecDepth 100000 in
theorem m_543 : Cond.code yX10_clause cX10_clause 5 (some .int) ∈ WS := List.mem_append_left _ (List.mem_of_getElem? (i := 543) rfl)
set_option maxRecDepth 100000 in
theorem m_544 : Cond.methodLink RL 118 yX10_clause ∈ WS := List.mem_append_left _ (List.mem_of_getElem? (i := 544) rfl)
set_option maxRecDepth 100000 in
theorem m_545 : Cond.instanceMethod yX10_clause ∈ WS := List.mem_append_left _ (List.mem_of_getElem? (i := 545) rfl)
set_option maxRecDepth 100000 in
theorem m_546 : Cond.selects RX10 yX10_clause yX10_clause ∈ WS := List.mem_append_left _ (List.mem_of_getElem? (i := 546) rfl)
set_option maxRecDepth 100000 in
theorem m_547 : Cond.codeWith yL_literals cL_literals 4 (some .int) [(0, 9, 12, 19)] ∈ WS := List.mem_append_left _ (List.mem_of_getElem? (i := 547) rfl)
set_option maxRecDepth 100000 in
theorem m_548 : Cond.methodLink RL 119 yL_literals ∈ WS := List.mem_append_left _ (List.mem_of_getElem? (i := 548) rfl)
set_option maxRecDepth 100000 in
theorem m_549 : Cond.static yL_literals ∈ WS := List.mem_append_left _ (List.mem_of_getElem? (i := 549) rfl)
set_option maxRecDepth 100000 in
theorem m_550 : Cond.code yX10_literals cX10_literals 2 (some .int) ∈ WS := List.mem_append_left _ (List.mem_of_getElem? (i := 550) rfl)
set_option maxRecDepth 100000 in
theorem m_551 : Cond.methodLink RL 121 yX10_literals ∈ WS := List.mem_append_left _ (List.mem_of_getElem? (i := 551) rfl)
set_option maxRecDepth 100000 in
theorem m_552 : Cond.instanceMethod yX10_literals ∈ WS := List.mem_append_left _ (List.mem_of_getElem? (i := 552) rfl)
set_option maxRecDepth 100000 in
theorem m_553 : Cond.selects RX10 yX10_literals yX10_literals ∈ WS := List.mem_append_left _ (List.mem_of_getElem? (i := 553) rfl)
set_option maxRecDepth 100000 in
theorem m_554 : Cond.codeWith yL_value cL_value 6 (some .int) [(0, 12, 15, 19), (0, 12, 19, 13)] ∈ WS := List.mem_append_left _ (List.mem_of_getElem? (i := 554) rfl)
set_option maxRecDepth 100000 in
theorem m_555 : Cond.methodLink RL 122 yL_value ∈ WS := List.mem_append_left _ (List.mem_of_getElem? (i := 555) rfl)
set_option maxRecDepth 100000 in
theorem m_556 : Cond.static yL_value ∈ WS := List.mem_append_left _ (List.mem_of_getElem? (i := 556) rfl)
set_option maxRecDepth 100000 in
theorem m_557 : Cond.code yX10_value cX10_value 4 (some .int) ∈ WS := List.mem_append_left _ (List.mem_of_getElem? (i := 557) rfl)
set_option maxRecDepth 100000 in
theorem m_558 : Cond.methodLink RL 124 yX10_value ∈ WS := List.mem_append_left _ (List.mem_of_getElem? (i := 558) rfl)
set_option maxRecDepth 100000 in
theorem m_559 : Cond.instanceMethod yX10_value ∈ WS := List.mem_append_left _ (List.mem_of_getElem? (i := 559) rfl)
set_option maxRecDepth 100000 in
theorem m_560 : Cond.selects RX10 yX10_value yX10_value ∈ WS := List.mem_append_left _ (List.mem_of_getElem? (i := 560) rfl)
set_option maxRecDepth 100000 in
theorem m_561 : Cond.codeWith yL_stage cL_stage 6 (some .int) [(0, 12, 15, 19), (0, 12, 19, 13)] ∈ WS := List.mem_append_left _ (List.mem_of_getElem? (i := 561) rfl)
set_option maxRecDepth 100000 in
theorem m_562 : Cond.methodLink RL 125 yL_stage ∈ WS := List.mem_append_left _ (List.mem_of_getElem? (i := 562) rfl)
set_option maxRecDepth 100000 in
theorem m_563 : Cond.static yL_stage ∈ WS := List.mem_append_left _ (List.mem_of_getElem? (i := 563) rfl)
set_option maxRecDepth 100000 in
theorem m_564 : Cond.code yX10_stage cX10_stage 6 (some .int) ∈ WS := List.mem_append_left _ (List.mem_of_getElem? (i := 564) rfl)
set_option maxRecDepth 100000 in
theorem m_565 : Cond.methodLink RL 127 yX10_stage ∈ WS := List.mem_append_left _ (List.mem_of_getElem? (i := 565) rfl)
set_option maxRecDepth 100000 in
theorem m_566 : Cond.instanceMethod yX10_stage ∈ WS := List.mem_append_left _ (List.mem_of_getElem? (i := 566) rfl)
set_option maxRecDepth 100000 in
theorem m_567 : Cond.selects RX10 yX10_stage yX10_stage ∈ WS := List.mem_append_left _ (List.mem_of_getElem? (i := 567) rfl)
set_option maxRecDepth 100000 in
theorem m_568 : Cond.codeWith yL_find cL_find 6 (some .int) [(0, 12, 15, 19), (0, 12, 19, 13)] ∈ WS := List.mem_append_left _ (List.mem_of_getElem? (i := 568) rfl)
set_option maxRecDepth 100000 in
theorem m_569 : Cond.methodLink RL 128 yL_find ∈ WS := List.mem_append_left _ (List.mem_of_getElem? (i := 569) rfl)
set_option maxRecDepth 100000 in
theorem m_570 : Cond.static yL_find ∈ WS := List.mem_append_left _ (List.mem_of_getElem? (i := 570) rfl)
set_option maxRecDepth 100000 in
theorem m_571 : Cond.code yX10_find cX10_find 4 (some .int) ∈ WS := List.mem_append_left _ (List.mem_of_getElem? (i := 571) rfl)
set_option maxRecDepth 100000 in
theorem m_572 : Cond.methodLink RL 130 yX10_find ∈ WS := List.mem_append_left _ (List.mem_of_getElem? (i := 572) rfl)
set_option maxRecDepth 100000 in
theorem m_573 : Cond.instanceMethod yX10_find ∈ WS := List.mem_append_left _ (List.mem_of_getElem? (i := 573) rfl)
set_option maxRecDepth 100000 in
theorem m_574 : Cond.selects RX10 yX10_find yX10_find ∈ WS := List.mem_append_left _ (List.mem_of_getElem? (i := 574) rfl)
set_option maxRecDepth 100000 in
theorem m_575 : Cond.codeWith yL_table cL_table 5 (some .int) [(0, 10, 13, 19), (0, 10, 17, 13)] ∈ WS := List.mem_append_left _ (List.mem_of_getElem? (i := 575) rfl)
set_option maxRecDepth 100000 in
theorem m_576 : Cond.methodLink RL 131 yL_table ∈ WS := List.mem_append_left _ (List.mem_of_getElem? (i := 576) rfl)
set_option maxRecDepth 100000 in
theorem m_577 : Cond.static yL_table ∈ WS := List.mem_append_left _ (List.mem_of_getElem? (i := 577) rfl)
set_option maxRecDepth 100000 in
theorem m_578 : Cond.code yX10_table cX10_table 3 (some .int) ∈ WS := List.mem_append_left _ (List.mem_of_getElem? (i := 578) rfl)
set_option maxRecDepth 100000 in
theorem m_579 : Cond.methodLink RL 133 yX10_table ∈ WS := List.mem_append_left _ (List.mem_of_getElem? (i := 579) rfl)
set_option maxRecDepth 100000 in
theorem m_580 : Cond.instanceMethod yX10_table ∈ WS := List.mem_append_left _ (List.mem_of_getElem? (i := 580) rfl)
set_option maxRecDepth 100000 in
theorem m_581 : Cond.selects RX10 yX10_table yX10_table ∈ WS := List.mem_append_left _ (List.mem_of_getElem? (i := 581) rfl)
set_option maxRecDepth 100000 in
theorem m_582 : Cond.codeWith yL_calls cL_calls 6 (some .int) [(0, 12, 15, 19), (0, 12, 19, 13)] ∈ WS := List.mem_append_left _ (List.mem_of_getElem? (i := 582) rfl)
set_option maxRecDepth 100000 in
theorem m_583 : Cond.methodLink RL 134 yL_calls ∈ WS := List.mem_append_left _ (List.mem_of_getElem? (i := 583) rfl)
set_option maxRecDepth 100000 in
theorem m_584 : Cond.static yL_calls ∈ WS := List.mem_append_left _ (List.mem_of_getElem? (i := 584) rfl)
set_option maxRecDepth 100000 in
theorem m_585 : Cond.code yX10_calls cX10_calls 4 (some .int) ∈ WS := List.mem_append_left _ (List.mem_of_getElem? (i := 585) rfl)
set_option maxRecDepth 100000 in
theorem m_586 : Cond.methodLink RL 136 yX10_calls ∈ WS := List.mem_append_left _ (List.mem_of_getElem? (i := 586) rfl)
set_option maxRecDepth 100000 in
theorem m_587 : Cond.instanceMethod yX10_calls ∈ WS := List.mem_append_left _ (List.mem_of_getElem? (i := 587) rfl)
set_option maxRecDepth 100000 in
theorem m_588 : Cond.selects RX10 yX10_calls yX10_calls ∈ WS := List.mem_append_left _ (List.mem_of_getElem? (i := 588) rfl)
set_option maxRecDepth 100000 in
theorem m_589 : Cond.codeWith yL_answer cL_answer 6 (some .int) [(0, 12, 15, 19), (0, 12, 19, 13)] ∈ WS := List.mem_append_left _ (List.mem_of_getElem? (i := 589) rfl)
set_option maxRecDepth 100000 in
theorem m_590 : Cond.methodLink RL 137 yL_answer ∈ WS := List.mem_append_left _ (List.mem_of_getElem? (i := 590) rfl)
set_option maxRecDepth 100000 in
theorem m_591 : Cond.static yL_answer ∈ WS := List.mem_append_left _ (List.mem_of_getElem? (i := 591) rfl)
set_option maxRecDepth 100000 in
theorem m_592 : Cond.code yX10_answer cX10_answer 7 (some .int) ∈ WS := List.mem_append_left _ (List.mem_of_getElem? (i := 592) rfl)
set_option maxRecDepth 100000 in
theorem m_593 : Cond.methodLink RL 139 yX10_answer ∈ WS := List.mem_append_left _ (List.mem_of_getElem? (i := 593) rfl)
set_option maxRecDepth 100000 in
theorem m_594 : Cond.instanceMethod yX10_answer ∈ WS := List.mem_append_left _ (List.mem_of_getElem? (i := 594) rfl)
set_option maxRecDepth 100000 in
theorem m_595 : Cond.selects RX10 yX10_answer yX10_answer ∈ WS := List.mem_append_left _ (List.mem_of_getElem? (i := 595) rfl)
set_option maxRecDepth 100000 in
theorem m_596 : Cond.code yX9_completed cX9_completed 2 (some .int) ∈ WS := List.mem_append_left _ (List.mem_of_getElem? (i := 596) rfl)
set_option maxRecDepth 100000 in
theorem m_597 : Cond.methodLink RL 140 yX9_completed ∈ WS := List.mem_append_left _ (List.mem_of_getElem? (i := 597) rfl)
set_option maxRecDepth 100000 in
theorem m_598 : Cond.instanceMethod yX9_completed ∈ WS := List.mem_append_left _ (List.mem_of_getElem? (i := 598) rfl)
set_option maxRecDepth 100000 in
theorem m_599 : Cond.selects RX9 yX9_completed yX9_completed ∈ WS := List.mem_append_left _ (List.mem_of_getElem? (i := 599) rfl)
set_option maxRecDepth 100000 in
theorem m_600 : Cond.code yX10_completed cX10_completed 2 (some .int) ∈ WS := List.mem_append_left _ (List.mem_of_getElem? (i := 600) rfl)
set_option maxRecDepth 100000 in
theorem m_601 : Cond.methodLink RL 143 yX10_completed ∈ WS := List.mem_append_left _ (List.mem_of_getElem? (i := 601) rfl)
set_option maxRecDepth 100000 in
theorem m_602 : Cond.instanceMethod yX10_completed ∈ WS := List.mem_append_left _ (List.mem_of_getElem? (i := 602) rfl)
set_option maxRecDepth 100000 in
theorem m_603 : Cond.selects RX10 yX10_completed yX10_completed ∈ WS := List.mem_append_left _ (List.mem_of_getElem? (i := 603) rfl)
set_option maxRecDepth 100000 in
theorem m_604 : Cond.codeWith yL_condition cL_condition 8 (some .int) [(0, 16, 19, 19), (0, 16, 23, 13)] ∈ WS := List.mem_append_left _ (List.mem_of_getElem? (i := 604) rfl)
set_option maxRecDepth 100000 in
theorem m_605 : Cond.methodLink RL 144 yL_condition ∈ WS := List.mem_append_left _ (List.mem_of_getElem? (i := 605) rfl)
set_option maxRecDepth 100000 in
theorem m_606 : Cond.static yL_condition ∈ WS := List.mem_append_left _ (List.mem_of_getElem? (i := 606) rfl)
set_option maxRecDepth 100000 in
theorem m_607 : Cond.code yX10_condition cX10_condition 7 (some .int) ∈ WS := List.mem_append_left _ (List.mem_of_getElem? (i := 607) rfl)
set_option maxRecDepth 100000 in
theorem m_608 : Cond.methodLink RL 147 yX10_condition ∈ WS := List.mem_append_left _ (List.mem_of_getElem? (i := 608) rfl)
set_option maxRecDepth 100000 in
theorem m_609 : Cond.instanceMethod yX10_condition ∈ WS := List.mem_append_left _ (List.mem_of_getElem? (i := 609) rfl)
set_option maxRecDepth 100000 in
theorem m_610 : Cond.selects RX10 yX10_condition yX10_condition ∈ WS := List.mem_append_left _ (List.mem_of_getElem? (i := 610) rfl)
set_option maxRecDepth 100000 in
theorem m_611 : Cond.codeWith yL_reach cL_reach 6 (some .int) [(0, 12, 15, 19), (0, 12, 19, 13)] ∈ WS := List.mem_append_left _ (List.mem_of_getElem? (i := 611) rfl)
set_option maxRecDepth 100000 in
theorem m_612 : Cond.methodLink RL 148 yL_reach ∈ WS := List.mem_append_left _ (List.mem_of_getElem? (i := 612) rfl)
set_option maxRecDepth 100000 in
theorem m_613 : Cond.static yL_reach ∈ WS := List.mem_append_left _ (List.mem_of_getElem? (i := 613) rfl)
set_option maxRecDepth 100000 in
theorem m_614 : Cond.code yX10_reach cX10_reach 7 (some .int) ∈ WS := List.mem_append_left _ (List.mem_of_getElem? (i := 614) rfl)
set_option maxRecDepth 100000 in
theorem m_615 : Cond.methodLink RL 150 yX10_reach ∈ WS := List.mem_append_left _ (List.mem_of_getElem? (i := 615) rfl)
set_option maxRecDepth 100000 in
theorem m_616 : Cond.instanceMethod yX10_reach ∈ WS := List.mem_append_left _ (List.mem_of_getElem? (i := 616) rfl)
set_option maxRecDepth 100000 in
theorem m_617 : Cond.selects RX10 yX10_reach yX10_reach ∈ WS := List.mem_append_left _ (List.mem_of_getElem? (i := 617) rfl)
set_option maxRecDepth 100000 in
theorem m_618 : Cond.code yX9_print cX9_print 1 (some .long) ∈ WS := List.mem_append_left _ (List.mem_of_getElem? (i := 618) rfl)
set_option maxRecDepth 100000 in
theorem m_619 : Cond.methodLink RL 151 yX9_print ∈ WS := List.mem_append_left _ (List.mem_of_getElem? (i := 619) rfl)
set_option maxRecDepth 100000 in
theorem m_620 : Cond.instanceMethod yX9_print ∈ WS := List.mem_append_left _ (List.mem_of_getElem? (i := 620) rfl)
set_option maxRecDepth 100000 in
theorem m_621 : Cond.selects RX9 yX9_print yX9_print ∈ WS := List.mem_append_left _ (List.mem_of_getElem? (i := 621) rfl)
set_option maxRecDepth 100000 in
theorem m_622 : Cond.code yX10_print cX10_print 4 (some .long) ∈ WS := List.mem_append_left _ (List.mem_of_getElem? (i := 622) rfl)
set_option maxRecDepth 100000 in
theorem m_623 : Cond.methodLink RL 155 yX10_print ∈ WS := List.mem_append_left _ (List.mem_of_getElem? (i := 623) rfl)
set_option maxRecDepth 100000 in
theorem m_624 : Cond.instanceMethod yX10_print ∈ WS := List.mem_append_left _ (List.mem_of_getElem? (i := 624) rfl)
set_option maxRecDepth 100000 in
theorem m_625 : Cond.selects RX10 yX10_print yX10_print ∈ WS := List.mem_append_left _ (List.mem_of_getElem? (i := 625) rfl)
set_option maxRecDepth 100000 in
theorem m_626 : Cond.code yX9_status cX9_status 2 (some .int) ∈ WS := List.mem_append_left _ (List.mem_of_getElem? (i := 626) rfl)
set_option maxRecDepth 100000 in
theorem m_627 : Cond.methodLink RL 156 yX9_status ∈ WS := List.mem_append_left _ (List.mem_of_getElem? (i := 627) rfl)
set_option maxRecDepth 100000 in
theorem m_628 : Cond.instanceMethod yX9_status ∈ WS := List.mem_append_left _ (List.mem_of_getElem? (i := 628) rfl)
set_option maxRecDepth 100000 in
theorem m_629 : Cond.selects RX9 yX9_status yX9_status ∈ WS := List.mem_append_left _ (List.mem_of_getElem? (i := 629) rfl)
set_option maxRecDepth 100000 in
theorem m_630 : Cond.code yX10_status cX10_status 2 (some .int) ∈ WS := List.mem_append_left _ (List.mem_of_getElem? (i := 630) rfl)
set_option maxRecDepth 100000 in
theorem m_631 : Cond.methodLink RL 159 yX10_status ∈ WS := List.mem_append_left _ (List.mem_of_getElem? (i := 631) rfl)
set_option maxRecDepth 100000 in
theorem m_632 : Cond.instanceMethod yX10_status ∈ WS := List.mem_append_left _ (List.mem_of_getElem? (i := 632) rfl)
set_option maxRecDepth 100000 in
theorem m_633 : Cond.selects RX10 yX10_status yX10_status ∈ WS := List.mem_append_left _ (List.mem_of_getElem? (i := 633) rfl)
set_option maxRecDepth 100000 in
theorem m_634 : Cond.classLink RL 8 RX9 ∈ WS := List.mem_append_left _ (List.mem_of_getElem? (i := 634) rfl)
set_option maxRecDepth 100000 in
theorem m_635 : Cond.instantiable RX9 9 ∈ WS := List.mem_append_left _ (List.mem_of_getElem? (i := 635) rfl)
set_option maxRecDepth 100000 in
theorem m_636 : Cond.code yX9_init cX9_init 1 none ∈ WS := List.mem_append_left _ (List.mem_of_getElem? (i := 636) rfl)
set_option maxRecDepth 100000 in
theorem m_637 : Cond.instanceMethod yX9_init ∈ WS := List.mem_append_left _ (List.mem_of_getElem? (i := 637) rfl)
set_option maxRecDepth 100000 in
theorem m_638 : Cond.methodLink RL 70 yX9_init ∈ WS := List.mem_append_left _ (List.mem_of_getElem? (i := 638) rfl)
set_option maxRecDepth 100000 in
theorem m_639 : Cond.classLink RL 71 RX10 ∈ WS := List.mem_append_left _ (List.mem_of_getElem? (i := 639) rfl)
set_option maxRecDepth 100000 in
theorem m_640 : Cond.instantiable RX10 77 ∈ WS := List.mem_append_left _ (List.mem_of_getElem? (i := 640) rfl)
set_option maxRecDepth 100000 in
theorem m_641 : Cond.code yX10_init cX10_init 1 none ∈ WS := List.mem_append_left _ (List.mem_of_getElem? (i := 641) rfl)
set_option maxRecDepth 100000 in
theorem m_642 : Cond.instanceMethod yX10_init ∈ WS := List.mem_append_left _ (List.mem_of_getElem? (i := 642) rfl)
set_option maxRecDepth 100000 in
theorem m_643 : Cond.methodLink RL 73 yX10_init ∈ WS := List.mem_append_left _ (List.mem_of_getElem? (i := 643) rfl)
set_option maxRecDepth 100000 in
theorem m_644 : Cond.instantiable RX5 18 ∈ WS := List.mem_append_left _ (List.mem_of_getElem? (i := 644) rfl)
end
section
def fl (N : Nat) (g : Nat → Value) : List Value := (List.range N).map g
theorem fl_get {N k : Nat} {g : Nat → Value} {v : Value} (hk : k < N) (h : g k = v) : (fl N g)[k]? = some v := by
  simp [fl, hk, h]
theorem fl_set {N k : Nat} (g : Nat → Value) (v : Value) : (fl N g).set k v = fl N (va_up g k v) := by
  apply List.ext_getElem?
  intro i
  by_cases hi : i < N
  · by_cases hk : k = i
    · subst hk
      simp [fl, hi, va_up]
    · simp [fl, hi, va_up, List.getElem?_set, hk, Ne.symm hk]
  · simp [fl, hi, List.getElem?_set]
theorem fl_len (N : Nat) (g : Nat → Value) : (fl N g).length = N := by simp [fl]
theorem fl_V {N k : Nat} {g : Nat → Value} (hk : k < N) : vp_V (fl N g) k = g k := by simp [vp_V, fl, hk]
def rm (d mc ms : Nat) : Room := { frames := 10 * d, cells := mc, slots := ms, locals := 200 * d }
def TT (Y : Nat → ClassId) : List (ClassId × FieldType) := [(Y 0, .int), (Y 1, .long), (Y 2, .boolean), (Y 3, .byte), (Y 4, .short)]
def KD (U : State) : Prop := va_Nw (.declares (Bundle.initS "java/lang/RuntimeException")) U ∧ va_Nw (.declares (Bundle.initS "java/lang/Exception")) U ∧ va_Nw (.declares (Bundle.initS Bundle.tN)) U
theorem KD.warm {s U : State} (hW : s.WarmedH U.vm) (h : KD s) : KD U := ⟨va_Nw.warmD hW h.1, va_Nw.warmD hW h.2.1, va_Nw.warmD hW h.2.2⟩
theorem KD.call {U : State} {g : JFrame} {mk : MethodId} {a : Array Value} (h : KD U) : KD (U.calling g mk a) := ⟨va_Nw.same (u := U) rfl rfl h.1, va_Nw.same (u := U) rfl rfl h.2.1, va_Nw.same (u := U) rfl rfl h.2.2⟩
def KV (D : va_G) (Y : Nat → ClassId) (U : State) : Prop :=
  va_K D vwCl (TT Y) U ∧ (∃ a, vk_R RX9 287 "there is none of that number" a U) ∧ (∃ a, vk_R RX9 294 "a number that has no meaning here" a U) ∧ va_Nw (.methodLinkNest RX9 22 yX3_init RX9) U ∧ va_AO RX5 U ∧ va_Nw (.castable nse nse) U ∧ va_Nw (.castable iae iae) U ∧ va_Nc iae nse U ∧ KD U
theorem KV.warm {D : va_G} {Y : Nat → ClassId} {s U : State} (hW : s.WarmedH U.vm) (h : KV D Y s) : KV D Y U := by
  obtain ⟨h1, ⟨a, h2⟩, ⟨b, h3⟩, h4, h5, h6, h7, h8, h9⟩ := h
  exact ⟨va_K.moved hW.alike h1, ⟨a, vk_R.warm hW h2⟩, ⟨b, vk_R.warm hW h3⟩, va_Nw.warmM hW h4, va_AO.moved hW.alike h5, va_Nw.warmC hW h6, va_Nw.warmC hW h7, va_Nc.moved hW.alike h8, h9.warm hW⟩
theorem KV.call {D : va_G} {Y : Nat → ClassId} {U : State} {g : JFrame} {mk : MethodId} {a : Array Value} (h : KV D Y U) : KV D Y (U.calling g mk a) := by
  obtain ⟨h1, ⟨a, h2⟩, ⟨b, h3⟩, h4, h5, h6, h7, h8, h9⟩ := h
  exact ⟨va_K.moved (u := U) (Vm.Alike.refl U.vm) h1, ⟨a, vk_R.same (u := U) rfl h2⟩, ⟨b, vk_R.same (u := U) rfl h3⟩, va_Nw.same (u := U) rfl rfl h4, va_AO.moved (u := U) (Vm.Alike.refl U.vm) h5, va_Nw.same (u := U) rfl rfl h6, va_Nw.same (u := U) rfl rfl h7, va_Nc.moved (u := U) (Vm.Alike.refl U.vm) h8, h9.call⟩
def ZZ (A : Nat → Prop) (U : State) (H : Heap) : Prop := vx_Zq Bundle.tN "UNASSIGNED_STACK" Bundle.steD A U H ∧ vx_Zq Bundle.tN "SUPPRESSED_SENTINEL" Bundle.listD A U H
theorem ZZ.moved {A : Nat → Prop} {u U : State} {H : Heap} (hvm : u.vm.Alike U.vm) (h : ZZ A u H) : ZZ A U H := ⟨h.1.moved hvm, h.2.moved hvm⟩
theorem ZZ.kept {A : Nat → Prop} {U : State} {H H1 : Heap} (h : ZZ A U H) (hq : ∀ a : Nat, a < H.size → ¬ A a → H1[a]? = H[a]?) : ZZ A U H1 := ⟨h.1.kept hq, h.2.kept hq⟩
theorem ZZ.narrow {A B : Nat → Prop} {U : State} {H : Heap} (h : ZZ A U H) (hAB : ∀ q, B q → A q) : ZZ B U H := ⟨h.1.narrow hAB, h.2.narrow hAB⟩
def pre (D : va_G) (Y : Nat → ClassId) (Wd : va_W) (sz : Nat) (U : State) : Prop := U.heap.size = sz ∧ KV D Y U ∧ va_P D vwCl Wd U.heap ∧ va_D (fun _ => True) Wd ∧ ZZ (va_A Wd sz) U U.heap
theorem pre_blind {D : va_G} {Y : Nat → ClassId} {Wd : va_W} {sz : Nat} {av : List Value} : FrameBlind (va_Pc av (pre D Y Wd sz)) := by
  intro a U g mk q
  obtain ⟨q0, q1, q2, q3, q4, q5⟩ := q
  exact ⟨q0, q1, q2.call, q3, q4, ZZ.moved (u := U) (U := U.calling g mk a) (H := U.heap) (Vm.Alike.refl U.vm) q5⟩
theorem pre_of {D : va_G} {Y : Nat → ClassId} {A : Nat → Prop} {ws Wc : va_W} {s : State} {H : Heap} {locs : List Loc} (hK : KV D Y s) (hZ : ZZ A s s.heap) (hP : va_P D vwCl ws H) (hD : va_D A ws) (hS : va_S A s.heap H locs) (hA : ∀ q, s.heap.size ≤ q → A q) (isC : List Nat) (hC : isC.map (fun i => ws[i]?) = Wc.map some) (hn : va_nd isC = true) :
    ∀ U : State, U.heap = H → s.WarmedH U.vm → pre D Y Wc H.size U := by
  intro U hU hW
  subst hU
  have hPc : va_P D vwCl Wc U.heap := hP.sub isC (by
    have h := congrArg (fun l => List.filterMap id l) hC
    simpa [List.filterMap_map, Function.comp_def] using h)
  exact ⟨rfl, hK.warm hW, hPc, (hD.sub isC hn hC).weaken (fun _ _ _ _ => trivial), ((hZ.kept hS.2.1).narrow (va_free hD hS hA isC hC)).moved hW.alike⟩
theorem WS_all : ∀ w ∈ WS, (w.onTables && w.keeps) = true ∨ ∃ ty, w = .arrayClass ty := fun w h => good_of_word (WS_good w h)
theorem gAll {a b : Cond} (hb : b ∈ WS) : GoodIn (a :: WS) (b :: WS) := fun w h => (List.mem_cons.mp h).elim (fun e => e ▸ ⟨List.mem_cons_of_mem _ hb, WS_all b hb⟩) (fun h => ⟨List.mem_cons_of_mem _ h, WS_all w h⟩)
theorem gIn {b : Cond} (hb : b ∈ WS) : GoodIn WS (b :: WS) := fun w h => (List.mem_cons.mp h).elim (fun e => e ▸ ⟨hb, WS_all b hb⟩) (fun h => ⟨h, WS_all w h⟩)
def bp (D : va_G) (A : Nat → Prop) {S : Type} (W1 : S → va_W) : S → State → Prop := fun u t => va_P D vwCl (W1 u) t.heap ∧ va_D A (W1 u)
abbrev QT : Type := (Nat → Prop) → Array Value → State → Outcome → State → Prop
def qI (D : va_G) {S : Type} (post : Int32 → S → Prop) (W1 : S → va_W) : QT := fun A => va_Qi post (bp D A W1) A
def qL (D : va_G) {S : Type} (post : Int64 → S → Prop) (W1 : S → va_W) : QT := fun A => va_Ql post (bp D A W1) A
def qV (D : va_G) {S : Type} (post : S → Prop) (W1 : S → va_W) : QT := fun A => va_Qv post (bp D A W1) A
abbrev XT : Type := (Nat → Prop) → String → State → State → Prop
def qX (px : String → Prop) : XT := fun A => vx_X (fun _ : Unit => True) (fun E _ _ => px E) A
def cM (l : Launch) (D : va_G) (Y : Nat → ClassId) (y : MethodName) (cc : ByteArray) (mL : Nat) (rt : Option FieldType) (d mc ms : Nat) (av : List Value) (Wd : va_W) (Qc : QT) : Prop :=
  ∀ sz : Nat, Met l y (Cond.code y cc mL rt :: WS) (rm d mc ms) (va_Pc av (pre D Y Wd sz)) (Qc (va_A Wd sz)) mc ms (va_A Wd sz)
def xM (l : Launch) (D : va_G) (Y : Nat → ClassId) (y : MethodName) (cc : ByteArray) (mL : Nat) (rt : Option FieldType) (d mc ms : Nat) (av : List Value) (Wd : va_W) (Qc : QT) (px : String → Prop) : Prop :=
  ∀ sz : Nat, vx_Met l y (Cond.code y cc mL rt :: WS) (rm d mc ms) (va_Pc av (pre D Y Wd sz)) (Qc (va_A Wd sz)) (qX px (va_A Wd sz)) mc ms (va_A Wd sz)
/-- a wrapper with an exception table, that returns -/
def hM (l : Launch) (D : va_G) (Y : Nat → ClassId) (y : MethodName) (cc : ByteArray) (mL : Nat) (rt : Option FieldType) (hh : List (Nat × Nat × Nat × Nat)) (d mc ms : Nat) (av : List Value) (Wd : va_W) (Qc : QT) : Prop :=
  ∀ sz : Nat, Met l y (Cond.codeWith y cc mL rt hh :: WS) (rm d mc ms) (va_Pc av (pre D Y Wd sz)) (Qc (va_A Wd sz)) mc ms (va_A Wd sz)
theorem cM.mk {l : Launch} {D : va_G} {Y : Nat → ClassId} {y : MethodName} {cc : ByteArray} {mL : Nat} {rt : Option FieldType} {d mc ms : Nat} {av : List Value} {Wd : va_W} {Qc : QT} (own : String) (hw : y.cls = own) (hy : plainName y.cls = true) (hn : (lg_sl av).length ≤ mL)
    (body : ∀ (p : Program) (e : Env) (s : State) (m : MethodId) (below : List Frame) (meth : Method) (c : Code) (A : Nat → Prop), CallFix p m c cc mL s av.toArray WS own → meth.sig.returnType = rt → meth.locks = false → meth.name = y.name → KV D Y s → ZZ A s s.heap → va_P D vwCl Wd s.heap → va_D A Wd → (∀ q, s.heap.size ≤ q → A q) → va_S A s.heap s.heap [] → ∀ ls : Array Slot, lv_has ls mL (lv_args 0 av) →
      W p l e (rm d mc ms) s m av.toArray below meth c s.heap [] 0 0 (MQ below (Qc A) av.toArray s mc ms A) (F0 m 0 ls [])) : cM l D Y y cc mL rt d mc ms av Wd Qc := by
  intro sz
  refine Met.ofW (cc := cc) (maxL := mL) (ret := rt) hy rfl ?_
  intro p e s m args below meth c s₁ B hml hv
  obtain ⟨rfl, hsz, hK, hP, hD0, hZ⟩ := hv
  have hts := atoms_spec (ws := Cond.code y cc mL rt :: WS) B.pre
  subst hsz
  have hl := lv_entry av (n := mL) hn
  rw [lg_entry_eq]
  exact body p e s m below meth c (va_A Wd s.heap.size) ⟨B.exec, B.bytes, hml, by rw [← hw]; exact findClass_of_methodNamed B.named, fun w h => hts w (List.mem_cons_of_mem _ h)⟩ B.returns B.notSynchronized (name_of_methodNamed B.named B.method).1 hK hZ hP hD0.self (fun q h => Or.inr h) va_S.rf _ hl
theorem xM.mk {l : Launch} {D : va_G} {Y : Nat → ClassId} {y : MethodName} {cc : ByteArray} {mL : Nat} {rt : Option FieldType} {d mc ms : Nat} {av : List Value} {Wd : va_W} {Qc : QT} {px : String → Prop} (own : String) (hw : y.cls = own) (hy : plainName y.cls = true) (hn : (lg_sl av).length ≤ mL)
    (body : ∀ (p : Program) (e : Env) (s : State) (m : MethodId) (below : List Frame) (meth : Method) (c : Code) (A : Nat → Prop), CallFix p m c cc mL s av.toArray WS own → meth.sig.returnType = rt → meth.locks = false → (∀ x ∈ c.exceptionTable.toList, False) → KV D Y s → ZZ A s s.heap → va_P D vwCl Wd s.heap → va_D A Wd → (∀ q, s.heap.size ≤ q → A q) → va_S A s.heap s.heap [] → ∀ ls : Array Slot, lv_has ls mL (lv_args 0 av) →
      W p l e (rm d mc ms) s m av.toArray below meth c s.heap [] 0 0 (vx_MQ below (Qc A) (qX px A) av.toArray s mc ms A) (F0 m 0 ls [])) : xM l D Y y cc mL rt d mc ms av Wd Qc px := by
  intro sz
  refine vx_ofW (cc := cc) (maxL := mL) (ret := rt) hy rfl ?_
  intro p e s m args below meth c s₁ B hml hno hv
  obtain ⟨rfl, hsz, hK, hP, hD0, hZ⟩ := hv
  have hts := atoms_spec (ws := Cond.code y cc mL rt :: WS) B.pre
  subst hsz
  have hl := lv_entry av (n := mL) hn
  rw [lg_entry_eq]
  exact body p e s m below meth c (va_A Wd s.heap.size) ⟨B.exec, B.bytes, hml, by rw [← hw]; exact findClass_of_methodNamed B.named, fun w h => hts w (List.mem_cons_of_mem _ h)⟩ B.returns B.notSynchronized hno hK hZ hP hD0.self (fun q h => Or.inr h) va_S.rf _ hl
section
variable {p : Program} {l : Launch} {e : Env} {R : Room} {s : State} {m : MethodId} {args : Array Value} {below : List Frame} {meth : Method} {c : Code} {H : Heap} {locs : List Loc} {cells slots : Nat} {Q : State → Prop}
variable {cc : ByteArray} {nL : Nat} {own : String} {D : va_G} {Y : Nat → ClassId} {A : Nat → Prop} {ws wr Wc : va_W} {pc : Nat} {ls : Array Slot} {rest st0 : List Value} {index : Nat}
theorem lv_toc {x v : Int32} (h : x = v) (k : W p l e R s m args below meth c H locs cells slots Q (F0 m pc ls (.int v :: rest))) : W p l e R s m args below meth c H locs cells slots Q (F0 m pc ls (.int x :: rest)) := h ▸ k
theorem lv_tol {x v : Int64} (h : x = v) (k : W p l e R s m args below meth c H locs cells slots Q (F0 m pc ls (.long v :: rest))) : W p l e R s m args below meth c H locs cells slots Q (F0 m pc ls (.long x :: rest)) := h ▸ k
theorem gF {C ref : String} {T : u_T} {N ci : Nat} (F : CallFix p m c cc nL s args WS own) (hK : KV D Y s) (hP : va_P D vwCl ws H) {a : Nat} {g : Nat → Value} (q0 : Nat) (he : ws[q0]? = some (a, .inr (ci, fl N g))) (hc : vwCl[ci]? = some (C, T, N)) (hin : ∀ w ∈ u_ws C T N, w ∈ WS) (k : Nat) (hk : k < N) (hlink : Cond.fieldLink own index ref (T k).2.1 (T k).2.2.1 ∈ WS) (hsame : ∀ x, s.fieldFound? (T k).1 (T k).2.1 (T k).2.2.1 = some x → s.fieldFound? ref (T k).2.1 (T k).2.2.1 = some x) {v : Value} (hv : g k = v) (hdg : decode cc pc = .ok (.getfield index, 3))
    (kk : W p l e R s m args below meth c H locs cells slots Q (F0 m (pc + 3) ls (v :: rest))) : W p l e R s m args below meth c H locs cells slots Q (F0 m pc ls (.ref a :: rest)) :=
  va_get F.1 F.2.1 F.2.2.2.2 hin F.2.2.2.1 hK.1 hP q0 he hc k hk (F.2.2.2.2 _ hlink) hsame (fl_get hk hv) hdg kk
theorem pF {C ref : String} {T : u_T} {N ci : Nat} (F : CallFix p m c cc nL s args WS own) (hK : KV D Y s) (hP : va_P D vwCl ws H) (hD : va_D A ws) (hS : va_S A s.heap H locs) {a : Nat} {g : Nat → Value} (q0 : Nat) (he : ws[q0]? = some (a, .inr (ci, fl N g))) (hc : vwCl[ci]? = some (C, T, N)) (hin : ∀ w ∈ u_ws C T N, w ∈ WS) (ty0 : Nat → FieldType) (hty : ∀ k, k < N → parseFieldDescriptor (T k).2.2.1 = some (ty0 k)) (hnm : ∀ a, a < N → ∀ b, b < N → a ≠ b → (T a).2.1 ≠ (T b).2.1) (k : Nat) (hk : k < N) (hlink : Cond.fieldLink own index ref (T k).2.1 (T k).2.2.1 ∈ WS) (hsame : ∀ x, s.fieldFound? (T k).1 (T k).2.1 (T k).2.2.1 = some x → s.fieldFound? ref (T k).2.1 (T k).2.2.1 = some x) (hfin : (T k).2.2.2 = false) {v : Value} (hn : narrow (ty0 k) v = v) (hfit : fits (ty0 k) v = true) (hdg : decode cc pc = .ok (.putfield index, 3))
    (kk : ∀ (H1 : Heap) (locs1 : List Loc), va_P D vwCl (ws.set q0 (a, .inr (ci, fl N (va_up g k v)))) H1 → va_D A (ws.set q0 (a, .inr (ci, fl N (va_up g k v)))) → va_S A s.heap H1 locs1 → W p l e R s m args below meth c H1 locs1 cells slots Q (F0 m (pc + 3) ls rest)) : W p l e R s m args below meth c H locs cells slots Q (F0 m pc ls (v :: .ref a :: rest)) :=
  va_put F.1 F.2.1 F.2.2.2.2 hin ty0 hty hnm F.2.2.2.1 hK.1 hP hD hS q0 he hc k hk (F.2.2.2.2 _ hlink) hsame hfin (hty k hk) hn hfit (by rw [fl_len]; exact hk) hdg (by rw [fl_set]; exact kk)
theorem pFF {C ref : String} {T : u_T} {N ci : Nat} (F : CallFix p m c cc nL s args WS own) (hin2 : meth.name = "<init>") (hK : KV D Y s) (hP : va_P D vwCl ws H) (hD : va_D A ws) (hS : va_S A s.heap H locs) {a : Nat} {g : Nat → Value} (q0 : Nat) (he : ws[q0]? = some (a, .inr (ci, fl N g))) (hc : vwCl[ci]? = some (C, T, N)) (hin : ∀ w ∈ u_ws C T N, w ∈ WS) (ty0 : Nat → FieldType) (hty : ∀ k, k < N → parseFieldDescriptor (T k).2.2.1 = some (ty0 k)) (hnm : ∀ a, a < N → ∀ b, b < N → a ≠ b → (T a).2.1 ≠ (T b).2.1) (k : Nat) (hk : k < N) (hlink : Cond.fieldLink own index ref (T k).2.1 (T k).2.2.1 ∈ WS) (hsame : ∀ x, s.fieldFound? (T k).1 (T k).2.1 (T k).2.2.1 = some x → s.fieldFound? ref (T k).2.1 (T k).2.2.1 = some x) (hfin : (T k).2.2.2 = true) (hdecl : (T k).1 = own) {v : Value} (hn : narrow (ty0 k) v = v) (hfit : fits (ty0 k) v = true) (hdg : decode cc pc = .ok (.putfield index, 3))
    (kk : ∀ (H1 : Heap) (locs1 : List Loc), va_P D vwCl (ws.set q0 (a, .inr (ci, fl N (va_up g k v)))) H1 → va_D A (ws.set q0 (a, .inr (ci, fl N (va_up g k v)))) → va_S A s.heap H1 locs1 → W p l e R s m args below meth c H1 locs1 cells slots Q (F0 m (pc + 3) ls rest)) : W p l e R s m args below meth c H locs cells slots Q (F0 m pc ls (v :: .ref a :: rest)) :=
  va_putF F.1 F.2.1 F.2.2.2.2 hin ty0 hty hnm F.2.2.2.1 hK.1 hP hD hS q0 he hc k hk (F.2.2.2.2 _ hlink) hsame hfin hin2 hdecl (hty k hk) hn hfit (by rw [fl_len]; exact hk) hdg (by rw [fl_set]; exact kk)
theorem nO {C : String} {T : u_T} {N ci : Nat} (F : CallFix p m c cc nL s args WS own) (hK : KV D Y s) (hP : va_P D vwCl ws H) (hD : va_D A ws) (hS : va_S A s.heap H locs) (hA : ∀ q, s.heap.size ≤ q → A q) (hc : vwCl[ci]? = some (C, T, N)) (hin : ∀ w ∈ u_ws C T N, w ∈ WS) (ty0 : Nat → FieldType) (hty : ∀ k, k < N → parseFieldDescriptor (T k).2.2.1 = some (ty0 k)) (h1 : Cond.classLink own index C ∈ WS) (h2 : Cond.instantiable C N ∈ WS) (h3 : Cond.initialized C ∈ WS) (hcells : cells + 1 ≤ R.cells) (hslots : slots + N ≤ R.slots) (hdg : decode cc pc = .ok (.new index, 3))
    (kk : ∀ (q : Nat) (H1 : Heap), va_P D vwCl (ws ++ [(q, .inr (ci, fl N (fun k => defaultValue (ty0 k))))]) H1 → va_D A (ws ++ [(q, .inr (ci, fl N (fun k => defaultValue (ty0 k))))]) → va_S A s.heap H1 locs → W p l e R s m args below meth c H1 locs (cells + 1) (slots + N) Q (F0 m (pc + 3) ls (.ref q :: rest))) : W p l e R s m args below meth c H locs cells slots Q (F0 m pc ls rest) :=
  va_new F.1 F.2.1 F.2.2.2.2 hin ty0 hty F.2.2.2.1 (F.2.2.2.2 _ h1) (F.2.2.2.2 _ h2) (F.2.2.2.2 _ h3) hK.1 hP hD hS hA hc (fun j hj => (fl_V (g := fun k => defaultValue (ty0 k)) hj).symm) hcells hslots hdg kk
theorem nA {atype : ArrayType} {ty : FieldType} {a0 : vp_A} {n : Int32} {N' : Nat} {cA0 : ClassId} (F : CallFix p m c cc nL s args WS own) (hK : KV D Y s) (hP : va_P D vwCl ws H) (hD : va_D A ws) (hS : va_S A s.heap H locs) (hA : ∀ q, s.heap.size ≤ q → A q) (t0 : Nat) (ht : (TT Y)[t0]? = some (cA0, ty)) (hra : ∀ c : ClassId, va_RA s c ty → s.vm.findClass ("[" ++ ty.toString) = some c) (h1 : Cond.arrayClass ty ∈ WS) (hty : newarray.typeOf atype = ty) (ha : ∀ cA : ClassId, vp_cell cA a0 = arrV cA N' (fun _ => defaultValue ty)) (hn : ¬ n < 0) (hN : n.toNatClampNeg = N') (hbytes : N' * componentBytes ty ≤ 536870912) (hcells : cells + 1 ≤ R.cells) (hslots : slots + N' ≤ R.slots) (hdg : decode cc pc = .ok (.newarray atype, 2))
    (kk : ∀ (q : Nat) (H1 : Heap), va_P D vwCl (ws ++ [(q, .inl (cA0, a0))]) H1 → va_D A (ws ++ [(q, .inl (cA0, a0))]) → va_S A s.heap H1 locs → W p l e R s m args below meth c H1 locs (cells + 1) (slots + N') Q (F0 m (pc + 2) ls (.ref q :: rest))) : W p l e R s m args below meth c H locs cells slots Q (F0 m pc ls (.int n :: rest)) := by
  refine va_newa F.1 F.2.1 (by rw [hty]; exact F.2.2.2.2 _ h1) hty hK.1 hP hD hS hA ha hn hN hbytes hcells hslots hdg (fun q cA H1 hK1 hP1 hD1 hS1 => ?_)
  have e1 := hra _ (hK1.2 (TT Y).length (cA, ty) (by simp)).2
  have e2 := hra _ (hK.1.2 t0 (cA0, ty) ht).2
  have e3 : cA = cA0 := Option.some.inj (e1.symm.trans e2)
  subst e3
  exact kk q H1 hP1 hD1 hS1
theorem cbOf (F : CallFix p m c cc nL s args WS own) {y : MethodName} {bytes : ByteArray} {mL : Nat} {rt : Option FieldType} {d mc ms n : Nat} (h1 : Cond.methodLink own index y ∈ WS) (h4 : Cond.initialized y.cls ∈ WS) (h5 : Cond.code y bytes mL rt ∈ WS) (hd : y.cls ≠ "java/lang/invoke/MethodHandle" ∧ y.cls ≠ "java/lang/invoke/VarHandle" ∧ (parseMethodDescriptor y.desc).map (fun d => d.parameters.length) = some n) (hR : 10 * d + 1 ≤ R.frames ∧ 8 + (mL + 11) + 200 * d ≤ R.locals) :
    CallB R s args own index y bytes mL rt (Cond.code y bytes mL rt :: WS) (rm d mc ms) mc ms n :=
  callB_of n F.2.2.2.2 (gIn h5) rfl rfl rfl (F.2.2.2.2 _ h4) (F.2.2.2.2 _ h1) hd hR
theorem runV {n : Nat} {y : MethodName} {bytes : ByteArray} {mL : Nat} {rt : Option FieldType} {d mc ms : Nat} {b : Nat} {As : List Value} {Qc : QT} {ci : Nat} {C : String} {T : u_T} {N : Nat} {fs : List Value} (F : CallFix p m c cc nL s args WS own) (hK : KV D Y s) (hZ : ZZ A s s.heap) (hP : va_P D vwCl ws H) (hD : va_D A ws) (hS : va_S A s.heap H locs) (hA : ∀ q, s.heap.size ≤ q → A q) (hM : cM l D Y y bytes mL rt d mc ms (.ref b :: As) Wc Qc) (q0 : Nat) (he : ws[q0]? = some (b, .inr (ci, fs))) (hc : vwCl[ci]? = some (C, T, N)) (isC : List Nat) (hC : isC.map (fun i => ws[i]?) = Wc.map some) (hn : va_nd isC = true) (h1 : Cond.methodLink own index y ∈ WS) (h2 : Cond.instanceMethod y ∈ WS) (h3 : Cond.selects C y y ∈ WS) (h4 : Cond.initialized y.cls ∈ WS) (h5 : Cond.code y bytes mL rt ∈ WS) (hd : y.cls ≠ "java/lang/invoke/MethodHandle" ∧ y.cls ≠ "java/lang/invoke/VarHandle" ∧ (parseMethodDescriptor y.desc).map (fun d => d.parameters.length) = some n) (hna : As.length = n) (hR : 10 * d + 1 ≤ R.frames ∧ 8 + (mL + 11) + 200 * d ≤ R.locals) (hsize : ls.size = nL) (hst : st0 = As.reverse ++ .ref b :: rest) (hW : (rest.map fun v => v.category).sum ≤ 8) (hdg : decode cc pc = .ok (.invokevirtual index, 3)) (hf : cells + mc ≤ R.cells ∧ slots + ms ≤ R.slots) :
    va_Run p l e R s m args below meth c H locs cells slots mc ms (F0 m pc ls st0) rest (Qc (va_A Wc H.size) (Value.ref b :: As).toArray) (va_A Wc H.size) :=
  va_runV F (hM H.size) ⟨cbOf F h1 h4 h5 hd hR, F.2.2.2.2 _ h2, F.2.2.2.2 _ h3⟩ ⟨pre_blind, va_recv hK.1 hP hc he, fun U hU hW => ⟨rfl, pre_of hK hZ hP hD hS hA isC hC hn U hU hW⟩⟩ rfl hna hsize hst (lv_room hW) hdg hf
theorem runS {n : Nat} {y : MethodName} {bytes : ByteArray} {mL : Nat} {rt : Option FieldType} {d mc ms : Nat} {As : List Value} {Qc : QT} (F : CallFix p m c cc nL s args WS own) (hK : KV D Y s) (hZ : ZZ A s s.heap) (hP : va_P D vwCl ws H) (hD : va_D A ws) (hS : va_S A s.heap H locs) (hA : ∀ q, s.heap.size ≤ q → A q) (hM : cM l D Y y bytes mL rt d mc ms As Wc Qc) (isC : List Nat) (hC : isC.map (fun i => ws[i]?) = Wc.map some) (hn : va_nd isC = true) (h1 : Cond.methodLink own index y ∈ WS) (h2 : Cond.static y ∈ WS) (h4 : Cond.initialized y.cls ∈ WS) (h5 : Cond.code y bytes mL rt ∈ WS) (hd : y.cls ≠ "java/lang/invoke/MethodHandle" ∧ y.cls ≠ "java/lang/invoke/VarHandle" ∧ (parseMethodDescriptor y.desc).map (fun d => d.parameters.length) = some n) (hna : As.length = n) (hR : 10 * d + 1 ≤ R.frames ∧ 8 + (mL + 11) + 200 * d ≤ R.locals) (hsize : ls.size = nL) (hst : st0 = As.reverse ++ rest) (hW : (rest.map fun v => v.category).sum ≤ 8) (hdg : decode cc pc = .ok (.invokestatic index, 3)) (hf : cells + mc ≤ R.cells ∧ slots + ms ≤ R.slots) :
    va_Run p l e R s m args below meth c H locs cells slots mc ms (F0 m pc ls st0) rest (Qc (va_A Wc H.size) As.toArray) (va_A Wc H.size) :=
  va_runS F (hM H.size) ⟨cbOf F h1 h4 h5 hd hR, F.2.2.2.2 _ h2⟩ ⟨pre_blind, fun U hU hW => ⟨rfl, pre_of hK hZ hP hD hS hA isC hC hn U hU hW⟩⟩ rfl hna hsize hst (lv_room hW) hdg hf
theorem runI {n : Nat} {y : MethodName} {bytes : ByteArray} {mL : Nat} {d mc ms : Nat} {b : Nat} {As : List Value} {Qc : QT} (F : CallFix p m c cc nL s args WS own) (hK : KV D Y s) (hZ : ZZ A s s.heap) (hP : va_P D vwCl ws H) (hD : va_D A ws) (hS : va_S A s.heap H locs) (hA : ∀ q, s.heap.size ≤ q → A q) (hM : cM l D Y y bytes mL none d mc ms (.ref b :: As) Wc Qc) (isC : List Nat) (hC : isC.map (fun i => ws[i]?) = Wc.map some) (hn : va_nd isC = true) (h1 : Cond.methodLink own index y ∈ WS) (h2 : Cond.instanceMethod y ∈ WS) (h4 : Cond.initialized y.cls ∈ WS) (h5 : Cond.code y bytes mL none ∈ WS) (hy1 : y.name = "<init>") (hd : y.cls ≠ "java/lang/invoke/MethodHandle" ∧ y.cls ≠ "java/lang/invoke/VarHandle" ∧ (parseMethodDescriptor y.desc).map (fun d => d.parameters.length) = some n) (hna : As.length = n) (hR : 10 * d + 1 ≤ R.frames ∧ 8 + (mL + 11) + 200 * d ≤ R.locals) (hsize : ls.size = nL) (hst : st0 = As.reverse ++ .ref b :: rest) (hW : (rest.map fun v => v.category).sum ≤ 8) (hdg : decode cc pc = .ok (.invokespecial index, 3)) (hf : cells + mc ≤ R.cells ∧ slots + ms ≤ R.slots) :
    va_Run p l e R s m args below meth c H locs cells slots mc ms (F0 m pc ls st0) rest (Qc (va_A Wc H.size) (Value.ref b :: As).toArray) (va_A Wc H.size) :=
  va_runI F (hM H.size) ⟨cbOf F h1 h4 h5 hd hR, hy1, F.2.2.2.2 _ h2⟩ ⟨pre_blind, fun U hU hW => ⟨rfl, pre_of hK hZ hP hD hS hA isC hC hn U hU hW⟩⟩ rfl hna hsize hst (lv_room hW) hdg hf
theorem runIN {n : Nat} {y : MethodName} {bytes : ByteArray} {mL : Nat} {host : String} {d mc ms : Nat} {b : Nat} {As : List Value} {Qc : QT} (F : CallFix p m c cc nL s args WS own) (hK : KV D Y s) (hZ : ZZ A s s.heap) (hP : va_P D vwCl ws H) (hD : va_D A ws) (hS : va_S A s.heap H locs) (hA : ∀ q, s.heap.size ≤ q → A q) (hM : cM l D Y y bytes mL none d mc ms (.ref b :: As) Wc Qc) (isC : List Nat) (hC : isC.map (fun i => ws[i]?) = Wc.map some) (hn : va_nd isC = true) (h1 : va_Nw (.methodLinkNest own index y host) s) (h2 : Cond.instanceMethod y ∈ WS) (h4 : Cond.initialized y.cls ∈ WS) (h5 : Cond.code y bytes mL none ∈ WS) (hy1 : y.name = "<init>") (hd : y.cls ≠ "java/lang/invoke/MethodHandle" ∧ y.cls ≠ "java/lang/invoke/VarHandle" ∧ (parseMethodDescriptor y.desc).map (fun d => d.parameters.length) = some n) (hna : As.length = n) (hR : 10 * d + 1 ≤ R.frames ∧ 8 + (mL + 11) + 200 * d ≤ R.locals) (hsize : ls.size = nL) (hst : st0 = As.reverse ++ .ref b :: rest) (hW : (rest.map fun v => v.category).sum ≤ 8) (hdg : decode cc pc = .ok (.invokespecial index, 3)) (hf : cells + mc ≤ R.cells ∧ slots + ms ≤ R.slots) :
    va_Run p l e R s m args below meth c H locs cells slots mc ms (F0 m pc ls st0) rest (Qc (va_A Wc H.size) (Value.ref b :: As).toArray) (va_A Wc H.size) :=
  va_runIN F (hM H.size) ⟨va_cnB n F.2.2.2.2 (gIn h5) rfl rfl rfl h1 (F.2.2.2.2 _ h4) hd hR, hy1, F.2.2.2.2 _ h2⟩ ⟨pre_blind, fun U hU hW => ⟨rfl, pre_of hK hZ hP hD hS hA isC hC hn U hU hW⟩⟩ rfl hna hsize hst (lv_room hW) hdg hf
theorem xrunV {n : Nat} {y : MethodName} {bytes : ByteArray} {mL : Nat} {rt : Option FieldType} {d mc ms : Nat} {b : Nat} {As : List Value} {Qc : QT} {px : String → Prop} {ci : Nat} {C : String} {T : u_T} {N : Nat} {fs : List Value} (F : CallFix p m c cc nL s args WS own) (hK : KV D Y s) (hZ : ZZ A s s.heap) (hP : va_P D vwCl ws H) (hD : va_D A ws) (hS : va_S A s.heap H locs) (hA : ∀ q, s.heap.size ≤ q → A q) (hM : xM l D Y y bytes mL rt d mc ms (.ref b :: As) Wc Qc px) (q0 : Nat) (he : ws[q0]? = some (b, .inr (ci, fs))) (hc : vwCl[ci]? = some (C, T, N)) (isC : List Nat) (hC : isC.map (fun i => ws[i]?) = Wc.map some) (hn : va_nd isC = true) (h1 : Cond.methodLink own index y ∈ WS) (h2 : Cond.instanceMethod y ∈ WS) (h3 : Cond.selects C y y ∈ WS) (h4 : Cond.initialized y.cls ∈ WS) (h5 : Cond.code y bytes mL rt ∈ WS) (hd : y.cls ≠ "java/lang/invoke/MethodHandle" ∧ y.cls ≠ "java/lang/invoke/VarHandle" ∧ (parseMethodDescriptor y.desc).map (fun d => d.parameters.length) = some n) (hna : As.length = n) (hR : 10 * d + 1 ≤ R.frames ∧ 8 + (mL + 11) + 200 * d ≤ R.locals) (hsize : ls.size = nL) (hst : st0 = As.reverse ++ .ref b :: rest) (hW : (rest.map fun v => v.category).sum ≤ 8) (hdg : decode cc pc = .ok (.invokevirtual index, 3)) (hf : cells + mc ≤ R.cells ∧ slots + ms ≤ R.slots) :
    vx_Run p l e R s m args below meth c H locs cells slots mc ms (F0 m pc ls st0) rest (Qc (va_A Wc H.size) (Value.ref b :: As).toArray) (qX px (va_A Wc H.size)) (va_A Wc H.size) :=
  vx_runV F (hM H.size) ⟨cbOf F h1 h4 h5 hd hR, F.2.2.2.2 _ h2, F.2.2.2.2 _ h3⟩ ⟨pre_blind, va_recv hK.1 hP hc he, fun U hU hW => ⟨rfl, pre_of hK hZ hP hD hS hA isC hC hn U hU hW⟩⟩ rfl hna hsize hst (lv_room hW) hdg hf
theorem goI {S : Type} {post : Int32 → S → Prop} {W1 : S → va_W} {mc ms : Nat} {a : Array Value} (hr : va_Run p l e R s m args below meth c H locs cells slots mc ms (F0 m pc ls st0) rest (qI D post W1 (va_A Wc H.size) a) (va_A Wc H.size)) (hP : va_P D vwCl ws H) (hD : va_D A ws) (hS : va_S A s.heap H locs) (hA : ∀ q, s.heap.size ≤ q → A q) (isC isR : List Nat) (hC : isC.map (fun i => ws[i]?) = Wc.map some) (hR : isR.map (fun i => ws[i]?) = wr.map some) (hn : va_nd isR = true) (hdis : ∀ i ∈ isR, i ∉ isC)
    (kk : ∀ (r : Int32) (u : S) (H1 : Heap) (locs1 : List Loc), post r u → va_P D vwCl (wr ++ W1 u) H1 → va_D A (wr ++ W1 u) → va_S A s.heap H1 locs1 → W p l e R s m args below meth c H1 locs1 (cells + mc) (slots + ms) Q (F0 m (pc + 3) ls (.int r :: rest))) : W p l e R s m args below meth c H locs cells slots Q (F0 m pc ls st0) := by
  have hFc := va_free hD hS hA isC hC
  refine va_calli hr hS (fun q _ h => hFc q h) hFc (fun r u t H1 locs1 ht hvm hw hB hz1 hk1 hS1 => ?_)
  obtain ⟨hP1, hD1⟩ := hB
  rw [ht] at hP1
  obtain ⟨hP2, hD2⟩ := va_join hP hD isC isR hC hR hn hdis hk1 hFc hP1 hD1
  exact kk r u H1 locs1 hw hP2 hD2 hS1
theorem goL {S : Type} {post : Int64 → S → Prop} {W1 : S → va_W} {mc ms : Nat} {a : Array Value} (hr : va_Run p l e R s m args below meth c H locs cells slots mc ms (F0 m pc ls st0) rest (qL D post W1 (va_A Wc H.size) a) (va_A Wc H.size)) (hP : va_P D vwCl ws H) (hD : va_D A ws) (hS : va_S A s.heap H locs) (hA : ∀ q, s.heap.size ≤ q → A q) (isC isR : List Nat) (hC : isC.map (fun i => ws[i]?) = Wc.map some) (hR : isR.map (fun i => ws[i]?) = wr.map some) (hn : va_nd isR = true) (hdis : ∀ i ∈ isR, i ∉ isC)
    (kk : ∀ (r : Int64) (u : S) (H1 : Heap) (locs1 : List Loc), post r u → va_P D vwCl (wr ++ W1 u) H1 → va_D A (wr ++ W1 u) → va_S A s.heap H1 locs1 → W p l e R s m args below meth c H1 locs1 (cells + mc) (slots + ms) Q (F0 m (pc + 3) ls (.long r :: rest))) : W p l e R s m args below meth c H locs cells slots Q (F0 m pc ls st0) := by
  have hFc := va_free hD hS hA isC hC
  refine va_calll hr hS (fun q _ h => hFc q h) hFc (fun r u t H1 locs1 ht hvm hw hB hz1 hk1 hS1 => ?_)
  obtain ⟨hP1, hD1⟩ := hB
  rw [ht] at hP1
  obtain ⟨hP2, hD2⟩ := va_join hP hD isC isR hC hR hn hdis hk1 hFc hP1 hD1
  exact kk r u H1 locs1 hw hP2 hD2 hS1
theorem goV {S : Type} {post : S → Prop} {W1 : S → va_W} {mc ms : Nat} {a : Array Value} (hr : va_Run p l e R s m args below meth c H locs cells slots mc ms (F0 m pc ls st0) rest (qV D post W1 (va_A Wc H.size) a) (va_A Wc H.size)) (hP : va_P D vwCl ws H) (hD : va_D A ws) (hS : va_S A s.heap H locs) (hA : ∀ q, s.heap.size ≤ q → A q) (isC isR : List Nat) (hC : isC.map (fun i => ws[i]?) = Wc.map some) (hR : isR.map (fun i => ws[i]?) = wr.map some) (hn : va_nd isR = true) (hdis : ∀ i ∈ isR, i ∉ isC)
    (kk : ∀ (u : S) (H1 : Heap) (locs1 : List Loc), post u → va_P D vwCl (wr ++ W1 u) H1 → va_D A (wr ++ W1 u) → va_S A s.heap H1 locs1 → W p l e R s m args below meth c H1 locs1 (cells + mc) (slots + ms) Q (F0 m (pc + 3) ls rest)) : W p l e R s m args below meth c H locs cells slots Q (F0 m pc ls st0) := by
  have hFc := va_free hD hS hA isC hC
  refine va_callv hr hS (fun q _ h => hFc q h) hFc (fun u t H1 locs1 ht hvm hw hB hz1 hk1 hS1 => ?_)
  obtain ⟨hP1, hD1⟩ := hB
  rw [ht] at hP1
  obtain ⟨hP2, hD2⟩ := va_join hP hD isC isR hC hR hn hdis hk1 hFc hP1 hD1
  exact kk u H1 locs1 hw hP2 hD2 hS1
theorem restP (hP : va_P D vwCl ws H) (hD : va_D A ws) (isC isR : List Nat) (hC : isC.map (fun i => ws[i]?) = Wc.map some) (hR : isR.map (fun i => ws[i]?) = wr.map some) (hn : va_nd isR = true) (hdis : ∀ i ∈ isR, i ∉ isC) {H1 : Heap} (hk : ∀ q : Nat, q < H.size → ¬ va_A Wc H.size q → H1[q]? = H[q]?) (hF : ∀ q, va_A Wc H.size q → A q) : va_P D vwCl wr H1 ∧ va_D A wr := by
  obtain ⟨h1, h2⟩ := va_join (w1 := []) hP hD isC isR hC hR hn hdis hk hF (fun k q h => by simp at h) ⟨fun i j p q h => by simp at h, fun k q h => by simp at h⟩
  rw [List.append_nil] at h1 h2
  exact ⟨h1, h2⟩
theorem xgoI {S : Type} {post : Int32 → S → Prop} {W1 : S → va_W} {px : String → Prop} {mc ms : Nat} {a : Array Value} (hr : vx_Run p l e R s m args below meth c H locs cells slots mc ms (F0 m pc ls st0) rest (qI D post W1 (va_A Wc H.size) a) (qX px (va_A Wc H.size)) (va_A Wc H.size)) (hP : va_P D vwCl ws H) (hD : va_D A ws) (hS : va_S A s.heap H locs) (hA : ∀ q, s.heap.size ≤ q → A q) (isC isR : List Nat) (hC : isC.map (fun i => ws[i]?) = Wc.map some) (hR : isR.map (fun i => ws[i]?) = wr.map some) (hn : va_nd isR = true) (hdis : ∀ i ∈ isR, i ∉ isC)
    (kx : ∀ (E : String) (ce : Cell) (q9 : Addr) (H1 : Heap) (locs1 : List Loc), px E → va_P D vwCl wr H1 → va_D A wr → va_S A s.heap H1 locs1 → H1[q9]? = some ce → ce.vm = .none → s.vm.findClass E = some ce.cls → vx_W p l e R s m args below meth c H1 locs1 (cells + mc) (slots + ms) Q (F0 m pc ls rest) q9)
    (kk : ∀ (r : Int32) (u : S) (H1 : Heap) (locs1 : List Loc), post r u → va_P D vwCl (wr ++ W1 u) H1 → va_D A (wr ++ W1 u) → va_S A s.heap H1 locs1 → W p l e R s m args below meth c H1 locs1 (cells + mc) (slots + ms) Q (F0 m (pc + 3) ls (.int r :: rest))) : W p l e R s m args below meth c H locs cells slots Q (F0 m pc ls st0) := by
  have hFc := va_free hD hS hA isC hC
  refine vx_calli hr hS (fun q _ h => hFc q h) hFc (fun q _ h => hFc q h) (fun E ce q9 u t H1 locs1 ht hvm _ hE hz1 hk1 hS1 h1 h2 h3 => ?_) (fun r u t H1 locs1 ht hvm hw hB hz1 hk1 hS1 => ?_)
  · obtain ⟨hP2, hD2⟩ := restP hP hD isC isR hC hR hn hdis hk1 hFc
    exact kx E ce q9 H1 locs1 hE hP2 hD2 hS1 h1 h2 h3
  · obtain ⟨hP1, hD1⟩ := hB
    rw [ht] at hP1
    obtain ⟨hP2, hD2⟩ := va_join hP hD isC isR hC hR hn hdis hk1 hFc hP1 hD1
    exact kk r u H1 locs1 hw hP2 hD2 hS1
theorem xgoV {S : Type} {post : S → Prop} {W1 : S → va_W} {px : String → Prop} {mc ms : Nat} {a : Array Value} (hr : vx_Run p l e R s m args below meth c H locs cells slots mc ms (F0 m pc ls st0) rest (qV D post W1 (va_A Wc H.size) a) (qX px (va_A Wc H.size)) (va_A Wc H.size)) (hP : va_P D vwCl ws H) (hD : va_D A ws) (hS : va_S A s.heap H locs) (hA : ∀ q, s.heap.size ≤ q → A q) (isC isR : List Nat) (hC : isC.map (fun i => ws[i]?) = Wc.map some) (hR : isR.map (fun i => ws[i]?) = wr.map some) (hn : va_nd isR = true) (hdis : ∀ i ∈ isR, i ∉ isC)
    (kx : ∀ (E : String) (ce : Cell) (q9 : Addr) (H1 : Heap) (locs1 : List Loc), px E → va_P D vwCl wr H1 → va_D A wr → va_S A s.heap H1 locs1 → H1[q9]? = some ce → ce.vm = .none → s.vm.findClass E = some ce.cls → vx_W p l e R s m args below meth c H1 locs1 (cells + mc) (slots + ms) Q (F0 m pc ls rest) q9)
    (kk : ∀ (u : S) (H1 : Heap) (locs1 : List Loc), post u → va_P D vwCl (wr ++ W1 u) H1 → va_D A (wr ++ W1 u) → va_S A s.heap H1 locs1 → W p l e R s m args below meth c H1 locs1 (cells + mc) (slots + ms) Q (F0 m (pc + 3) ls rest)) : W p l e R s m args below meth c H locs cells slots Q (F0 m pc ls st0) := by
  have hFc := va_free hD hS hA isC hC
  refine vx_callv hr hS (fun q _ h => hFc q h) hFc (fun q _ h => hFc q h) (fun E ce q9 u t H1 locs1 ht hvm _ hE hz1 hk1 hS1 h1 h2 h3 => ?_) (fun u t H1 locs1 ht hvm hw hB hz1 hk1 hS1 => ?_)
  · obtain ⟨hP2, hD2⟩ := restP hP hD isC isR hC hR hn hdis hk1 hFc
    exact kx E ce q9 H1 locs1 hE hP2 hD2 hS1 h1 h2 h3
  · obtain ⟨hP1, hD1⟩ := hB
    rw [ht] at hP1
    obtain ⟨hP2, hD2⟩ := va_join hP hD isC isR hC hR hn hdis hk1 hFc hP1 hD1
    exact kk u H1 locs1 hw hP2 hD2 hS1
theorem xOut {Qc : Array Value → State → Outcome → State → Prop} {px : String → Prop} {E : String} {ce : Cell} {q9 : Addr} {mc ms : Nat} (hno : ∀ x ∈ c.exceptionTable.toList, False) (hlocks : meth.locks = false) (hE : px E) (hS : va_S A s.heap H locs) (h1 : H[q9]? = some ce) (h2 : ce.vm = .none) (h3 : s.vm.findClass E = some ce.cls) (hc : cells ≤ mc) (hs : slots ≤ ms) :
    vx_W p l e R s m args below meth c H locs cells slots (vx_MQ below Qc (qX px A) args s mc ms A) (F0 m pc ls rest) q9 :=
  vx_out (fun x hx => (hno x hx).elim) hlocks h1 h2 h3 (fun t ht _ => ⟨(), trivial, hE, hS.F ht⟩) hS.2.2 hc hs
theorem retI {S : Type} {post : Int32 → S → Prop} {W1 : S → va_W} {mc ms : Nat} {v : Int32} (F : CallFix p m c cc nL s args WS own) {ty : FieldType} (hr : meth.sig.returnType = some ty) (hlocks : meth.locks = false) (hnar : narrow ty (.int v) = .int v) (hP : va_P D vwCl ws H) (hD : va_D A ws) (hS : va_S A s.heap H locs) (u : S) (is : List Nat) (hn : va_nd is = true) (hi : is.map (fun i => ws[i]?) = (W1 u).map some) (hc : cells ≤ mc) (hs : slots ≤ ms) (hdg : decode cc pc = .ok (.ireturn, 1)) (hp : post v u) :
    W p l e R s m args below meth c H locs cells slots (MQ below (qI D post W1 A) args s mc ms A) (F0 m pc ls [.int v]) := by
  refine W.widen (k := mc) (n := ms) hc hs ?_
  refine W.zret (v := v) F.1 F.2.1 hr hnar (fun t ht hW => ⟨⟨v, u, rfl, hp, ?_, hD.sub is hn hi⟩, hS.F ht⟩) hS.2.2 hdg hlocks
  rw [ht]
  exact hP.sub is (by
    have h := congrArg (fun l => List.filterMap id l) hi
    simpa [List.filterMap_map, Function.comp_def] using h)
theorem retL {S : Type} {post : Int64 → S → Prop} {W1 : S → va_W} {mc ms : Nat} {v : Int64} (F : CallFix p m c cc nL s args WS own) (hr : meth.sig.returnType = some .long) (hlocks : meth.locks = false) (hP : va_P D vwCl ws H) (hD : va_D A ws) (hS : va_S A s.heap H locs) (u : S) (is : List Nat) (hn : va_nd is = true) (hi : is.map (fun i => ws[i]?) = (W1 u).map some) (hc : cells ≤ mc) (hs : slots ≤ ms) (hdg : decode cc pc = .ok (.lreturn, 1)) (hp : post v u) :
    W p l e R s m args below meth c H locs cells slots (MQ below (qL D post W1 A) args s mc ms A) (F0 m pc ls [.long v]) := by
  refine W.widen (k := mc) (n := ms) hc hs ?_
  refine W.lret (v := v) F.1 F.2.1 hr (fun t ht hW => ⟨⟨v, u, rfl, hp, ?_, hD.sub is hn hi⟩, hS.F ht⟩) hS.2.2 hdg hlocks
  rw [ht]
  exact hP.sub is (by
    have h := congrArg (fun l => List.filterMap id l) hi
    simpa [List.filterMap_map, Function.comp_def] using h)
theorem retV {S : Type} {post : S → Prop} {W1 : S → va_W} {mc ms : Nat} (F : CallFix p m c cc nL s args WS own) (hr : meth.sig.returnType = none) (hlocks : meth.locks = false) (hP : va_P D vwCl ws H) (hD : va_D A ws) (hS : va_S A s.heap H locs) (u : S) (is : List Nat) (hn : va_nd is = true) (hi : is.map (fun i => ws[i]?) = (W1 u).map some) (hc : cells ≤ mc) (hs : slots ≤ ms) (hdg : decode cc pc = .ok (.return_, 1)) (hp : post u) :
    W p l e R s m args below meth c H locs cells slots (MQ below (qV D post W1 A) args s mc ms A) (F0 m pc ls []) := by
  refine W.widen (k := mc) (n := ms) hc hs ?_
  refine W.vret F.1 F.2.1 hr (fun t ht hW => ⟨⟨u, rfl, hp, ?_, hD.sub is hn hi⟩, hS.F ht⟩) hS.2.2 hdg hlocks
  rw [ht]
  exact hP.sub is (by
    have h := congrArg (fun l => List.filterMap id l) hi
    simpa [List.filterMap_map, Function.comp_def] using h)
theorem dropW (hP : va_P D vwCl ws H) (hD : va_D A ws) (is : List Nat) (hn : va_nd is = true) (hi : is.map (fun i => ws[i]?) = wr.map some) : va_P D vwCl wr H ∧ va_D A wr :=
  ⟨hP.sub is (by
    have h := congrArg (fun l => List.filterMap id l) hi
    simpa [List.filterMap_map, Function.comp_def] using h), hD.sub is hn hi⟩
theorem nTop {C : String} {T : u_T} {N : Nat} {x : Nat} (hin : ∀ w ∈ u_ws C T N, w ∈ WS) (hx : x = x) : True := trivial
theorem oInit (F : CallFix p m c cc nL s args WS own) (h1 : Cond.methodLink own index objectInit ∈ WS) (h2 : Cond.instanceMethod objectInit ∈ WS) (h3 : Cond.code objectInit ⟨#[0xb1]⟩ 1 none ∈ WS) {a : Nat} (hsize : ls.size = nL) (hdg : decode cc pc = .ok (.invokespecial index, 3)) (hf : 1 ≤ R.frames) (hlo : (rest.map fun v => v.category).sum + 12 ≤ R.locals)
    (kk : W p l e R s m args below meth c H locs cells slots Q (F0 m (pc + 3) ls rest)) : W p l e R s m args below meth c H locs cells slots Q (F0 m pc ls (.ref a :: rest)) := by
  refine W.objInit F.1 F.2.1 F.2.2.2.1 (F.2.2.2.2 _ h1) (F.2.2.2.2 _ h2) (F.2.2.2.2 _ h3) rfl (by rw [F.2.2.1]; exact hsize) rfl hdg hf (by simpa [JFrame.monitorRoom] using hlo) ?_
  exact W.eq (g2 := F0 m (pc + 3) ls rest) rfl kk
end
section
variable {p : Program} {l : Launch} {e : Env} {R : Room} {s : State} {m : MethodId} {args : Array Value} {below : List Frame} {meth : Method} {c : Code} {H : Heap} {locs : List Loc} {cells slots : Nat} {Q : State → Prop}
variable {cc : ByteArray} {nL : Nat} {own : String} {D : va_G} {Y : Nat → ClassId} {A : Nat → Prop} {pc : Nat} {ls : Array Slot} {rest st0 : List Value} {index : Nat}
abbrev nmsE : List String := ["java/lang/RuntimeException", "java/lang/Exception"]
theorem hat_iae (F : CallFix p m c cc nL s args WS own) (hc : va_Nw (.castable iae iae) s) (hd : KD s) : ∀ w ∈ vx_atS RX9 296 iae nmsE, w.before args s = true :=
  vx_hat (B := [.castable iae iae, .declares (Bundle.initS "java/lang/RuntimeException"), .declares (Bundle.initS "java/lang/Exception"), .declares (Bundle.initS Bundle.tN)]) (fun w h => F.2.2.2.2 w (WS_e2 w h)) (by decide +kernel) (vx_c (va_Nw.use rfl hc) (vx_c (va_Nw.use rfl hd.1) (vx_c (va_Nw.use rfl hd.2.1) (vx_c (va_Nw.use rfl hd.2.2) vx_n))))
theorem hgo_iae : ∀ w ∈ Cond.classLink RX9 292 iae :: Cond.initialized iae :: vx_atS RX9 296 iae nmsE, vx_ot w = true := by decide +kernel
theorem xF {t : State} (hS : va_S A s.heap H locs) (h1 : H.size ≤ t.heap.size) (h2 : ∀ q : Nat, q < H.size → t.heap[q]? = H[q]?) : va_F A s t :=
  ⟨Nat.le_trans hS.1 h1, fun q hq hn => (h2 q (Nat.lt_of_lt_of_le hq hS.1)).trans (hS.2.1 q hq hn)⟩
theorem thrI {px : String → Prop} {Qc : Array Value → State → Outcome → State → Prop} {mc ms : Nat} (F : CallFix p m c cc nL s args WS RX9) (hfl : l.stackTraces = false) (hK : KV D Y s) (hZ : ZZ A s s.heap) (hS : va_S A s.heap H locs) (hno : ∀ x ∈ c.exceptionTable.toList, False) (hlocks : meth.locks = false) (hsize : ls.size = nL) (h1 : Cond.classLink RX9 292 iae ∈ WS) (h2 : Cond.initialized iae ∈ WS) (d0 : decode cc pc = .ok (.new 292, 3)) (d3 : decode cc (pc + 3) = .ok (.dup, 1)) (d4 : decode cc (pc + 4) = .ok (.ldc_w 294, 3)) (d7 : decode cc (pc + 7) = .ok (.invokespecial 296, 3)) (d10 : decode cc (pc + 10) = .ok (.athrow, 1)) (hE : px iae) (hRf : 5 < R.frames) (hRl : 82 ≤ R.locals) (hRc : cells + 1 ≤ R.cells) (hRs : slots + 6 ≤ R.slots) (hc : cells + 1 ≤ mc) (hs : slots + 6 ≤ ms) :
    W p l e R s m args below meth c H locs cells slots (vx_MQ below Qc (qX px A) args s mc ms A) (F0 m pc ls []) := by
  obtain ⟨sa, hstr⟩ := hK.2.2.1
  exact vx_throwSW (names := nmsE) F.1 F.2.1 hfl F.2.2.2.1 (by decide) (by decide) (F.2.2.2.2 _ h1) (F.2.2.2.2 _ h2) hstr (hat_iae F hK.2.2.2.2.2.2.1 hK.2.2.2.2.2.2.2.2) hgo_iae hZ.1 hZ.2 hS (by rw [F.2.2.1]; exact hsize) d0 d3 d4 d7 d10 (fun x hx => (hno x hx).elim) hRf hRl hRc hRs hlocks (fun t _ h1 h2 => ⟨(), trivial, hE, xF hS h1 h2⟩) hS.2.2 hc hs
end
theorem loopN {p : Program} {l : Launch} {e : Env} {R : Room} {s : State} {m : MethodId} {args : Array Value} {below : List Frame} {meth : Method} {c : Code} {H : Heap} {locs : List Loc} {cells slots : Nat} {Q : State → Prop} {ls : Array Slot} {X : Type} (N : Nat) (I : Nat → X → Heap → List Loc → Array Slot → Prop) (hd : Nat)
    (h0 : ∀ (x : X) (H : Heap) (locs : List Loc) (ls : Array Slot), I N x H locs ls → W p l e R s m args below meth c H locs cells slots Q (F0 m hd ls []))
    (hs : ∀ (i : Nat) (x : X) (H : Heap) (locs : List Loc) (ls : Array Slot), i < N → I i x H locs ls → (∀ (x' : X) (H' : Heap) (locs' : List Loc) (ls' : Array Slot), I (i + 1) x' H' locs' ls' → W p l e R s m args below meth c H' locs' cells slots Q (F0 m hd ls' [])) → W p l e R s m args below meth c H locs cells slots Q (F0 m hd ls []))
    (i : Nat) (x : X) (hi : i ≤ N) (hI : I i x H locs ls) : W p l e R s m args below meth c H locs cells slots Q (F0 m hd ls []) := by
  have key : ∀ (k i : Nat) (x : X) (H : Heap) (locs : List Loc) (ls : Array Slot), i + k = N → I i x H locs ls → W p l e R s m args below meth c H locs cells slots Q (F0 m hd ls []) := by
    intro k
    induction k with
    | zero =>
      intro i x H locs ls hk hI
      have : i = N := by omega
      subst this
      exact h0 x H locs ls hI
    | succ k ih =>
      intro i x H locs ls hk hI
      exact hs i x H locs ls (by omega) hI (fun x' H' locs' ls' hI' => ih (i + 1) x' H' locs' ls' (by omega) hI')
  exact key (N - i) i x H locs ls (by omega) hI
theorem gS {own : String} {index : Nat} {y : MethodName} {w : Cond} (h1 : Cond.methodLink own index y ∈ WS) (h2 : Cond.static y ∈ WS) (h4 : Cond.initialized y.cls ∈ WS) (h5 : w ∈ WS) : GoodIn WS (va_wsS own index y (w :: WS)) := by
  intro x hx
  have hm : x ∈ WS := by
    rcases List.mem_append.mp hx with h | h
    · simp only [List.mem_cons, List.not_mem_nil, or_false] at h
      rcases h with rfl | rfl | rfl
      · exact h1
      · exact h2
      · exact h4
    · rcases List.mem_cons.mp h with rfl | h
      · exact h5
      · exact h
  exact ⟨hm, WS_all x hm⟩
theorem hM.mk {l : Launch} {D : va_G} {Y : Nat → ClassId} {y : MethodName} {cc : ByteArray} {mL : Nat} {rt : Option FieldType} {hh : List (Nat × Nat × Nat × Nat)} {d mc ms : Nat} {av : List Value} {Wd : va_W} {Qc : QT} (own : String) (hw : y.cls = own) (hy : plainName y.cls = true) (hn : (lg_sl av).length ≤ mL)
    (body : ∀ (p : Program) (e : Env) (s : State) (m : MethodId) (below : List Frame) (meth : Method) (c : Code) (A : Nat → Prop), CallFix p m c cc mL s av.toArray WS own → meth.sig.returnType = rt → meth.locks = false → c.exceptionTable.toList = tableOf hh → KV D Y s → ZZ A s s.heap → va_P D vwCl Wd s.heap → va_D A Wd → (∀ q, s.heap.size ≤ q → A q) → va_S A s.heap s.heap [] → ∀ ls : Array Slot, lv_has ls mL (lv_args 0 av) →
      W p l e (rm d mc ms) s m av.toArray below meth c s.heap [] 0 0 (MQ below (Qc A) av.toArray s mc ms A) (F0 m 0 ls [])) : hM l D Y y cc mL rt hh d mc ms av Wd Qc := by
  intro sz
  refine va_MetW (cc := cc) (maxL := mL) (ret := rt) (hh := hh) hy rfl ?_
  intro p e s m args below meth c s₁ B hml hv
  obtain ⟨rfl, hsz, hK, hP, hD0, hZ⟩ := hv
  have hts := atoms_spec (ws := Cond.codeWith y cc mL rt hh :: WS) B.pre
  subst hsz
  have hl := lv_entry av (n := mL) hn
  rw [lg_entry_eq]
  exact body p e s m below meth c (va_A Wd s.heap.size) ⟨B.exec, B.bytes, hml, by rw [← hw]; exact findClass_of_methodNamed B.named, fun w h => hts w (List.mem_cons_of_mem _ h)⟩ B.returns B.notSynchronized (vx_table (x := y) B (hts _ List.mem_cons_self)) hK hZ hP hD0.self (fun q h => Or.inr h) va_S.rf _ hl
theorem runH {p : Program} {l : Launch} {e : Env} {R : Room} {s : State} {m : MethodId} {args : Array Value} {below : List Frame} {meth : Method} {c : Code} {H : Heap} {locs : List Loc} {cells slots : Nat} {cc : ByteArray} {nL : Nat} {own : String} {D : va_G} {Y : Nat → ClassId} {A : Nat → Prop} {ws Wc : va_W} {pc : Nat} {ls : Array Slot} {rest st0 : List Value} {index : Nat} {n : Nat} {y : MethodName} {bytes : ByteArray} {mL : Nat} {rt : Option FieldType} {hh : List (Nat × Nat × Nat × Nat)} {d mc ms : Nat} {As : List Value} {Qc : QT} (F : CallFix p m c cc nL s args WS own) (hK : KV D Y s) (hZ : ZZ A s s.heap) (hP : va_P D vwCl ws H) (hD : va_D A ws) (hS : va_S A s.heap H locs) (hA : ∀ q, s.heap.size ≤ q → A q) (hQ : hM l D Y y bytes mL rt hh d mc ms As Wc Qc) (isC : List Nat) (hC : isC.map (fun i => ws[i]?) = Wc.map some) (hn : va_nd isC = true) (h1 : Cond.methodLink own index y ∈ WS) (h2 : Cond.static y ∈ WS) (h4 : Cond.initialized y.cls ∈ WS) (h5 : Cond.codeWith y bytes mL rt hh ∈ WS) (hd : y.cls ≠ "java/lang/invoke/MethodHandle" ∧ y.cls ≠ "java/lang/invoke/VarHandle" ∧ (parseMethodDescriptor y.desc).map (fun d => d.parameters.length) = some n) (hna : As.length = n) (hR : 10 * d + 1 ≤ R.frames ∧ 8 + (mL + 11) + 200 * d ≤ R.locals) (hsize : ls.size = nL) (hst : st0 = As.reverse ++ rest) (hW : (rest.map fun v => v.category).sum ≤ 8) (hdg : decode cc pc = .ok (.invokestatic index, 3)) (hf : cells + mc ≤ R.cells ∧ slots + ms ≤ R.slots) :
    va_Run p l e R s m args below meth c H locs cells slots mc ms (F0 m pc ls st0) rest (Qc (va_A Wc H.size) As.toArray) (va_A Wc H.size) :=
  vx_runSW F (hQ H.size) (vx_cwSW n F.2.2.2.2 (gS h1 h2 h4 h5) rfl rfl rfl hd hR) ⟨pre_blind, fun U hU hW => ⟨rfl, pre_of hK hZ hP hD hS hA isC hC hn U hU hW⟩⟩ rfl hna hsize hst (lv_room hW) hdg hf
theorem cM.cast {l : Launch} {D : va_G} {Y : Nat → ClassId} {y : MethodName} {cc : ByteArray} {mL : Nat} {rt : Option FieldType} {d mc ms : Nat} {av av' : List Value} {Wd : va_W} {Qc : QT} (h : cM l D Y y cc mL rt d mc ms av Wd Qc) (e : av = av') : cM l D Y y cc mL rt d mc ms av' Wd Qc := e ▸ h
end
section
section
variable {p : Program} {l : Launch} {e : Env} {R : Room} {s : State} {m₀ : MethodId} {args : Array Value} {below : List Frame} {meth : Method} {c : Code} {W : State} {locs : List Loc} {cells slots : Nat}
set_option maxHeartbeats 1000000 in
theorem nx_ctorMade (X : Stand p l e R s m₀ args below meth c W locs cells slots) (hexec : p.tables.exec = Jvm.exec) (htr : e.platform.stackTraces = false) {own : String} {ic : Nat}
    (hown : s.vm.findClass own = some m₀.cls)
    (h : ∀ a ∈ nsW own ic, a.before args s = true)
    (hlocs : ∀ x ∈ locs, ∀ cell, s.heap[x.base]? = some cell → cell.vm.isStatics = false)
    {a : Addr} {cX : ClassId} {kX : Class} (hfoundX : s.vm.findClass nse = some cX) (hkX : s.vm.classes[cX]? = some kX) (hcell : W.heap[a]? = some (freshCell cX kX)) (hnew : s.heap.size ≤ a)
    {msg : Value} (hmsg : msg.isRef = true)
    {g : JFrame} (hg : g.method = m₀) (hsize : g.locals.size = c.maxLocals) {rest : List Value} (hstack : g.stack = msg :: .ref a :: .ref a :: rest)
    (hd6 : decode c.code g.pc = .ok (.invokespecial ic, 3))
    (hRframes : 2 + 3 < R.frames) (hRlocals : 2 * g.monitorRoom + ((Value.ref a :: rest).map fun v => v.category).sum + (13 * (2 + 1) + 42) ≤ R.locals) :
    ∃ (V : State) (ce : Cell) (L : List Loc), Stand p l e R s m₀ args below meth c (V.setCell a ce) (locs ++ L) cells slots ∧ (∀ y ∈ L, y.base = a) ∧ a < V.heap.size ∧ ce.cls = cX ∧ ce.vm = .none ∧
      ∀ target, Steps p.tables e below ((V.setCell a ce).setTop { g with stack := .ref a :: rest, pc := g.pc + 3 }) target → Steps p.tables e below (W.setTop g) target := by
  have howns : e.platform.frameOwnsMonitors = true := by rw [X.admits.platform]
  have hfin : e.platform.finalization = false := by rw [X.admits.platform]
  have hpl : e.platform.magicAccessors = ({} : Platform).magicAccessors := by rw [X.admits.platform]
  have a' : ∀ x, x ∈ nsW own ic → x.holds args s none s [] = true := fun x hx => h x hx
  obtain ⟨T, Z0, L, -, Y⟩ := ThrowableC.of_atoms (args := args) howns hfin hpl (fun x hx => h x (by simp [nsW, hx]))
  obtain ⟨Z, M, LZ, LM, hnZ⟩ := Init0T.ofS_atoms (args := args) hpl L Y (fun x hx => h x (by simp [nsW, hx]))
  obtain ⟨P1, L1, hP1m, hP1s⟩ := PassC.ofS_atoms (args := args) (s := s) hpl (X := nse) (Y := "java/lang/RuntimeException") (index := 13) (bytes := rxN) (by decide) (by decide) (by decide +kernel) (by decide +kernel) (by decide +kernel) (by decide +kernel) (fun x hx => h x (by simp [nsW, hx]))
  obtain ⟨P2, Ps2, hlen2, L2, hL2, hP2m, hlink2, hpass2⟩ := Bundle.chainS (args := args) hpl hnZ ["java/lang/Exception"] "java/lang/RuntimeException" (by decide) (by decide) (fun x hx => h x (by simp [nsW, hx]))
  obtain ⟨Ps, hPs⟩ : ∃ z, z = P2 :: Ps2 := ⟨_, rfl⟩
  have hlen : Ps.length = 2 := by rw [hPs, List.length_cons, hlen2]; rfl
  have hL : ∀ P, P ∈ Ps → P.LinksS e.platform s := fun P hP => by
    rw [hPs] at hP
    rcases List.mem_cons.mp hP with rfl | hP
    · exact L2
    · exact hL2 P hP
  have hlink1 : P1.sup = firstOf (Z.m T.toThrowableT) (Ps.map (·.toPassT)) := by rw [hPs]; exact Option.some.inj (hP1s.symm.trans hP2m)
  have hlink : PassesOn (Z.m T.toThrowableT) (Ps.map (·.toPassT)) := by rw [hPs]; exact ⟨hlink2, hpass2⟩
  have hfound : s.vm.findClass nse = some P1.m.cls := findClass_of_methodNamed hP1m
  cases Option.some.inj (hfoundX.symm.trans hfound)
  obtain ⟨c1, kX', hc1, hk, hord, -, -, hn6⟩ := Cond.instantiable_spec (a' (.instantiable nse 6) (by simp [nsW, nsT]))
  cases Option.some.inj (hc1.symm.trans hfound)
  cases Option.some.inj (hkX.symm.trans hk)
  have hsel0 : selectMethod e.platform s.vm P1.m.cls T.fill0 = .method T.fill0 := by
    obtain ⟨c2, r2, m2, q1, q2, q3, q4, -⟩ := Cond.selects_spec (a' (.selects nse Bundle.tFill0 Bundle.tFill0) (by simp [nsW, nsT]))
    cases Option.some.inj (q1.symm.trans hfound)
    cases Option.some.inj (q2.symm.trans (State.methodFound?_of_named Y.fill0 (by decide)))
    cases Option.some.inj (q3.symm.trans Y.fill0)
    rw [Launch.admits_selectMethod X.admits]; exact q4
  have hselF : selectMethod e.platform s.vm P1.m.cls T.fill = .method T.fill := by
    obtain ⟨c2, r2, m2, q1, q2, q3, q4, -⟩ := Cond.selects_spec (a' (.selects nse Bundle.tFill Bundle.tFill) (by simp [nsW, nsT]))
    cases Option.some.inj (q1.symm.trans hfound)
    cases Option.some.inj (q2.symm.trans (State.methodFound?_of_named Y.fill (by decide)))
    cases Option.some.inj (q3.symm.trans Y.fill)
    rw [Launch.admits_selectMethod X.admits]; exact q4
  obtain ⟨cellS0, hcS0, hiss⟩ := Y.statics
  obtain ⟨u0, hu0⟩ := Cond.staticRefV Y.unassigned L.unassignedStatic L.statics hcS0 hiss (a' (.isRef (.static Bundle.tN "UNASSIGNED_STACK" Bundle.steD)) (by simp [nsW, nsT]))
  obtain ⟨sen, hsen⟩ := Cond.staticRefV Y.sentinel L.sentinelStatic L.statics hcS0 hiss (a' (.isRef (.static Bundle.tN "SUPPRESSED_SENTINEL" Bundle.listD)) (by simp [nsW, nsT]))
  obtain ⟨ci198, i198, fB, hk198, hg198, ha198, hsB, -, hnB, htB, hffB⟩ := Cond.ownField (t := .object "java/lang/Object") Y.found L.cls (by decide +kernel) (a' (.fieldLink Bundle.tN 198 Bundle.tN "backtrace" "Ljava/lang/Object;") (by simp [nsW, nsT])) (a' (.lays Bundle.tN Bundle.tN "backtrace" "Ljava/lang/Object;") (by simp [nsW, nsT])) e.platform hpl
  obtain ⟨cellS, hcS', heS, -, hkeep⟩ := X.same.2.2.2.2.2 T.aS cellS0 hcS0
  have hcellS : W.heap[T.aS]? = some cellS := hcS'
  have hout' : ∀ i, (⟨T.aS, i⟩ : Loc) ∉ locs := fun i hmem => by
    have := hlocs _ hmem cellS0 hcS0
    rw [hiss] at this; cases this
  have hknownS : cellS.vm ≠ .unknown := by
    rw [heS]; intro hu
    rw [show cellS0.vm = .unknown from hu] at hiss
    cases hiss
  have hneS : T.aS ≠ a := Nat.ne_of_lt (Nat.lt_of_lt_of_le (Array.getElem?_eq_some_iff.mp hcS0).1 hnew)
  obtain ⟨iM, hffM⟩ := Y.msg
  obtain ⟨tyC, dC, hdC, hdnC⟩ := Cond.laysAt hfound hk Y.cause (a' (.lays nse Bundle.tN "cause" "Ljava/lang/Throwable;") (by simp [nsW, nsT]))
  obtain ⟨tyS, dS, hdS, hdnS⟩ := Cond.laysAt hfound hk Y.stack (a' (.lays nse Bundle.tN "stackTrace" Bundle.steD) (by simp [nsW, nsT]))
  obtain ⟨tyP, dP, hdP, hdnP⟩ := Cond.laysAt hfound hk Y.supp (a' (.lays nse Bundle.tN "suppressedExceptions" Bundle.listD) (by simp [nsW, nsT]))
  obtain ⟨tyM, dM, hdM, hdnM⟩ := Cond.laysAt hfound hk hffM (a' (.lays nse Bundle.tN "detailMessage" "Ljava/lang/String;") (by simp [nsW, nsT]))
  obtain ⟨tyB, dB, hdB, hdnB⟩ := Cond.laysAt hfound hk hffB (a' (.lays nse Bundle.tN "backtrace" "Ljava/lang/Object;") (by simp [nsW, nsT]))
  have bC := Cond.laysApart hdB hdC hdnB hdnC (by rw [hnB, Y.causeName]; decide)
  have bS := Cond.laysApart hdB hdS hdnB hdnS (by rw [hnB, Y.stackName]; decide)
  have bP := Cond.laysApart hdB hdP hdnB hdnP (by rw [hnB, Y.suppName]; decide)
  have hskip : SkipFacts T e.platform s (fun u => u) u0 ((preparedCellV T.toThrowableT (freshCell P1.m.cls kX) a u0 sen).withEntry W.cur) :=
    ⟨{ ci198 := ci198, i198 := i198, fBack := fB }, ⟨hk198, hg198, ha198, hsB⟩, by
      have := fresh_default (c := P1.m.cls) tyB
      rw [htB] at this
      simpa [preparedCellV, Cell.setSlot, Cell.withEntry, Array.getElem?_setIfInBounds, bC, bS, bP, bC.symm, bS.symm, bP.symm, defaultValue] using this, fun _ _ => rfl⟩
  obtain ⟨tm, methC, cdC, kC, vm₁, hnC, -, -, -, -, -, -, -, hW₁, st1⟩ := Steps.initColdS (tb := p.tables) (e := e) (below := below) (s := s) (U := W) X.here hexec X.warmed hpl hown (t := Bundle.initS nse) rfl rfl (by decide)
    (a' (.methodLink own ic (Bundle.initS nse)) (by simp [nsW, nsT])) (h (.instanceMethod (Bundle.initS nse)) (by simp [nsW, Bundle.passSAtoms])) (bytes := rxN) (maxL := 2) (h (.code (Bundle.initS nse) rxN 2 none) (by simp [nsW, Bundle.passSAtoms]))
    (f := g) hg (a := a) (msg := msg) (rest := .ref a :: rest) hstack hd6
  cases Option.some.inj (hnC.symm.trans hP1m)
  have X₁ := X.noted hW₁
  obtain ⟨vm₂, X₂, st2⟩ := X₁.ctorMessageOffV hexec (g := { g with stack := .ref a :: rest }) hg hsize T L Z LZ M LM (P1 :: Ps)
    (fun P hP => by rcases List.mem_cons.mp hP with rfl | hP; exact L1; exact hL P hP) ⟨hlink1, hlink⟩ (u0 := u0) (sen := sen) (self := a) hmsg (cell := freshCell P1.m.cls kX) (cellS := cellS)
    hcell (fun _ => by simp) (by simp) rfl rfl hsel0 hselF hcellS hneS hknownS (by rw [hkeep _ (hout' _)]; exact hu0) (by rw [hkeep _ (hout' _)]; exact hsen)
    (Takes.of_laid hk hord tyC (by rw [Y.causeType]; rfl)) (Takes.of_laid hk hord tyS (by rw [Y.stackType]; exact fits_refV_array _ u0)) (Takes.of_laid hk hord tyP (by rw [Y.suppType]; exact fits_refV_object _ sen))
    (Takes.of_laid hk hord tyM (by rw [Y.msgType]; exact fits_refV_object _ ⟨msg, hmsg⟩)) Y.objLocals hskip htr [] hd6
    (by simp only [List.length_cons, hlen]; omega) (by simp only [List.length_cons, hlen]; exact hRlocals)
  have hlt : a < ((W.setVm vm₁).setVm vm₂).heap.size := (Array.getElem?_eq_some_iff.mp hcell).1
  refine ⟨(W.setVm vm₁).setVm vm₂, _, _, X₂, fun y hy => ?_, hlt, rfl, rfl, fun target hwalk => st1 _ (fun acts => ?_)⟩
  · simp only [List.mem_cons, List.not_mem_nil, or_false] at hy
    rcases hy with rfl | rfl | rfl | rfl | rfl <;> rfl
  · rw [doInvoke_state]
    exact st2 _ hwalk
end
section
variable {p : Program} {l : Launch} {e : Env} {R : Room} {s : State} {m : MethodId} {args : Array Value} {below : List Frame} {meth : Method} {c : Code} {H : Heap} {locs : List Loc} {cells slots : Nat}
theorem vx_back9 {T S : State} {R' : Room} {k n : Nat} (X : Stand p l e R s m args below meth c T locs cells slots) (Y : Stand p l e R' ((T.setVm s.vm).setFrames (.invoking m args :: below)) m args below meth c T [] 0 0) (Z : Stand p l e R' ((T.setVm s.vm).setFrames (.invoking m args :: below)) m args below meth c S [] k n) :
    Stand p l e R s m args below meth c S locs (cells + k) (slots + n) := by
  have hW0 : s.WarmedH ((T.setVm s.vm).setFrames (.invoking m args :: below)).vm := State.WarmedH.refl s
  refine { admits := X.admits, cas := X.cas, clock := X.clock, frames := X.frames, room := X.room, hears := X.hears, method := X.method, code := X.code, here := Z.here, tail := Z.tail, warmed := State.WarmedH.trans hW0 Z.warmed, limits := Z.limits.trans (Y.limits.symm.trans X.limits), bytes := Z.bytes.trans (Y.bytes.symm.trans X.bytes), same := ?_ }
  obtain ⟨e1, e2⟩ := Z.same
  rw [State.setFrames_setFrames] at e1
  have h2 : (T.setVm s.vm).sameButNew (S.setVm s.vm) [] k n := ⟨e1, e2⟩
  have h3 := X.same.trans h2
  rw [List.append_nil] at h3
  exact h3
end
section
variable {p : Program} {l : Launch} {e : Env} {R : Room} {s : State} {m : MethodId} {args : Array Value} {below : List Frame} {meth : Method} {c : Code} {H : Heap} {locs : List Loc} {cells slots : Nat} {Q : State → Prop}
variable {cc : ByteArray} {nL : Nat} {own : String} {D : va_G} {Y : Nat → ClassId} {A : Nat → Prop} {pc : Nat} {ls : Array Slot} {rest : List Value}
/-- 'new NoSuchElementException("text")', the text by a wide index: the object goes on the stack, all else stays -/
theorem nx_make {text : String} {ik is ic sa : Nat} (hexec : p.tables.exec = Jvm.exec) (hb : c.code = cc) (hl : l.stackTraces = false)
    (hown : s.vm.findClass own = some m.cls) (hk : (Cond.classLink own ik nse).before args s = true) (hini : (Cond.initialized nse).before args s = true) (hstr : vk_R own is text sa s) (hat : ∀ w ∈ (nsW own ic).filter vx_no, w.before args s = true)
    (hgood : ∀ w ∈ Cond.classLink own ik nse :: Cond.initialized nse :: (nsW own ic).filter vx_no, vx_ot w = true)
    (hU : vx_Zq Bundle.tN "UNASSIGNED_STACK" Bundle.steD A s s.heap) (hN : vx_Zq Bundle.tN "SUPPRESSED_SENTINEL" Bundle.listD A s s.heap) (hS : va_S A s.heap H locs) (hsize : ls.size = c.maxLocals)
    (d0 : decode cc pc = .ok (.new ik, 3)) (d3 : decode cc (pc + 3) = .ok (.dup, 1)) (d4 : decode cc (pc + 4) = .ok (.ldc_w is, 3)) (d7 : decode cc (pc + 7) = .ok (.invokespecial ic, 3))
    (hRframes : 2 + 3 < R.frames) (hRlocals : (rest.map fun v => v.category).sum + (13 * (2 + 1) + 43) ≤ R.locals) (hRcells : cells + 1 ≤ R.cells) (hRslots : slots + 6 ≤ R.slots)
    (kk : ∀ (q : Nat) (ce : Cell) (H1 : Heap), H1[q]? = some ce → ce.vm = .none → s.vm.findClass nse = some ce.cls → va_S A s.heap H1 locs → W p l e R s m args below meth c H1 locs (cells + 1) (slots + 6) Q (F0 m (pc + 10) ls (.ref q :: rest))) :
    W p l e R s m args below meth c H locs cells slots Q (F0 m pc ls rest) := by
  intro T hT X
  subst hT
  have htr : e.platform.stackTraces = false := (show e.platform.stackTraces = l.stackTraces by rw [X.admits.platform]).trans hl
  have Y := vx_rebase X (R' := { frames := R.frames, locals := R.locals, cells := 1, slots := 6 }) (Nat.le_refl _) (Nat.le_refl _) hRcells hRslots
  obtain ⟨s', hA'⟩ : ∃ z, z = (T.setVm s.vm).setFrames (.invoking m args :: below) := ⟨_, rfl⟩
  rw [← hA'] at Y
  have hvm : s'.vm = s.vm := by rw [hA']; rfl
  have hhp : s'.heap = T.heap := by rw [hA']; rfl
  have hW0 : s.WarmedH s'.vm := by rw [hvm]; exact State.WarmedH.refl s
  have hat' : ∀ w ∈ (nsW own ic).filter vx_no, w.before args s' = true := fun w hw => vx_ot_at hW0 hvm.symm (hgood w (List.mem_cons_of_mem _ (List.mem_cons_of_mem _ hw))) (hat w hw)
  have hk' : (Cond.classLink own ik nse).before args s' = true := vx_ot_at hW0 hvm.symm (hgood _ List.mem_cons_self) hk
  have hini' : (Cond.initialized nse).before args s' = true := vx_ot_at hW0 hvm.symm (hgood _ (List.mem_cons_of_mem _ List.mem_cons_self)) hini
  have hU' : vx_Zq Bundle.tN "UNASSIGNED_STACK" Bundle.steD A s' s'.heap := by rw [hhp]; exact vx_Zq.moved hW0.alike (hU.kept hS.2.1)
  have hN' : vx_Zq Bundle.tN "SUPPRESSED_SENTINEL" Bundle.listD A s' s'.heap := by rw [hhp]; exact vx_Zq.moved hW0.alike (hN.kept hS.2.1)
  have h : ∀ w ∈ nsW own ic, w.before args s' = true := vx_own hat' (vx_isRefq hU'.1) (vx_isRefq hN'.1) hU'.2.word hN'.2.word
  have hown' : s'.vm.findClass own = some m.cls := by rw [hvm]; exact hown
  have hins : (Cond.instantiable nse 6).before args s' = true := h _ (by simp [nsW, nsT])
  obtain ⟨vm₁, cX, kX, hfX, hkX, -, -, X₁, st1⟩ := Y.newCold hexec (own := own) (C := nse) (index := ik) (n := 6) hown' hk' hins hini'
    (g := F0 m pc ls rest) rfl (by rw [hb]; exact d0) (Nat.le_refl _) (Nat.le_refl _)
  generalize hT1 : (T.setVm vm₁).pushCell { cls := cX, slots := kX.instanceTypes.map defaultValue, vm := .none } = T1 at X₁ st1
  have hcat : (Value.ref T.heap.size).category = 1 := rfl
  have hcellA : T1.heap[T.heap.size]? = some (freshCell cX kX) := by rw [← hT1]; exact State.heap_pushCell_size _ _
  have d3' : decode c.code (pc + 3) = .ok (.dup, 1) := by rw [hb]; exact d3
  have d4' : decode c.code (pc + 4) = .ok (.ldc_w is, 3) := by rw [hb]; exact d4
  have hstr' : vk_R own is text sa s' := vk_R.warm hW0 hstr
  obtain ⟨V, ce, L, Z, hL, hlt, hcl9, hvm9, st⟩ := nx_ctorMade X₁ hexec htr (own := own) (ic := ic) hown' h (fun x hx => nomatch hx) hfX hkX hcellA (by rw [hhp]; exact Nat.le_refl _) (msg := .ref sa) rfl
    (g := { method := m, pc := pc + 7, locals := ls, stack := .ref sa :: .ref T.heap.size :: .ref T.heap.size :: rest, locked := none }) rfl hsize (rest := rest) rfl
    (by rw [hb]; exact d7) hRframes (by simp only [List.map_cons, List.sum_cons, hcat]; omega)
  have Z0 := Stand.forget (locs := []) Z (fun y hy => by rw [hL y hy, hhp]; exact Nat.le_refl _)
  obtain ⟨f1, f2⟩ := vx_frame Z0.same
  rw [hhp] at f1 f2
  have hcid : s.vm.findClass nse = some ce.cls := by
    rw [hcl9]
    rw [hvm] at hfX
    exact hfX
  have hh : (V.setCell T.heap.size ce).heap[T.heap.size]? = some ce := heapAt_setCell_self (s := V) ce hlt
  subst hA'
  have X5 := vx_back9 X Y Z0
  have X6 : Stand p l e R s m args below meth c (V.setCell T.heap.size ce) locs (cells + 1) (slots + 6) := { X5 with same := X5.same.mono (by omega) (by omega) }
  obtain ⟨t, a1, b1⟩ := kk T.heap.size ce (V.setCell T.heap.size ce).heap hh hvm9 hcid ⟨Nat.le_trans hS.1 f1, fun q h1 h2 => (f2 q (Nat.lt_of_lt_of_le h1 hS.1) (fun z hz => nomatch hz)).trans (hS.2.1 q h1 h2), hS.2.2⟩ _ rfl X6
  refine ⟨t, st1 _ ?_, b1⟩
  show Steps p.tables e below (T1.setTop { method := m, pc := pc + 3, locals := ls, stack := .ref T.heap.size :: rest, locked := none }) _
  jvm_step X₁.here [X₁.here.top, hexec, d3', Value.category]
  exact X₁.ldcStringW hexec (own := own) (text := text) (index := is) (a := sa) hown' hstr'.1 hstr'.2
    (g := { method := m, pc := pc + 4, locals := ls, stack := .ref T.heap.size :: .ref T.heap.size :: rest, locked := none }) rfl d4' _ (st _ a1)
/-- 'throw x' of an object that was made before -/
theorem nx_athrow {cc : ByteArray} {pc : Nat} (hexec : p.tables.exec = Jvm.exec) (hb : c.code = cc) {q : Addr} (hdg : decode cc pc = .ok (.athrow, 1)) (k : vx_W p l e R s m args below meth c H locs cells slots Q (F0 m pc ls rest) q) : W p l e R s m args below meth c H locs cells slots Q (F0 m pc ls (.ref q :: rest)) := by
  intro T hT X
  obtain ⟨t, st, hq⟩ := k T hT X
  refine ⟨t, ?_, hq⟩
  have hdg' : decode c.code pc = .ok (.athrow, 1) := by rw [hb]; exact hdg
  jvm_step X.here [X.here.top, hexec, hdg', athrow.wp_sem]
  exact st
theorem hat_nse (F : CallFix p m c cc nL s args WS own) (hc : va_Nw (.castable nse nse) s) (hd : KD s) : ∀ w ∈ (nsW RX9 289).filter vx_no, w.before args s = true :=
  vx_hat (B := [.castable nse nse, .declares (Bundle.initS "java/lang/RuntimeException"), .declares (Bundle.initS "java/lang/Exception"), .declares (Bundle.initS Bundle.tN)]) (fun w h => F.2.2.2.2 w (WS_e1 w h)) (by decide +kernel) (vx_c (va_Nw.use rfl hc) (vx_c (va_Nw.use rfl hd.1) (vx_c (va_Nw.use rfl hd.2.1) (vx_c (va_Nw.use rfl hd.2.2) vx_n))))
theorem hgo_nse : ∀ w ∈ Cond.classLink RX9 285 nse :: Cond.initialized nse :: (nsW RX9 289).filter vx_no, vx_ot w = true := by decide +kernel
theorem thrN {px : String → Prop} {Qc : Array Value → State → Outcome → State → Prop} {mc ms : Nat} (F : CallFix p m c cc nL s args WS RX9) (hfl : l.stackTraces = false) (hK : KV D Y s) (hZ : ZZ A s s.heap) (hS : va_S A s.heap H locs) (hno : ∀ x ∈ c.exceptionTable.toList, False) (hlocks : meth.locks = false) (hsize : ls.size = nL) (h1 : Cond.classLink RX9 285 nse ∈ WS) (h2 : Cond.initialized nse ∈ WS) (d0 : decode cc pc = .ok (.new 285, 3)) (d3 : decode cc (pc + 3) = .ok (.dup, 1)) (d4 : decode cc (pc + 4) = .ok (.ldc_w 287, 3)) (d7 : decode cc (pc + 7) = .ok (.invokespecial 289, 3)) (d10 : decode cc (pc + 10) = .ok (.athrow, 1)) (hE : px nse) (hRf : 5 < R.frames) (hRl : 82 ≤ R.locals) (hRc : cells + 1 ≤ R.cells) (hRs : slots + 6 ≤ R.slots) (hc : cells + 1 ≤ mc) (hs : slots + 6 ≤ ms) :
    W p l e R s m args below meth c H locs cells slots (vx_MQ below Qc (qX px A) args s mc ms A) (F0 m pc ls []) := by
  obtain ⟨sa, hstr⟩ := hK.2.1
  refine nx_make F.1 F.2.1 hfl F.2.2.2.1 (F.2.2.2.2 _ h1) (F.2.2.2.2 _ h2) hstr (hat_nse F hK.2.2.2.2.2.1 hK.2.2.2.2.2.2.2.2) hgo_nse hZ.1 hZ.2 hS (by rw [F.2.2.1]; exact hsize) d0 d3 d4 d7 hRf hRl hRc hRs (fun q ce H1 g1 g2 g3 hS1 => ?_)
  exact nx_athrow F.1 F.2.1 d10 (xOut hno hlocks hE hS1 g1 g2 g3 hc hs)
end
end
