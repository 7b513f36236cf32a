section
-- ===== PART A: goes FIRST, ahead of the names: the tables' words, and 'selects' of the private methods out of them =====
/-- a private method of a class that the tables say can be made, by its rows of tables_1 -/
def lw_okq (q : MethodName × Nat) : Prop := (q.1.cls ≠ "java/lang/invoke/MethodHandle" ∧ q.1.cls ≠ "java/lang/invoke/VarHandle") ∧ Cond.instantiable q.1.cls q.2 ∈ tables_1 ∧ Cond.privateMethod q.1 ∈ tables_1 ∧ Cond.instanceMethod q.1 ∈ tables_1
theorem lw_p0 : lw_okq (⟨"TabledGoals", "putBytes", "(I)V"⟩, 9) := ⟨⟨by decide +kernel, by decide +kernel⟩, List.mem_of_getElem? (i := 23) (by decide +kernel), List.mem_of_getElem? (i := 323) (by decide +kernel), List.mem_of_getElem? (i := 324) (by decide +kernel)⟩
theorem lw_p1 : lw_okq (⟨"TabledGoals", "refuseArgument", "()V"⟩, 9) := ⟨⟨by decide +kernel, by decide +kernel⟩, List.mem_of_getElem? (i := 23) (by decide +kernel), List.mem_of_getElem? (i := 373) (by decide +kernel), List.mem_of_getElem? (i := 374) (by decide +kernel)⟩
theorem lw_p2 : lw_okq (⟨"java/lang/Throwable", "fillInStackTrace", "(I)Ljava/lang/Throwable;"⟩, 6) := ⟨⟨by decide +kernel, by decide +kernel⟩, List.mem_of_getElem? (i := 415) (by decide +kernel), List.mem_of_getElem? (i := 413) (by decide +kernel), List.mem_of_getElem? (i := 414) (by decide +kernel)⟩
theorem lw_p3 : lw_okq (⟨"TabledGoals$Reader", "next", "()I"⟩, 10) := ⟨⟨by decide +kernel, by decide +kernel⟩, List.mem_of_getElem? (i := 445) (by decide +kernel), List.mem_of_getElem? (i := 495) (by decide +kernel), List.mem_of_getElem? (i := 496) (by decide +kernel)⟩
theorem lw_p4 : lw_okq (⟨"TabledGoals$Reader", "readClause", "()Z"⟩, 10) := ⟨⟨by decide +kernel, by decide +kernel⟩, List.mem_of_getElem? (i := 445) (by decide +kernel), List.mem_of_getElem? (i := 499) (by decide +kernel), List.mem_of_getElem? (i := 500) (by decide +kernel)⟩
theorem lw_p5 : lw_okq (⟨"TabledGoals$Reader", "smallNext", "()Z"⟩, 10) := ⟨⟨by decide +kernel, by decide +kernel⟩, List.mem_of_getElem? (i := 445) (by decide +kernel), List.mem_of_getElem? (i := 503) (by decide +kernel), List.mem_of_getElem? (i := 504) (by decide +kernel)⟩
theorem lw_p6 : lw_okq (⟨"TabledGoals$Reader", "fail", "(II)Z"⟩, 10) := ⟨⟨by decide +kernel, by decide +kernel⟩, List.mem_of_getElem? (i := 445) (by decide +kernel), List.mem_of_getElem? (i := 507) (by decide +kernel), List.mem_of_getElem? (i := 508) (by decide +kernel)⟩
theorem lw_p7 : lw_okq (⟨"TabledGoals$Reader", "readAtom", "(II)Z"⟩, 10) := ⟨⟨by decide +kernel, by decide +kernel⟩, List.mem_of_getElem? (i := 445) (by decide +kernel), List.mem_of_getElem? (i := 511) (by decide +kernel), List.mem_of_getElem? (i := 512) (by decide +kernel)⟩
theorem lw_p8 : lw_okq (⟨"TabledGoals$Reader", "readName", "(Z)I"⟩, 10) := ⟨⟨by decide +kernel, by decide +kernel⟩, List.mem_of_getElem? (i := 445) (by decide +kernel), List.mem_of_getElem? (i := 515) (by decide +kernel), List.mem_of_getElem? (i := 516) (by decide +kernel)⟩
theorem lw_p9 : lw_okq (⟨"TabledGoals$Reader", "wordLength", "()I"⟩, 10) := ⟨⟨by decide +kernel, by decide +kernel⟩, List.mem_of_getElem? (i := 445) (by decide +kernel), List.mem_of_getElem? (i := 519) (by decide +kernel), List.mem_of_getElem? (i := 520) (by decide +kernel)⟩
theorem lw_p10 : lw_okq (⟨"TabledGoals$Reader", "isNot", "(I)Z"⟩, 10) := ⟨⟨by decide +kernel, by decide +kernel⟩, List.mem_of_getElem? (i := 445) (by decide +kernel), List.mem_of_getElem? (i := 523) (by decide +kernel), List.mem_of_getElem? (i := 524) (by decide +kernel)⟩
theorem lw_p11 : lw_okq (⟨"TabledGoals$Program", "putAtom", "(IIII)V"⟩, 9) := ⟨⟨by decide +kernel, by decide +kernel⟩, List.mem_of_getElem? (i := 31) (by decide +kernel), List.mem_of_getElem? (i := 542) (by decide +kernel), List.mem_of_getElem? (i := 543) (by decide +kernel)⟩
theorem lw_p12 : lw_okq (⟨"TabledGoals$Reader", "readTerm", "(III)Z"⟩, 10) := ⟨⟨by decide +kernel, by decide +kernel⟩, List.mem_of_getElem? (i := 445) (by decide +kernel), List.mem_of_getElem? (i := 554) (by decide +kernel), List.mem_of_getElem? (i := 555) (by decide +kernel)⟩
theorem lw_p13 : lw_okq (⟨"TabledGoals$Reader", "readVariable", "(I)I"⟩, 10) := ⟨⟨by decide +kernel, by decide +kernel⟩, List.mem_of_getElem? (i := 445) (by decide +kernel), List.mem_of_getElem? (i := 558) (by decide +kernel), List.mem_of_getElem? (i := 559) (by decide +kernel)⟩
theorem lw_p14 : lw_okq (⟨"TabledGoals$Reader", "isSafe", "(I)Z"⟩, 10) := ⟨⟨by decide +kernel, by decide +kernel⟩, List.mem_of_getElem? (i := 445) (by decide +kernel), List.mem_of_getElem? (i := 562) (by decide +kernel), List.mem_of_getElem? (i := 563) (by decide +kernel)⟩
theorem lw_p15 : lw_okq (⟨"TabledGoals$Reader", "readBody", "()Z"⟩, 10) := ⟨⟨by decide +kernel, by decide +kernel⟩, List.mem_of_getElem? (i := 445) (by decide +kernel), List.mem_of_getElem? (i := 567) (by decide +kernel), List.mem_of_getElem? (i := 568) (by decide +kernel)⟩
def lw_privs_1 : List (MethodName × Nat) := [(⟨"TabledGoals", "putBytes", "(I)V"⟩, 9), (⟨"TabledGoals", "refuseArgument", "()V"⟩, 9), (⟨"java/lang/Throwable", "fillInStackTrace", "(I)Ljava/lang/Throwable;"⟩, 6), (⟨"TabledGoals$Reader", "next", "()I"⟩, 10), (⟨"TabledGoals$Reader", "readClause", "()Z"⟩, 10), (⟨"TabledGoals$Reader", "smallNext", "()Z"⟩, 10), (⟨"TabledGoals$Reader", "fail", "(II)Z"⟩, 10), (⟨"TabledGoals$Reader", "readAtom", "(II)Z"⟩, 10), (⟨"TabledGoals$Reader", "readName", "(Z)I"⟩, 10), (⟨"TabledGoals$Reader", "wordLength", "()I"⟩, 10), (⟨"TabledGoals$Reader", "isNot", "(I)Z"⟩, 10), (⟨"TabledGoals$Program", "putAtom", "(IIII)V"⟩, 9), (⟨"TabledGoals$Reader", "readTerm", "(III)Z"⟩, 10), (⟨"TabledGoals$Reader", "readVariable", "(I)I"⟩, 10), (⟨"TabledGoals$Reader", "isSafe", "(I)Z"⟩, 10), (⟨"TabledGoals$Reader", "readBody", "()Z"⟩, 10)]
theorem lw_r1 : ∀ q ∈ lw_privs_1, lw_okq q := List.forall_mem_cons.mpr ⟨lw_p0, List.forall_mem_cons.mpr ⟨lw_p1, List.forall_mem_cons.mpr ⟨lw_p2, List.forall_mem_cons.mpr ⟨lw_p3, List.forall_mem_cons.mpr ⟨lw_p4, List.forall_mem_cons.mpr ⟨lw_p5, List.forall_mem_cons.mpr ⟨lw_p6, List.forall_mem_cons.mpr ⟨lw_p7, List.forall_mem_cons.mpr ⟨lw_p8, List.forall_mem_cons.mpr ⟨lw_p9, List.forall_mem_cons.mpr ⟨lw_p10, List.forall_mem_cons.mpr ⟨lw_p11, List.forall_mem_cons.mpr ⟨lw_p12, List.forall_mem_cons.mpr ⟨lw_p13, List.forall_mem_cons.mpr ⟨lw_p14, List.forall_mem_cons.mpr ⟨lw_p15, fun _ h => absurd h List.not_mem_nil⟩⟩⟩⟩⟩⟩⟩⟩⟩⟩⟩⟩⟩⟩⟩⟩
theorem lw_p16 : lw_okq (⟨"TabledGoals$Reader", "closeClause", "()Z"⟩, 10) := ⟨⟨by decide +kernel, by decide +kernel⟩, List.mem_of_getElem? (i := 445) (by decide +kernel), List.mem_of_getElem? (i := 571) (by decide +kernel), List.mem_of_getElem? (i := 572) (by decide +kernel)⟩
theorem lw_p17 : lw_okq (⟨"TabledGoals", "needAtom", "(III)V"⟩, 9) := ⟨⟨by decide +kernel, by decide +kernel⟩, List.mem_of_getElem? (i := 23) (by decide +kernel), List.mem_of_getElem? (i := 593) (by decide +kernel), List.mem_of_getElem? (i := 594) (by decide +kernel)⟩
theorem lw_p18 : lw_okq (⟨"TabledGoals", "needPredicate", "(I)V"⟩, 9) := ⟨⟨by decide +kernel, by decide +kernel⟩, List.mem_of_getElem? (i := 23) (by decide +kernel), List.mem_of_getElem? (i := 597) (by decide +kernel), List.mem_of_getElem? (i := 598) (by decide +kernel)⟩
theorem lw_p19 : lw_okq (⟨"TabledGoals", "needIndex", "(II)V"⟩, 9) := ⟨⟨by decide +kernel, by decide +kernel⟩, List.mem_of_getElem? (i := 23) (by decide +kernel), List.mem_of_getElem? (i := 601) (by decide +kernel), List.mem_of_getElem? (i := 602) (by decide +kernel)⟩
theorem lw_p20 : lw_okq (⟨"TabledGoals", "refuseMissing", "()V"⟩, 9) := ⟨⟨by decide +kernel, by decide +kernel⟩, List.mem_of_getElem? (i := 23) (by decide +kernel), List.mem_of_getElem? (i := 605) (by decide +kernel), List.mem_of_getElem? (i := 606) (by decide +kernel)⟩
theorem lw_p21 : lw_okq (⟨"TabledGoals", "needConstant", "(I)V"⟩, 9) := ⟨⟨by decide +kernel, by decide +kernel⟩, List.mem_of_getElem? (i := 23) (by decide +kernel), List.mem_of_getElem? (i := 625) (by decide +kernel), List.mem_of_getElem? (i := 626) (by decide +kernel)⟩
theorem lw_p22 : lw_okq (⟨"TabledGoals", "needNoMoreTerms", "(III)V"⟩, 9) := ⟨⟨by decide +kernel, by decide +kernel⟩, List.mem_of_getElem? (i := 23) (by decide +kernel), List.mem_of_getElem? (i := 629) (by decide +kernel), List.mem_of_getElem? (i := 630) (by decide +kernel)⟩
theorem lw_p23 : lw_okq (⟨"TabledGoals", "refuseState", "()V"⟩, 9) := ⟨⟨by decide +kernel, by decide +kernel⟩, List.mem_of_getElem? (i := 23) (by decide +kernel), List.mem_of_getElem? (i := 638) (by decide +kernel), List.mem_of_getElem? (i := 639) (by decide +kernel)⟩
theorem lw_p24 : lw_okq (⟨"TabledGoals$Tables", "spreadBack", "()V"⟩, 14) := ⟨⟨by decide +kernel, by decide +kernel⟩, List.mem_of_getElem? (i := 203) (by decide +kernel), List.mem_of_getElem? (i := 681) (by decide +kernel), List.mem_of_getElem? (i := 682) (by decide +kernel)⟩
theorem lw_p25 : lw_okq (⟨"TabledGoals$Tables", "callsMarked", "(LTabledGoals$Table;)Z"⟩, 14) := ⟨⟨by decide +kernel, by decide +kernel⟩, List.mem_of_getElem? (i := 203) (by decide +kernel), List.mem_of_getElem? (i := 685) (by decide +kernel), List.mem_of_getElem? (i := 686) (by decide +kernel)⟩
theorem lw_p26 : lw_okq (⟨"TabledGoals$Tables", "ofKey", "(I)LTabledGoals$Table;"⟩, 14) := ⟨⟨by decide +kernel, by decide +kernel⟩, List.mem_of_getElem? (i := 203) (by decide +kernel), List.mem_of_getElem? (i := 693) (by decide +kernel), List.mem_of_getElem? (i := 694) (by decide +kernel)⟩
theorem lw_p27 : lw_okq (⟨"TabledGoals", "needGoal", "(III)V"⟩, 9) := ⟨⟨by decide +kernel, by decide +kernel⟩, List.mem_of_getElem? (i := 23) (by decide +kernel), List.mem_of_getElem? (i := 719) (by decide +kernel), List.mem_of_getElem? (i := 720) (by decide +kernel)⟩
theorem lw_p28 : lw_okq (⟨"TabledGoals$Model", "growPossible", "(LTabledGoals$Program;)V"⟩, 7) := ⟨⟨by decide +kernel, by decide +kernel⟩, List.mem_of_getElem? (i := 83) (by decide +kernel), List.mem_of_getElem? (i := 731) (by decide +kernel), List.mem_of_getElem? (i := 732) (by decide +kernel)⟩
theorem lw_p29 : lw_okq (⟨"TabledGoals$Model", "noteStage", "(I)V"⟩, 7) := ⟨⟨by decide +kernel, by decide +kernel⟩, List.mem_of_getElem? (i := 83) (by decide +kernel), List.mem_of_getElem? (i := 810) (by decide +kernel), List.mem_of_getElem? (i := 811) (by decide +kernel)⟩
theorem lw_p30 : lw_okq (⟨"TabledGoals$Model", "growTruth", "(LTabledGoals$Program;)Z"⟩, 7) := ⟨⟨by decide +kernel, by decide +kernel⟩, List.mem_of_getElem? (i := 83) (by decide +kernel), List.mem_of_getElem? (i := 815) (by decide +kernel), List.mem_of_getElem? (i := 816) (by decide +kernel)⟩
theorem lw_p31 : lw_okq (⟨"TabledGoals$Tables", "goInto", "(ILTabledGoals$Program;)V"⟩, 14) := ⟨⟨by decide +kernel, by decide +kernel⟩, List.mem_of_getElem? (i := 203) (by decide +kernel), List.mem_of_getElem? (i := 824) (by decide +kernel), List.mem_of_getElem? (i := 825) (by decide +kernel)⟩
def lw_privs_2 : List (MethodName × Nat) := [(⟨"TabledGoals$Reader", "closeClause", "()Z"⟩, 10), (⟨"TabledGoals", "needAtom", "(III)V"⟩, 9), (⟨"TabledGoals", "needPredicate", "(I)V"⟩, 9), (⟨"TabledGoals", "needIndex", "(II)V"⟩, 9), (⟨"TabledGoals", "refuseMissing", "()V"⟩, 9), (⟨"TabledGoals", "needConstant", "(I)V"⟩, 9), (⟨"TabledGoals", "needNoMoreTerms", "(III)V"⟩, 9), (⟨"TabledGoals", "refuseState", "()V"⟩, 9), (⟨"TabledGoals$Tables", "spreadBack", "()V"⟩, 14), (⟨"TabledGoals$Tables", "callsMarked", "(LTabledGoals$Table;)Z"⟩, 14), (⟨"TabledGoals$Tables", "ofKey", "(I)LTabledGoals$Table;"⟩, 14), (⟨"TabledGoals", "needGoal", "(III)V"⟩, 9), (⟨"TabledGoals$Model", "growPossible", "(LTabledGoals$Program;)V"⟩, 7), (⟨"TabledGoals$Model", "noteStage", "(I)V"⟩, 7), (⟨"TabledGoals$Model", "growTruth", "(LTabledGoals$Program;)Z"⟩, 7), (⟨"TabledGoals$Tables", "goInto", "(ILTabledGoals$Program;)V"⟩, 14)]
theorem lw_r2 : ∀ q ∈ lw_privs_2, lw_okq q := List.forall_mem_cons.mpr ⟨lw_p16, List.forall_mem_cons.mpr ⟨lw_p17, List.forall_mem_cons.mpr ⟨lw_p18, List.forall_mem_cons.mpr ⟨lw_p19, List.forall_mem_cons.mpr ⟨lw_p20, List.forall_mem_cons.mpr ⟨lw_p21, List.forall_mem_cons.mpr ⟨lw_p22, List.forall_mem_cons.mpr ⟨lw_p23, List.forall_mem_cons.mpr ⟨lw_p24, List.forall_mem_cons.mpr ⟨lw_p25, List.forall_mem_cons.mpr ⟨lw_p26, List.forall_mem_cons.mpr ⟨lw_p27, List.forall_mem_cons.mpr ⟨lw_p28, List.forall_mem_cons.mpr ⟨lw_p29, List.forall_mem_cons.mpr ⟨lw_p30, List.forall_mem_cons.mpr ⟨lw_p31, fun _ h => absurd h List.not_mem_nil⟩⟩⟩⟩⟩⟩⟩⟩⟩⟩⟩⟩⟩⟩⟩⟩
theorem lw_p32 : lw_okq (⟨"TabledGoals$Tables", "hit", "(LTabledGoals$Table;)V"⟩, 14) := ⟨⟨by decide +kernel, by decide +kernel⟩, List.mem_of_getElem? (i := 203) (by decide +kernel), List.mem_of_getElem? (i := 828) (by decide +kernel), List.mem_of_getElem? (i := 829) (by decide +kernel)⟩
theorem lw_p33 : lw_okq (⟨"TabledGoals$Tables", "add", "(I)LTabledGoals$Table;"⟩, 14) := ⟨⟨by decide +kernel, by decide +kernel⟩, List.mem_of_getElem? (i := 203) (by decide +kernel), List.mem_of_getElem? (i := 833) (by decide +kernel), List.mem_of_getElem? (i := 834) (by decide +kernel)⟩
theorem lw_p34 : lw_okq (⟨"TabledGoals$Tables", "leave", "(LTabledGoals$Table;)V"⟩, 14) := ⟨⟨by decide +kernel, by decide +kernel⟩, List.mem_of_getElem? (i := 203) (by decide +kernel), List.mem_of_getElem? (i := 947) (by decide +kernel), List.mem_of_getElem? (i := 948) (by decide +kernel)⟩
theorem lw_p35 : lw_okq (⟨"TabledGoals$Tables", "complete", "(LTabledGoals$Table;)V"⟩, 14) := ⟨⟨by decide +kernel, by decide +kernel⟩, List.mem_of_getElem? (i := 203) (by decide +kernel), List.mem_of_getElem? (i := 951) (by decide +kernel), List.mem_of_getElem? (i := 952) (by decide +kernel)⟩
theorem lw_p36 : lw_okq (⟨"TabledGoals$Tables", "putCompleted", "(II)V"⟩, 14) := ⟨⟨by decide +kernel, by decide +kernel⟩, List.mem_of_getElem? (i := 203) (by decide +kernel), List.mem_of_getElem? (i := 955) (by decide +kernel), List.mem_of_getElem? (i := 956) (by decide +kernel)⟩
theorem lw_p37 : lw_okq (⟨"TabledGoals", "needWhat", "(II)V"⟩, 9) := ⟨⟨by decide +kernel, by decide +kernel⟩, List.mem_of_getElem? (i := 23) (by decide +kernel), List.mem_of_getElem? (i := 966) (by decide +kernel), List.mem_of_getElem? (i := 967) (by decide +kernel)⟩
theorem lw_p38 : lw_okq (⟨"TabledGoals$Program", "raiseHead", "(I[I)Z"⟩, 9) := ⟨⟨by decide +kernel, by decide +kernel⟩, List.mem_of_getElem? (i := 31) (by decide +kernel), List.mem_of_getElem? (i := 1003) (by decide +kernel), List.mem_of_getElem? (i := 1004) (by decide +kernel)⟩
theorem lw_p39 : lw_okq (⟨"TabledGoals$Tables", "spreadOn", "(I)V"⟩, 14) := ⟨⟨by decide +kernel, by decide +kernel⟩, List.mem_of_getElem? (i := 203) (by decide +kernel), List.mem_of_getElem? (i := 1065) (by decide +kernel), List.mem_of_getElem? (i := 1066) (by decide +kernel)⟩
theorem lw_p40 : lw_okq (⟨"TabledGoals$Table", "nodes", "()I"⟩, 18) := ⟨⟨by decide +kernel, by decide +kernel⟩, List.mem_of_getElem? (i := 836) (by decide +kernel), List.mem_of_getElem? (i := 1079) (by decide +kernel), List.mem_of_getElem? (i := 1080) (by decide +kernel)⟩
theorem lw_p41 : lw_okq (⟨"TabledGoalsModel", "puts", "(I)V"⟩, 77) := ⟨⟨by decide +kernel, by decide +kernel⟩, List.mem_of_getElem? (i := 1137) (by decide +kernel), List.mem_of_getElem? (i := 1386) (by decide +kernel), List.mem_of_getElem? (i := 1387) (by decide +kernel)⟩
theorem lw_p42 : lw_okq (⟨"TabledGoalsModel", "isFine", "(ZII)Z"⟩, 77) := ⟨⟨by decide +kernel, by decide +kernel⟩, List.mem_of_getElem? (i := 1137) (by decide +kernel), List.mem_of_getElem? (i := 1397) (by decide +kernel), List.mem_of_getElem? (i := 1398) (by decide +kernel)⟩
theorem lw_p43 : lw_okq (⟨"TabledGoalsModel", "sign", "()I"⟩, 77) := ⟨⟨by decide +kernel, by decide +kernel⟩, List.mem_of_getElem? (i := 1137) (by decide +kernel), List.mem_of_getElem? (i := 1401) (by decide +kernel), List.mem_of_getElem? (i := 1402) (by decide +kernel)⟩
theorem lw_p44 : lw_okq (⟨"TabledGoalsModel", "clauseRead", "()V"⟩, 77) := ⟨⟨by decide +kernel, by decide +kernel⟩, List.mem_of_getElem? (i := 1137) (by decide +kernel), List.mem_of_getElem? (i := 1405) (by decide +kernel), List.mem_of_getElem? (i := 1406) (by decide +kernel)⟩
theorem lw_p45 : lw_okq (⟨"TabledGoalsModel", "wrong", "(II)V"⟩, 77) := ⟨⟨by decide +kernel, by decide +kernel⟩, List.mem_of_getElem? (i := 1137) (by decide +kernel), List.mem_of_getElem? (i := 1412) (by decide +kernel), List.mem_of_getElem? (i := 1413) (by decide +kernel)⟩
theorem lw_p46 : lw_okq (⟨"TabledGoalsModel", "reads", "()V"⟩, 77) := ⟨⟨by decide +kernel, by decide +kernel⟩, List.mem_of_getElem? (i := 1137) (by decide +kernel), List.mem_of_getElem? (i := 1416) (by decide +kernel), List.mem_of_getElem? (i := 1417) (by decide +kernel)⟩
theorem lw_p47 : lw_okq (⟨"TabledGoalsModel", "at", "(I)I"⟩, 77) := ⟨⟨by decide +kernel, by decide +kernel⟩, List.mem_of_getElem? (i := 1137) (by decide +kernel), List.mem_of_getElem? (i := 1420) (by decide +kernel), List.mem_of_getElem? (i := 1421) (by decide +kernel)⟩
def lw_privs_3 : List (MethodName × Nat) := [(⟨"TabledGoals$Tables", "hit", "(LTabledGoals$Table;)V"⟩, 14), (⟨"TabledGoals$Tables", "add", "(I)LTabledGoals$Table;"⟩, 14), (⟨"TabledGoals$Tables", "leave", "(LTabledGoals$Table;)V"⟩, 14), (⟨"TabledGoals$Tables", "complete", "(LTabledGoals$Table;)V"⟩, 14), (⟨"TabledGoals$Tables", "putCompleted", "(II)V"⟩, 14), (⟨"TabledGoals", "needWhat", "(II)V"⟩, 9), (⟨"TabledGoals$Program", "raiseHead", "(I[I)Z"⟩, 9), (⟨"TabledGoals$Tables", "spreadOn", "(I)V"⟩, 14), (⟨"TabledGoals$Table", "nodes", "()I"⟩, 18), (⟨"TabledGoalsModel", "puts", "(I)V"⟩, 77), (⟨"TabledGoalsModel", "isFine", "(ZII)Z"⟩, 77), (⟨"TabledGoalsModel", "sign", "()I"⟩, 77), (⟨"TabledGoalsModel", "clauseRead", "()V"⟩, 77), (⟨"TabledGoalsModel", "wrong", "(II)V"⟩, 77), (⟨"TabledGoalsModel", "reads", "()V"⟩, 77), (⟨"TabledGoalsModel", "at", "(I)I"⟩, 77)]
theorem lw_r3 : ∀ q ∈ lw_privs_3, lw_okq q := List.forall_mem_cons.mpr ⟨lw_p32, List.forall_mem_cons.mpr ⟨lw_p33, List.forall_mem_cons.mpr ⟨lw_p34, List.forall_mem_cons.mpr ⟨lw_p35, List.forall_mem_cons.mpr ⟨lw_p36, List.forall_mem_cons.mpr ⟨lw_p37, List.forall_mem_cons.mpr ⟨lw_p38, List.forall_mem_cons.mpr ⟨lw_p39, List.forall_mem_cons.mpr ⟨lw_p40, List.forall_mem_cons.mpr ⟨lw_p41, List.forall_mem_cons.mpr ⟨lw_p42, List.forall_mem_cons.mpr ⟨lw_p43, List.forall_mem_cons.mpr ⟨lw_p44, List.forall_mem_cons.mpr ⟨lw_p45, List.forall_mem_cons.mpr ⟨lw_p46, List.forall_mem_cons.mpr ⟨lw_p47, fun _ h => absurd h List.not_mem_nil⟩⟩⟩⟩⟩⟩⟩⟩⟩⟩⟩⟩⟩⟩⟩⟩
theorem lw_p48 : lw_okq (⟨"TabledGoalsModel", "atomRead", "(IZZ)V"⟩, 77) := ⟨⟨by decide +kernel, by decide +kernel⟩, List.mem_of_getElem? (i := 1137) (by decide +kernel), List.mem_of_getElem? (i := 1426) (by decide +kernel), List.mem_of_getElem? (i := 1427) (by decide +kernel)⟩
theorem lw_p49 : lw_okq (⟨"TabledGoalsModel", "predicateRead", "()I"⟩, 77) := ⟨⟨by decide +kernel, by decide +kernel⟩, List.mem_of_getElem? (i := 1137) (by decide +kernel), List.mem_of_getElem? (i := 1430) (by decide +kernel), List.mem_of_getElem? (i := 1431) (by decide +kernel)⟩
theorem lw_p50 : lw_okq (⟨"TabledGoalsModel", "named", "()V"⟩, 77) := ⟨⟨by decide +kernel, by decide +kernel⟩, List.mem_of_getElem? (i := 1137) (by decide +kernel), List.mem_of_getElem? (i := 1434) (by decide +kernel), List.mem_of_getElem? (i := 1435) (by decide +kernel)⟩
theorem lw_p51 : lw_okq (⟨"TabledGoalsModel", "isNot", "()Z"⟩, 77) := ⟨⟨by decide +kernel, by decide +kernel⟩, List.mem_of_getElem? (i := 1137) (by decide +kernel), List.mem_of_getElem? (i := 1438) (by decide +kernel), List.mem_of_getElem? (i := 1439) (by decide +kernel)⟩
theorem lw_p52 : lw_okq (⟨"TabledGoalsModel", "passes", "(I)Z"⟩, 77) := ⟨⟨by decide +kernel, by decide +kernel⟩, List.mem_of_getElem? (i := 1137) (by decide +kernel), List.mem_of_getElem? (i := 1443) (by decide +kernel), List.mem_of_getElem? (i := 1444) (by decide +kernel)⟩
theorem lw_p53 : lw_okq (⟨"TabledGoalsModel", "termRead", "(Z)I"⟩, 77) := ⟨⟨by decide +kernel, by decide +kernel⟩, List.mem_of_getElem? (i := 1137) (by decide +kernel), List.mem_of_getElem? (i := 1447) (by decide +kernel), List.mem_of_getElem? (i := 1448) (by decide +kernel)⟩
theorem lw_p54 : lw_okq (⟨"TabledGoalsModel", "constant", "()I"⟩, 77) := ⟨⟨by decide +kernel, by decide +kernel⟩, List.mem_of_getElem? (i := 1137) (by decide +kernel), List.mem_of_getElem? (i := 1454) (by decide +kernel), List.mem_of_getElem? (i := 1455) (by decide +kernel)⟩
theorem lw_p55 : lw_okq (⟨"TabledGoalsModel", "variable", "()I"⟩, 77) := ⟨⟨by decide +kernel, by decide +kernel⟩, List.mem_of_getElem? (i := 1137) (by decide +kernel), List.mem_of_getElem? (i := 1458) (by decide +kernel), List.mem_of_getElem? (i := 1459) (by decide +kernel)⟩
theorem lw_p56 : lw_okq (⟨"TabledGoalsModel", "needs", "(I)V"⟩, 77) := ⟨⟨by decide +kernel, by decide +kernel⟩, List.mem_of_getElem? (i := 1137) (by decide +kernel), List.mem_of_getElem? (i := 1462) (by decide +kernel), List.mem_of_getElem? (i := 1463) (by decide +kernel)⟩
theorem lw_p57 : lw_okq (⟨"TabledGoalsModel", "literalRead", "(I)V"⟩, 77) := ⟨⟨by decide +kernel, by decide +kernel⟩, List.mem_of_getElem? (i := 1137) (by decide +kernel), List.mem_of_getElem? (i := 1466) (by decide +kernel), List.mem_of_getElem? (i := 1467) (by decide +kernel)⟩
theorem lw_p58 : lw_okq (⟨"TabledGoalsModel", "stands", "()V"⟩, 77) := ⟨⟨by decide +kernel, by decide +kernel⟩, List.mem_of_getElem? (i := 1137) (by decide +kernel), List.mem_of_getElem? (i := 1470) (by decide +kernel), List.mem_of_getElem? (i := 1471) (by decide +kernel)⟩
theorem lw_p59 : lw_okq (⟨"TabledGoalsModel", "noTables", "()V"⟩, 77) := ⟨⟨by decide +kernel, by decide +kernel⟩, List.mem_of_getElem? (i := 1137) (by decide +kernel), List.mem_of_getElem? (i := 1474) (by decide +kernel), List.mem_of_getElem? (i := 1475) (by decide +kernel)⟩
theorem lw_p60 : lw_okq (⟨"TabledGoalsModel", "isGiven", "(IIIZI)Z"⟩, 77) := ⟨⟨by decide +kernel, by decide +kernel⟩, List.mem_of_getElem? (i := 1137) (by decide +kernel), List.mem_of_getElem? (i := 1486) (by decide +kernel), List.mem_of_getElem? (i := 1487) (by decide +kernel)⟩
theorem lw_p61 : lw_okq (⟨"TabledGoalsModel", "isTerm", "(IIIZ)Z"⟩, 77) := ⟨⟨by decide +kernel, by decide +kernel⟩, List.mem_of_getElem? (i := 1137) (by decide +kernel), List.mem_of_getElem? (i := 1490) (by decide +kernel), List.mem_of_getElem? (i := 1491) (by decide +kernel)⟩
theorem lw_p62 : lw_okq (⟨"TabledGoalsModel", "isConstant", "(I)Z"⟩, 77) := ⟨⟨by decide +kernel, by decide +kernel⟩, List.mem_of_getElem? (i := 1137) (by decide +kernel), List.mem_of_getElem? (i := 1494) (by decide +kernel), List.mem_of_getElem? (i := 1495) (by decide +kernel)⟩
theorem lw_p63 : lw_okq (⟨"TabledGoalsModel", "factAt", "(III)I"⟩, 77) := ⟨⟨by decide +kernel, by decide +kernel⟩, List.mem_of_getElem? (i := 1137) (by decide +kernel), List.mem_of_getElem? (i := 1498) (by decide +kernel), List.mem_of_getElem? (i := 1499) (by decide +kernel)⟩
def lw_privs_4 : List (MethodName × Nat) := [(⟨"TabledGoalsModel", "atomRead", "(IZZ)V"⟩, 77), (⟨"TabledGoalsModel", "predicateRead", "()I"⟩, 77), (⟨"TabledGoalsModel", "named", "()V"⟩, 77), (⟨"TabledGoalsModel", "isNot", "()Z"⟩, 77), (⟨"TabledGoalsModel", "passes", "(I)Z"⟩, 77), (⟨"TabledGoalsModel", "termRead", "(Z)I"⟩, 77), (⟨"TabledGoalsModel", "constant", "()I"⟩, 77), (⟨"TabledGoalsModel", "variable", "()I"⟩, 77), (⟨"TabledGoalsModel", "needs", "(I)V"⟩, 77), (⟨"TabledGoalsModel", "literalRead", "(I)V"⟩, 77), (⟨"TabledGoalsModel", "stands", "()V"⟩, 77), (⟨"TabledGoalsModel", "noTables", "()V"⟩, 77), (⟨"TabledGoalsModel", "isGiven", "(IIIZI)Z"⟩, 77), (⟨"TabledGoalsModel", "isTerm", "(IIIZ)Z"⟩, 77), (⟨"TabledGoalsModel", "isConstant", "(I)Z"⟩, 77), (⟨"TabledGoalsModel", "factAt", "(III)I"⟩, 77)]
theorem lw_r4 : ∀ q ∈ lw_privs_4, lw_okq q := List.forall_mem_cons.mpr ⟨lw_p48, List.forall_mem_cons.mpr ⟨lw_p49, List.forall_mem_cons.mpr ⟨lw_p50, List.forall_mem_cons.mpr ⟨lw_p51, List.forall_mem_cons.mpr ⟨lw_p52, List.forall_mem_cons.mpr ⟨lw_p53, List.forall_mem_cons.mpr ⟨lw_p54, List.forall_mem_cons.mpr ⟨lw_p55, List.forall_mem_cons.mpr ⟨lw_p56, List.forall_mem_cons.mpr ⟨lw_p57, List.forall_mem_cons.mpr ⟨lw_p58, List.forall_mem_cons.mpr ⟨lw_p59, List.forall_mem_cons.mpr ⟨lw_p60, List.forall_mem_cons.mpr ⟨lw_p61, List.forall_mem_cons.mpr ⟨lw_p62, List.forall_mem_cons.mpr ⟨lw_p63, fun _ h => absurd h List.not_mem_nil⟩⟩⟩⟩⟩⟩⟩⟩⟩⟩⟩⟩⟩⟩⟩⟩
theorem lw_p64 : lw_okq (⟨"TabledGoalsModel", "literalsOf", "(I)I"⟩, 77) := ⟨⟨by decide +kernel, by decide +kernel⟩, List.mem_of_getElem? (i := 1137) (by decide +kernel), List.mem_of_getElem? (i := 1502) (by decide +kernel), List.mem_of_getElem? (i := 1503) (by decide +kernel)⟩
theorem lw_p65 : lw_okq (⟨"TabledGoalsModel", "part", "(III)I"⟩, 77) := ⟨⟨by decide +kernel, by decide +kernel⟩, List.mem_of_getElem? (i := 1137) (by decide +kernel), List.mem_of_getElem? (i := 1506) (by decide +kernel), List.mem_of_getElem? (i := 1507) (by decide +kernel)⟩
theorem lw_p66 : lw_okq (⟨"TabledGoalsModel", "stales", "(III)I"⟩, 77) := ⟨⟨by decide +kernel, by decide +kernel⟩, List.mem_of_getElem? (i := 1137) (by decide +kernel), List.mem_of_getElem? (i := 1510) (by decide +kernel), List.mem_of_getElem? (i := 1511) (by decide +kernel)⟩
theorem lw_p67 : lw_okq (⟨"TabledGoalsModel", "isLike", "(III)Z"⟩, 77) := ⟨⟨by decide +kernel, by decide +kernel⟩, List.mem_of_getElem? (i := 1137) (by decide +kernel), List.mem_of_getElem? (i := 1517) (by decide +kernel), List.mem_of_getElem? (i := 1518) (by decide +kernel)⟩
theorem lw_p68 : lw_okq (⟨"TabledGoalsModel", "callsStale", "(I)Z"⟩, 77) := ⟨⟨by decide +kernel, by decide +kernel⟩, List.mem_of_getElem? (i := 1137) (by decide +kernel), List.mem_of_getElem? (i := 1524) (by decide +kernel), List.mem_of_getElem? (i := 1525) (by decide +kernel)⟩
theorem lw_p69 : lw_okq (⟨"TabledGoalsModel", "callAt", "(II)I"⟩, 77) := ⟨⟨by decide +kernel, by decide +kernel⟩, List.mem_of_getElem? (i := 1137) (by decide +kernel), List.mem_of_getElem? (i := 1528) (by decide +kernel), List.mem_of_getElem? (i := 1529) (by decide +kernel)⟩
theorem lw_p70 : lw_okq (⟨"TabledGoalsModel", "tableFor", "(I)I"⟩, 77) := ⟨⟨by decide +kernel, by decide +kernel⟩, List.mem_of_getElem? (i := 1137) (by decide +kernel), List.mem_of_getElem? (i := 1532) (by decide +kernel), List.mem_of_getElem? (i := 1533) (by decide +kernel)⟩
theorem lw_p71 : lw_okq (⟨"TabledGoalsModel", "variant", "(III)I"⟩, 77) := ⟨⟨by decide +kernel, by decide +kernel⟩, List.mem_of_getElem? (i := 1137) (by decide +kernel), List.mem_of_getElem? (i := 1544) (by decide +kernel), List.mem_of_getElem? (i := 1545) (by decide +kernel)⟩
theorem lw_p72 : lw_okq (⟨"TabledGoalsModel", "goesInto", "(II)V"⟩, 77) := ⟨⟨by decide +kernel, by decide +kernel⟩, List.mem_of_getElem? (i := 1137) (by decide +kernel), List.mem_of_getElem? (i := 1551) (by decide +kernel), List.mem_of_getElem? (i := 1552) (by decide +kernel)⟩
theorem lw_p73 : lw_okq (⟨"TabledGoalsModel", "tableMade", "(II)I"⟩, 77) := ⟨⟨by decide +kernel, by decide +kernel⟩, List.mem_of_getElem? (i := 1137) (by decide +kernel), List.mem_of_getElem? (i := 1555) (by decide +kernel), List.mem_of_getElem? (i := 1556) (by decide +kernel)⟩
theorem lw_p74 : lw_okq (⟨"TabledGoalsModel", "laysCalls", "(I)V"⟩, 77) := ⟨⟨by decide +kernel, by decide +kernel⟩, List.mem_of_getElem? (i := 1137) (by decide +kernel), List.mem_of_getElem? (i := 1559) (by decide +kernel), List.mem_of_getElem? (i := 1560) (by decide +kernel)⟩
theorem lw_p75 : lw_okq (⟨"TabledGoalsModel", "makes", "()V"⟩, 77) := ⟨⟨by decide +kernel, by decide +kernel⟩, List.mem_of_getElem? (i := 1137) (by decide +kernel), List.mem_of_getElem? (i := 1563) (by decide +kernel), List.mem_of_getElem? (i := 1564) (by decide +kernel)⟩
theorem lw_p76 : lw_okq (⟨"TabledGoalsModel", "follows", "([Z[Z)V"⟩, 77) := ⟨⟨by decide +kernel, by decide +kernel⟩, List.mem_of_getElem? (i := 1137) (by decide +kernel), List.mem_of_getElem? (i := 1567) (by decide +kernel), List.mem_of_getElem? (i := 1568) (by decide +kernel)⟩
theorem lw_p77 : lw_okq (⟨"TabledGoalsModel", "firstInstance", "(I)Z"⟩, 77) := ⟨⟨by decide +kernel, by decide +kernel⟩, List.mem_of_getElem? (i := 1137) (by decide +kernel), List.mem_of_getElem? (i := 1571) (by decide +kernel), List.mem_of_getElem? (i := 1572) (by decide +kernel)⟩
theorem lw_p78 : lw_okq (⟨"TabledGoalsModel", "variablesOf", "(I)I"⟩, 77) := ⟨⟨by decide +kernel, by decide +kernel⟩, List.mem_of_getElem? (i := 1137) (by decide +kernel), List.mem_of_getElem? (i := 1575) (by decide +kernel), List.mem_of_getElem? (i := 1576) (by decide +kernel)⟩
theorem lw_p79 : lw_okq (⟨"TabledGoalsModel", "atomOf", "(II)I"⟩, 77) := ⟨⟨by decide +kernel, by decide +kernel⟩, List.mem_of_getElem? (i := 1137) (by decide +kernel), List.mem_of_getElem? (i := 1579) (by decide +kernel), List.mem_of_getElem? (i := 1580) (by decide +kernel)⟩
def lw_privs_5 : List (MethodName × Nat) := [(⟨"TabledGoalsModel", "literalsOf", "(I)I"⟩, 77), (⟨"TabledGoalsModel", "part", "(III)I"⟩, 77), (⟨"TabledGoalsModel", "stales", "(III)I"⟩, 77), (⟨"TabledGoalsModel", "isLike", "(III)Z"⟩, 77), (⟨"TabledGoalsModel", "callsStale", "(I)Z"⟩, 77), (⟨"TabledGoalsModel", "callAt", "(II)I"⟩, 77), (⟨"TabledGoalsModel", "tableFor", "(I)I"⟩, 77), (⟨"TabledGoalsModel", "variant", "(III)I"⟩, 77), (⟨"TabledGoalsModel", "goesInto", "(II)V"⟩, 77), (⟨"TabledGoalsModel", "tableMade", "(II)I"⟩, 77), (⟨"TabledGoalsModel", "laysCalls", "(I)V"⟩, 77), (⟨"TabledGoalsModel", "makes", "()V"⟩, 77), (⟨"TabledGoalsModel", "follows", "([Z[Z)V"⟩, 77), (⟨"TabledGoalsModel", "firstInstance", "(I)Z"⟩, 77), (⟨"TabledGoalsModel", "variablesOf", "(I)I"⟩, 77), (⟨"TabledGoalsModel", "atomOf", "(II)I"⟩, 77)]
theorem lw_r5 : ∀ q ∈ lw_privs_5, lw_okq q := List.forall_mem_cons.mpr ⟨lw_p64, List.forall_mem_cons.mpr ⟨lw_p65, List.forall_mem_cons.mpr ⟨lw_p66, List.forall_mem_cons.mpr ⟨lw_p67, List.forall_mem_cons.mpr ⟨lw_p68, List.forall_mem_cons.mpr ⟨lw_p69, List.forall_mem_cons.mpr ⟨lw_p70, List.forall_mem_cons.mpr ⟨lw_p71, List.forall_mem_cons.mpr ⟨lw_p72, List.forall_mem_cons.mpr ⟨lw_p73, List.forall_mem_cons.mpr ⟨lw_p74, List.forall_mem_cons.mpr ⟨lw_p75, List.forall_mem_cons.mpr ⟨lw_p76, List.forall_mem_cons.mpr ⟨lw_p77, List.forall_mem_cons.mpr ⟨lw_p78, List.forall_mem_cons.mpr ⟨lw_p79, fun _ h => absurd h List.not_mem_nil⟩⟩⟩⟩⟩⟩⟩⟩⟩⟩⟩⟩⟩⟩⟩⟩
theorem lw_p80 : lw_okq (⟨"TabledGoalsModel", "term", "(I)I"⟩, 77) := ⟨⟨by decide +kernel, by decide +kernel⟩, List.mem_of_getElem? (i := 1137) (by decide +kernel), List.mem_of_getElem? (i := 1583) (by decide +kernel), List.mem_of_getElem? (i := 1584) (by decide +kernel)⟩
theorem lw_p81 : lw_okq (⟨"TabledGoalsModel", "holds", "(I[Z[Z)Z"⟩, 77) := ⟨⟨by decide +kernel, by decide +kernel⟩, List.mem_of_getElem? (i := 1137) (by decide +kernel), List.mem_of_getElem? (i := 1590) (by decide +kernel), List.mem_of_getElem? (i := 1591) (by decide +kernel)⟩
theorem lw_p82 : lw_okq (⟨"TabledGoalsModel", "nextInstance", "(I)Z"⟩, 77) := ⟨⟨by decide +kernel, by decide +kernel⟩, List.mem_of_getElem? (i := 1137) (by decide +kernel), List.mem_of_getElem? (i := 1594) (by decide +kernel), List.mem_of_getElem? (i := 1595) (by decide +kernel)⟩
theorem lw_p83 : lw_okq (⟨"TabledGoalsModel", "marks", "(I)V"⟩, 77) := ⟨⟨by decide +kernel, by decide +kernel⟩, List.mem_of_getElem? (i := 1137) (by decide +kernel), List.mem_of_getElem? (i := 1598) (by decide +kernel), List.mem_of_getElem? (i := 1599) (by decide +kernel)⟩
theorem lw_p84 : lw_okq (⟨"TabledGoalsModel", "meets", "(II)Z"⟩, 77) := ⟨⟨by decide +kernel, by decide +kernel⟩, List.mem_of_getElem? (i := 1137) (by decide +kernel), List.mem_of_getElem? (i := 1602) (by decide +kernel), List.mem_of_getElem? (i := 1603) (by decide +kernel)⟩
theorem lw_p85 : lw_okq (⟨"TabledGoalsModel", "becomes", "(II)Z"⟩, 77) := ⟨⟨by decide +kernel, by decide +kernel⟩, List.mem_of_getElem? (i := 1137) (by decide +kernel), List.mem_of_getElem? (i := 1606) (by decide +kernel), List.mem_of_getElem? (i := 1607) (by decide +kernel)⟩
theorem lw_p86 : lw_okq (⟨"TabledGoalsModel", "root", "(I)I"⟩, 77) := ⟨⟨by decide +kernel, by decide +kernel⟩, List.mem_of_getElem? (i := 1137) (by decide +kernel), List.mem_of_getElem? (i := 1610) (by decide +kernel), List.mem_of_getElem? (i := 1611) (by decide +kernel)⟩
theorem lw_p87 : lw_okq (⟨"TabledGoalsModel", "joins", "(II)Z"⟩, 77) := ⟨⟨by decide +kernel, by decide +kernel⟩, List.mem_of_getElem? (i := 1137) (by decide +kernel), List.mem_of_getElem? (i := 1614) (by decide +kernel), List.mem_of_getElem? (i := 1615) (by decide +kernel)⟩
theorem lw_p88 : lw_okq (⟨"TabledGoalsModel", "goesOn", "(II)V"⟩, 77) := ⟨⟨by decide +kernel, by decide +kernel⟩, List.mem_of_getElem? (i := 1137) (by decide +kernel), List.mem_of_getElem? (i := 1620) (by decide +kernel), List.mem_of_getElem? (i := 1621) (by decide +kernel)⟩
theorem lw_p89 : lw_okq (⟨"TabledGoalsModel", "now", "(I)I"⟩, 77) := ⟨⟨by decide +kernel, by decide +kernel⟩, List.mem_of_getElem? (i := 1137) (by decide +kernel), List.mem_of_getElem? (i := 1624) (by decide +kernel), List.mem_of_getElem? (i := 1625) (by decide +kernel)⟩
theorem lw_p90 : lw_okq (⟨"TabledGoalsModel", "comes", "(IZ)V"⟩, 77) := ⟨⟨by decide +kernel, by decide +kernel⟩, List.mem_of_getElem? (i := 1137) (by decide +kernel), List.mem_of_getElem? (i := 1628) (by decide +kernel), List.mem_of_getElem? (i := 1629) (by decide +kernel)⟩
theorem lw_p91 : lw_okq (⟨"TabledGoalsModel", "valueAt", "(I)I"⟩, 77) := ⟨⟨by decide +kernel, by decide +kernel⟩, List.mem_of_getElem? (i := 1137) (by decide +kernel), List.mem_of_getElem? (i := 1632) (by decide +kernel), List.mem_of_getElem? (i := 1633) (by decide +kernel)⟩
theorem lw_p92 : lw_okq (⟨"TabledGoalsModel", "isAtom", "(III)Z"⟩, 77) := ⟨⟨by decide +kernel, by decide +kernel⟩, List.mem_of_getElem? (i := 1137) (by decide +kernel), List.mem_of_getElem? (i := 1636) (by decide +kernel), List.mem_of_getElem? (i := 1637) (by decide +kernel)⟩
theorem lw_p93 : lw_okq (⟨"TabledGoalsModel", "goesThrough", "()V"⟩, 77) := ⟨⟨by decide +kernel, by decide +kernel⟩, List.mem_of_getElem? (i := 1137) (by decide +kernel), List.mem_of_getElem? (i := 1640) (by decide +kernel), List.mem_of_getElem? (i := 1641) (by decide +kernel)⟩
theorem lw_p94 : lw_okq (⟨"TabledGoalsModel", "completes", "()V"⟩, 77) := ⟨⟨by decide +kernel, by decide +kernel⟩, List.mem_of_getElem? (i := 1137) (by decide +kernel), List.mem_of_getElem? (i := 1644) (by decide +kernel), List.mem_of_getElem? (i := 1645) (by decide +kernel)⟩
theorem lw_p95 : lw_okq (⟨"TabledGoalsModel", "leads", "()V"⟩, 77) := ⟨⟨by decide +kernel, by decide +kernel⟩, List.mem_of_getElem? (i := 1137) (by decide +kernel), List.mem_of_getElem? (i := 1648) (by decide +kernel), List.mem_of_getElem? (i := 1649) (by decide +kernel)⟩
def lw_privs_6 : List (MethodName × Nat) := [(⟨"TabledGoalsModel", "term", "(I)I"⟩, 77), (⟨"TabledGoalsModel", "holds", "(I[Z[Z)Z"⟩, 77), (⟨"TabledGoalsModel", "nextInstance", "(I)Z"⟩, 77), (⟨"TabledGoalsModel", "marks", "(I)V"⟩, 77), (⟨"TabledGoalsModel", "meets", "(II)Z"⟩, 77), (⟨"TabledGoalsModel", "becomes", "(II)Z"⟩, 77), (⟨"TabledGoalsModel", "root", "(I)I"⟩, 77), (⟨"TabledGoalsModel", "joins", "(II)Z"⟩, 77), (⟨"TabledGoalsModel", "goesOn", "(II)V"⟩, 77), (⟨"TabledGoalsModel", "now", "(I)I"⟩, 77), (⟨"TabledGoalsModel", "comes", "(IZ)V"⟩, 77), (⟨"TabledGoalsModel", "valueAt", "(I)I"⟩, 77), (⟨"TabledGoalsModel", "isAtom", "(III)Z"⟩, 77), (⟨"TabledGoalsModel", "goesThrough", "()V"⟩, 77), (⟨"TabledGoalsModel", "completes", "()V"⟩, 77), (⟨"TabledGoalsModel", "leads", "()V"⟩, 77)]
theorem lw_r6 : ∀ q ∈ lw_privs_6, lw_okq q := List.forall_mem_cons.mpr ⟨lw_p80, List.forall_mem_cons.mpr ⟨lw_p81, List.forall_mem_cons.mpr ⟨lw_p82, List.forall_mem_cons.mpr ⟨lw_p83, List.forall_mem_cons.mpr ⟨lw_p84, List.forall_mem_cons.mpr ⟨lw_p85, List.forall_mem_cons.mpr ⟨lw_p86, List.forall_mem_cons.mpr ⟨lw_p87, List.forall_mem_cons.mpr ⟨lw_p88, List.forall_mem_cons.mpr ⟨lw_p89, List.forall_mem_cons.mpr ⟨lw_p90, List.forall_mem_cons.mpr ⟨lw_p91, List.forall_mem_cons.mpr ⟨lw_p92, List.forall_mem_cons.mpr ⟨lw_p93, List.forall_mem_cons.mpr ⟨lw_p94, List.forall_mem_cons.mpr ⟨lw_p95, fun _ h => absurd h List.not_mem_nil⟩⟩⟩⟩⟩⟩⟩⟩⟩⟩⟩⟩⟩⟩⟩⟩
theorem lw_p96 : lw_okq (⟨"TabledGoalsModel", "spreads", "(I)V"⟩, 77) := ⟨⟨by decide +kernel, by decide +kernel⟩, List.mem_of_getElem? (i := 1137) (by decide +kernel), List.mem_of_getElem? (i := 1652) (by decide +kernel), List.mem_of_getElem? (i := 1653) (by decide +kernel)⟩
theorem lw_p97 : lw_okq (⟨"TabledGoalsModel", "wasLeft", "(I)Z"⟩, 77) := ⟨⟨by decide +kernel, by decide +kernel⟩, List.mem_of_getElem? (i := 1137) (by decide +kernel), List.mem_of_getElem? (i := 1656) (by decide +kernel), List.mem_of_getElem? (i := 1657) (by decide +kernel)⟩
theorem lw_p98 : lw_okq (⟨"TabledGoalsModel", "factMany", "()I"⟩, 77) := ⟨⟨by decide +kernel, by decide +kernel⟩, List.mem_of_getElem? (i := 1137) (by decide +kernel), List.mem_of_getElem? (i := 1668) (by decide +kernel), List.mem_of_getElem? (i := 1669) (by decide +kernel)⟩
theorem lw_p99 : lw_okq (⟨"TabledGoalsModel", "freshMany", "()I"⟩, 77) := ⟨⟨by decide +kernel, by decide +kernel⟩, List.mem_of_getElem? (i := 1137) (by decide +kernel), List.mem_of_getElem? (i := 1672) (by decide +kernel), List.mem_of_getElem? (i := 1673) (by decide +kernel)⟩
theorem lw_p100 : lw_okq (⟨"TabledGoalsModel", "allAtoms", "(I)I"⟩, 77) := ⟨⟨by decide +kernel, by decide +kernel⟩, List.mem_of_getElem? (i := 1137) (by decide +kernel), List.mem_of_getElem? (i := 1676) (by decide +kernel), List.mem_of_getElem? (i := 1677) (by decide +kernel)⟩
theorem lw_p101 : lw_okq (⟨"TabledGoalsModel", "atomsOf", "(II)I"⟩, 77) := ⟨⟨by decide +kernel, by decide +kernel⟩, List.mem_of_getElem? (i := 1137) (by decide +kernel), List.mem_of_getElem? (i := 1680) (by decide +kernel), List.mem_of_getElem? (i := 1681) (by decide +kernel)⟩
theorem lw_p102 : lw_okq (⟨"TabledGoalsModel", "layers", "()V"⟩, 77) := ⟨⟨by decide +kernel, by decide +kernel⟩, List.mem_of_getElem? (i := 1137) (by decide +kernel), List.mem_of_getElem? (i := 1688) (by decide +kernel), List.mem_of_getElem? (i := 1689) (by decide +kernel)⟩
theorem lw_p103 : lw_okq (⟨"TabledGoalsModel", "headMany", "(I)I"⟩, 77) := ⟨⟨by decide +kernel, by decide +kernel⟩, List.mem_of_getElem? (i := 1137) (by decide +kernel), List.mem_of_getElem? (i := 1692) (by decide +kernel), List.mem_of_getElem? (i := 1693) (by decide +kernel)⟩
theorem lw_p104 : lw_okq (⟨"TabledGoalsModel", "isTable", "(I)Z"⟩, 77) := ⟨⟨by decide +kernel, by decide +kernel⟩, List.mem_of_getElem? (i := 1137) (by decide +kernel), List.mem_of_getElem? (i := 1727) (by decide +kernel), List.mem_of_getElem? (i := 1728) (by decide +kernel)⟩
theorem lw_p105 : lw_okq (⟨"TabledGoalsModel", "answersOf", "(II)I"⟩, 77) := ⟨⟨by decide +kernel, by decide +kernel⟩, List.mem_of_getElem? (i := 1137) (by decide +kernel), List.mem_of_getElem? (i := 1731) (by decide +kernel), List.mem_of_getElem? (i := 1732) (by decide +kernel)⟩
theorem lw_p106 : lw_okq (⟨"TabledGoalsModel", "nodes", "(I)I"⟩, 77) := ⟨⟨by decide +kernel, by decide +kernel⟩, List.mem_of_getElem? (i := 1137) (by decide +kernel), List.mem_of_getElem? (i := 1735) (by decide +kernel), List.mem_of_getElem? (i := 1736) (by decide +kernel)⟩
theorem lw_p107 : lw_okq (⟨"TabledGoalsModel", "leaderOf", "(I)I"⟩, 77) := ⟨⟨by decide +kernel, by decide +kernel⟩, List.mem_of_getElem? (i := 1137) (by decide +kernel), List.mem_of_getElem? (i := 1739) (by decide +kernel), List.mem_of_getElem? (i := 1740) (by decide +kernel)⟩
theorem lw_p108 : lw_okq (⟨"TabledGoalsModel", "callers", "(I)I"⟩, 77) := ⟨⟨by decide +kernel, by decide +kernel⟩, List.mem_of_getElem? (i := 1137) (by decide +kernel), List.mem_of_getElem? (i := 1743) (by decide +kernel), List.mem_of_getElem? (i := 1744) (by decide +kernel)⟩
theorem lw_p109 : lw_okq (⟨"TabledGoalsModel", "seeks", "(II)V"⟩, 77) := ⟨⟨by decide +kernel, by decide +kernel⟩, List.mem_of_getElem? (i := 1137) (by decide +kernel), List.mem_of_getElem? (i := 1763) (by decide +kernel), List.mem_of_getElem? (i := 1764) (by decide +kernel)⟩
theorem lw_p110 : lw_okq (⟨"TabledGoalsModel", "isCondition", "(I)Z"⟩, 77) := ⟨⟨by decide +kernel, by decide +kernel⟩, List.mem_of_getElem? (i := 1137) (by decide +kernel), List.mem_of_getElem? (i := 1767) (by decide +kernel), List.mem_of_getElem? (i := 1768) (by decide +kernel)⟩
theorem lw_p111 : lw_okq (⟨"TabledGoalsModel", "valueOf", "(II)I"⟩, 77) := ⟨⟨by decide +kernel, by decide +kernel⟩, List.mem_of_getElem? (i := 1137) (by decide +kernel), List.mem_of_getElem? (i := 1771) (by decide +kernel), List.mem_of_getElem? (i := 1772) (by decide +kernel)⟩
def lw_privs_7 : List (MethodName × Nat) := [(⟨"TabledGoalsModel", "spreads", "(I)V"⟩, 77), (⟨"TabledGoalsModel", "wasLeft", "(I)Z"⟩, 77), (⟨"TabledGoalsModel", "factMany", "()I"⟩, 77), (⟨"TabledGoalsModel", "freshMany", "()I"⟩, 77), (⟨"TabledGoalsModel", "allAtoms", "(I)I"⟩, 77), (⟨"TabledGoalsModel", "atomsOf", "(II)I"⟩, 77), (⟨"TabledGoalsModel", "layers", "()V"⟩, 77), (⟨"TabledGoalsModel", "headMany", "(I)I"⟩, 77), (⟨"TabledGoalsModel", "isTable", "(I)Z"⟩, 77), (⟨"TabledGoalsModel", "answersOf", "(II)I"⟩, 77), (⟨"TabledGoalsModel", "nodes", "(I)I"⟩, 77), (⟨"TabledGoalsModel", "leaderOf", "(I)I"⟩, 77), (⟨"TabledGoalsModel", "callers", "(I)I"⟩, 77), (⟨"TabledGoalsModel", "seeks", "(II)V"⟩, 77), (⟨"TabledGoalsModel", "isCondition", "(I)Z"⟩, 77), (⟨"TabledGoalsModel", "valueOf", "(II)I"⟩, 77)]
theorem lw_r7 : ∀ q ∈ lw_privs_7, lw_okq q := List.forall_mem_cons.mpr ⟨lw_p96, List.forall_mem_cons.mpr ⟨lw_p97, List.forall_mem_cons.mpr ⟨lw_p98, List.forall_mem_cons.mpr ⟨lw_p99, List.forall_mem_cons.mpr ⟨lw_p100, List.forall_mem_cons.mpr ⟨lw_p101, List.forall_mem_cons.mpr ⟨lw_p102, List.forall_mem_cons.mpr ⟨lw_p103, List.forall_mem_cons.mpr ⟨lw_p104, List.forall_mem_cons.mpr ⟨lw_p105, List.forall_mem_cons.mpr ⟨lw_p106, List.forall_mem_cons.mpr ⟨lw_p107, List.forall_mem_cons.mpr ⟨lw_p108, List.forall_mem_cons.mpr ⟨lw_p109, List.forall_mem_cons.mpr ⟨lw_p110, List.forall_mem_cons.mpr ⟨lw_p111, fun _ h => absurd h List.not_mem_nil⟩⟩⟩⟩⟩⟩⟩⟩⟩⟩⟩⟩⟩⟩⟩⟩
theorem lw_p112 : lw_okq (⟨"TabledGoalsModel", "lays", "(I)V"⟩, 77) := ⟨⟨by decide +kernel, by decide +kernel⟩, List.mem_of_getElem? (i := 1137) (by decide +kernel), List.mem_of_getElem? (i := 1775) (by decide +kernel), List.mem_of_getElem? (i := 1776) (by decide +kernel)⟩
def lw_privs_8 : List (MethodName × Nat) := [(⟨"TabledGoalsModel", "lays", "(I)V"⟩, 77)]
theorem lw_r8 : ∀ q ∈ lw_privs_8, lw_okq q := List.forall_mem_cons.mpr ⟨lw_p112, fun _ h => absurd h List.not_mem_nil⟩
def lw_privs : List (MethodName × Nat) := lw_privs_1 ++ (lw_privs_2 ++ (lw_privs_3 ++ (lw_privs_4 ++ (lw_privs_5 ++ (lw_privs_6 ++ (lw_privs_7 ++ (lw_privs_8)))))))
def lw_tbl : List Cond := k2_sels lw_privs ++ tables_1
theorem lw_privs_ok : ∀ q ∈ lw_privs, lw_okq q := by
  show ∀ q ∈ lw_privs_1 ++ (lw_privs_2 ++ (lw_privs_3 ++ (lw_privs_4 ++ (lw_privs_5 ++ (lw_privs_6 ++ (lw_privs_7 ++ (lw_privs_8))))))), lw_okq q
  exact List.forall_mem_append.mpr ⟨lw_r1, List.forall_mem_append.mpr ⟨lw_r2, List.forall_mem_append.mpr ⟨lw_r3, List.forall_mem_append.mpr ⟨lw_r4, List.forall_mem_append.mpr ⟨lw_r5, List.forall_mem_append.mpr ⟨lw_r6, List.forall_mem_append.mpr ⟨lw_r7, lw_r8⟩⟩⟩⟩⟩⟩⟩
end
section
/-! ===== BEGIN words of one list among another's, by their places ===== -/
theorem goodIn_r {big : List Cond} (ws : List Cond) (ps : List Nat) (hp : ws = ps.filterMap (fun i => big[i]?)) (h : ws.all goodWord = true) : GoodIn big ws := by
  intro w hw
  have h1 := List.all_eq_true.mp h w hw
  rw [hp] at hw
  obtain ⟨i, -, hi⟩ := List.mem_filterMap.mp hw
  have hm : w ∈ big := by first | exact List.mem_of_getElem? hi | exact List.getElem?_mem hi
  exact ⟨hm, good_of_word h1⟩
theorem goodIn_app {big a b : List Cond} (ha : GoodIn big a) (hb : GoodIn big b) : GoodIn big (a ++ b) := fun w h => (List.mem_append.mp h).elim (ha w) (hb w)
theorem goodIn_ca {big a b : List Cond} {c : Cond} (ha : GoodIn big (c :: a)) (hb : GoodIn big b) : GoodIn big (c :: (a ++ b)) := fun w h => (List.mem_cons.mp h).elim (fun e => ha w (List.mem_cons.mpr (Or.inl e))) (fun h => (List.mem_append.mp h).elim (fun h => ha w (List.mem_cons.mpr (Or.inr h))) (hb w))
theorem goodIn_sub {big ws : List Cond} (hm : ∀ w ∈ ws, w ∈ big) (h : ws.all goodWord = true) : GoodIn big ws := fun w hw => ⟨hm w hw, good_of_word (List.all_eq_true.mp h w hw)⟩
/-! ===== END ===== -/

/-! ===== BEGIN exceptions that leave a method, and their catching by the caller (launches without stack traces) ===== -/
section VXA
/-! The laws vx_back, vx_callV, vx_callS, vx_callSW, vx_throw0, vx_throwS follow proofs of the library, with one case more: JvmDerived/Free/Laws.lean (Back.of_free), Shelf42/LK1.lean (callV, callS), Shelf/KitTraced.lean (throwNew0V, throwNewS). -/
/-- where a method has thrown q: the class by its name, the cell, what was written, the world -/
def vx_T (XC : String → State → State → Prop) (st : State) (q : Addr) (t : State) (mc ms : Nat) (free : Addr → Prop) : Prop :=
  ∃ (E : String) (ce : Cell) (L : List Loc), XC E st t ∧ t.heap[q]? = some ce ∧ ce.vm = .none ∧ st.vm.findClass E = some ce.cls ∧ st.WarmedH t.vm ∧ st.sameButNew ({ t with vm := st.vm } : State) L mc ms ∧ ∀ z ∈ L, free z.base
def vx_Q (Qc : Array Value → State → Outcome → State → Prop) (XC : String → State → State → Prop) (mc ms : Nat) (free : Addr → Prop) : Array Value → State → Outcome → State → Prop := fun a st o t =>
  (Qc a st o t ∧ ∃ L, FrameEnd st o t L mc ms ∧ ∀ q ∈ L, free q.base) ∨ ∃ q, o = .threw q ∧ vx_T XC st q t mc ms free
/-- a callee that returns or throws -/
def vx_Met (l : Launch) (y : MethodName) (ws : List Cond) (rm : Room) (Pc : Array Value → State → Prop) (Qc : Array Value → State → Outcome → State → Prop) (XC : String → State → State → Prop) (mc ms : Nat) (free : Addr → Prop) : Prop :=
  MetFree l y (headSpec ws rm) Pc (fun _ _ _ _ _ => True) (vx_Q Qc XC mc ms free)
def vx_Post (XC : String → State → State → Prop) (mc ms : Nat) (free : Addr → Prop) : Pt → Array Value → Addr → Pt → Prop := fun A a q B =>
  ∃ (g : JFrame) (mk : MethodId) (t : State) (L : List Loc) (E : String) (ce : Cell), B.U.heap = t.heap ∧ B.U.vm = t.vm ∧ XC E (A.U.calling g mk a) t ∧ t.heap[q]? = some ce ∧ ce.vm = .none ∧ A.U.vm.findClass E = some ce.cls ∧ B.locs = A.locs ++ L ∧ (∀ z ∈ L, free z.base) ∧ B.cells = A.cells + mc ∧ B.slots = A.slots + ms
def vx_Back (l : Launch) (R : Room) (p : Program) (e : Env) (below : List Frame) (s : State) (sargs : Array Value) (y : MethodName) (len W9 : Nat)
    (Pre : Pt → Array Value → Prop) (Post : Pt → Array Value → Option Value → Pt → Prop) (PostX : Pt → Array Value → Addr → Pt → Prop) : Prop :=
  ∀ (m : MethodId) (meth : Method) (c : Code) (A : Pt) (g : JFrame) (ig : Instr) (mk : MethodId) (a : Array Value),
    Stand p l e R s m sargs below meth c A.U A.locs A.cells A.slots → g.method = m → g.locals.size = c.maxLocals → decode c.code g.pc = .ok (ig, len) →
    2 * g.monitorRoom + (g.stack.map fun v => v.category).sum ≤ W9 → A.U.methodNamed? y = some mk → Pre A a →
    (∃ (v : Option Value) (B : Pt), Stand p l e R s m sargs below meth c B.U B.locs B.cells B.slots ∧ Post A a v B ∧
      Steps p.tables e below (doInvoke e (A.U.setTop g) [] mk a).1 (B.U.setTop { g with pc := g.pc + len, stack := v.toList ++ g.stack })) ∨
    (∃ (q : Addr) (B : Pt), Stand p l e R s m sargs below meth c B.U B.locs B.cells B.slots ∧ PostX A a q B ∧
      Steps p.tables e below (doInvoke e (A.U.setTop g) [] mk a).1 ((B.U.setTop g).pushFrame (.throwing q)))
section Payer
variable {l : Launch} {R : Room} {p : Program} {e : Env} {below : List Frame} {s : State} {sargs : Array Value} {y : MethodName} {len W9 : Nat}
theorem vx_back {ws : List Cond} {rm : Room} {Pc : Array Value → State → Prop} {Qc : Array Value → State → Outcome → State → Prop} {XC : String → State → State → Prop} {mc ms : Nat} {free : Addr → Prop} {bytes : ByteArray} {maxL : Nat} {ret : Option FieldType}
    (hM : vx_Met l y ws rm Pc Qc XC mc ms free) (hblind : FrameBlind Pc) (hrc : rm.cells = mc) (hrs : rm.slots = ms)
    (hframes : rm.frames + 1 ≤ R.frames) (hlocals : W9 + (maxL + 11) + rm.locals ≤ R.locals)
    (hws : ∀ w ∈ ws, ∀ a' U, s.WarmedH U.vm → w.before a' U = true) (hcode : Cond.code y bytes maxL ret ∈ ws) (hinit : ∀ a' U, s.WarmedH U.vm → (Cond.initialized y.cls).before a' U = true) :
    vx_Back l R p e below s sargs y len W9 (PreOf R mc ms Pc) (PostOf Qc mc ms free) (vx_Post XC mc ms free) := by
  intro m meth c A g ig mk a X hg hsize hdg hW hn hp
  have h1 : (headSpec ws rm).pre.before a A.U = true := atoms_intro fun w hw => hws w hw _ _ X.warmed
  have h2 : (Cond.code y bytes maxL ret).before a A.U = true := hws _ hcode _ _ X.warmed
  have h3 : (Cond.initialized y.cls).before a A.U = true := hinit _ _ X.warmed
  have h4 : A.cells + (headSpec ws rm).room.cells ≤ R.cells := by rw [show (headSpec ws rm).room.cells = mc from hrc]; exact hp.1
  have h5 : A.slots + (headSpec ws rm).room.slots ≤ R.slots := by rw [show (headSpec ws rm).room.slots = ms from hrs]; exact hp.2.1
  have hPc : Pc a (A.U.calling g mk a) := hblind _ _ _ _ hp.2.2
  obtain ⟨U, Ls, c0, s0⟩ := A
  dsimp only [Pt.U, Pt.locs, Pt.cells, Pt.slots] at h1 h2 h3 h4 h5 X hn hPc ⊢
  obtain ⟨methY, cY, hmY, hcY, -, hlY, -, -, -, -⟩ := Cond.code_spec hn h2
  obtain ⟨kY, hkY, -⟩ := className_of_methodNamed hn
  have hinitY : kY.init = .initialized := Cond.initialized_spec (findClass_of_methodNamed hn) hkY h3
  have h : At U g.method c below := by rw [hg]; exact X.here
  have hlocals9 : W9 + (maxL + 11) + (headSpec ws rm).room.locals ≤ R.locals := hlocals
  have happ : (headSpec ws rm).appliesLoose y e.platform (U.calling g mk a) = true :=
    Spec.appliesLoose_calling (g := g) h hdg hn hkY hinitY
      (X.room_calling (g := g) (R' := (headSpec ws rm).room) hsize hmY hcY hframes (by rw [hlY]; omega) h4 h5) h1
  obtain ⟨mid, hmid⟩ := h.above
  have hfr : (U.setTop g).frames = (.java g :: mid) ++ below := by rw [State.frames_setTop' g h.top, hmid]; rfl
  obtain ⟨o, s₂, hsteps, -, hend, hq⟩ := Steps.callFree hM p X.admits X.cas X.clock (acts := []) hfr happ hPc trivial
  have hq' : vx_Q Qc XC mc ms free a (U.calling g mk a) o s₂ := hq
  rw [State.frames_setTop' g h.top] at hend
  obtain ⟨g₀, hg0⟩ := Option.isSome_iff_exists.mp h.top
  obtain ⟨r, hr⟩ := State.topJava?_eq_some.mp hg0
  have hr' : (({ U with heap := s₂.heap, slotsUsed := s₂.slotsUsed } : State).setVm s₂.vm).frames = .java g₀ :: r := hr
  rcases hq' with ⟨hqc, L, hfe, hL⟩ | ⟨q, rfl, E, ce, L, hx, hce, hcv, hcl, hW₂, hsm, hL⟩
  · obtain ⟨⟨v, rfl⟩, hW₂, e2, q2, q3, q4, q5, q6⟩ := id hfe
    have e3 : s₂ = ({ (U.calling g mk a).setFrames s₂.frames with heap := s₂.heap, slotsUsed := s₂.slotsUsed } : State).setVm s₂.vm := by
      have : s₂ = ({ s₂ with vm := (U.calling g mk a).vm } : State).setVm s₂.vm := rfl
      rw [e2] at this
      exact this
    obtain ⟨c₂, i₂, len₂, hc₂, hd₂, hf₂⟩ := hend
    have hW' : U.WarmedH s₂.vm := hW₂
    have hcc : c₂ = c := by
      have h1 : s₂.code? g.method = U.code? g.method := by
        rw [State.code?_eq, State.code?_eq, hW'.alike.method?]
      exact Option.some.inj (hc₂.symm.trans (h1.trans h.code))
    subst hcc
    have hlen : len₂ = len := by rw [hdg] at hd₂; cases hd₂; rfl
    subst hlen
    have hs₂ : s₂ = (({ U with heap := s₂.heap, slotsUsed := s₂.slotsUsed } : State).setVm s₂.vm).setTop { g with pc := g.pc + len₂, stack := v.toList ++ g.stack } := by
      refine e3.trans ?_
      rw [hf₂, State.calling_eq h.top, State.setFrames_setFrames, State.setTop_of_frames _ hr', hr]
      rfl
    have hsame : U.sameButNew ({ U with heap := s₂.heap, slotsUsed := s₂.slotsUsed } : State) L mc ms := by
      refine ⟨?_, q2, q3, q4, q5, q6⟩
      obtain ⟨t, ht, -⟩ := State.frames_cons hr
      show ({ U with heap := s₂.heap, slotsUsed := s₂.slotsUsed } : State) = { U.setFrames U.frames with heap := s₂.heap, slotsUsed := s₂.slotsUsed }
      rw [State.setFrames_self ht]
    subst hg
    refine Or.inl ⟨v, ⟨(({ U with heap := s₂.heap, slotsUsed := s₂.slotsUsed } : State).setVm s₂.vm), Ls ++ L, c0 + mc, s0 + ms⟩,
      ⟨X.admits, X.cas, X.clock, X.frames, X.room, X.hears, X.method, X.code, (X.here.setHeapUsed s₂.heap s₂.slotsUsed).setVm hW'.alike, X.tail, State.WarmedH.trans X.warmed hW', X.limits, X.bytes, X.same.trans (hsame.setVm s.vm)⟩,
      ⟨g, mk, s₂, L, rfl, rfl, hqc, rfl, hL, rfl, rfl⟩, ?_⟩
    show Steps p.tables e below _ ((({ U with heap := s₂.heap, slotsUsed := s₂.slotsUsed } : State).setVm s₂.vm).setTop { g with pc := g.pc + len₂, stack := v.toList ++ g.stack })
    rw [← hs₂]
    exact hsteps
  · obtain ⟨e2, q2, q3, q4, q5, q6⟩ := id hsm
    have e3 : s₂ = ({ (U.calling g mk a).setFrames s₂.frames with heap := s₂.heap, slotsUsed := s₂.slotsUsed } : State).setVm s₂.vm := by
      have : s₂ = ({ s₂ with vm := (U.calling g mk a).vm } : State).setVm s₂.vm := rfl
      rw [e2] at this
      exact this
    have hf₂ : s₂.frames = .throwing q :: .java g :: U.frames.tail := hend
    have hW' : U.WarmedH s₂.vm := hW₂
    have hs₂ : s₂ = ((({ U with heap := s₂.heap, slotsUsed := s₂.slotsUsed } : State).setVm s₂.vm).setTop g).pushFrame (.throwing q) := by
      refine e3.trans ?_
      rw [hf₂, State.calling_eq h.top, State.setFrames_setFrames, State.pushFrame, State.frames_setTop _ hr', State.setTop_of_frames _ hr', State.setFrames_setFrames, hr]
      rfl
    have hsame : U.sameButNew ({ U with heap := s₂.heap, slotsUsed := s₂.slotsUsed } : State) L mc ms := by
      refine ⟨?_, q2, q3, q4, q5, q6⟩
      obtain ⟨t, ht, -⟩ := State.frames_cons hr
      show ({ U with heap := s₂.heap, slotsUsed := s₂.slotsUsed } : State) = { U.setFrames U.frames with heap := s₂.heap, slotsUsed := s₂.slotsUsed }
      rw [State.setFrames_self ht]
    subst hg
    refine Or.inr ⟨q, ⟨(({ U with heap := s₂.heap, slotsUsed := s₂.slotsUsed } : State).setVm s₂.vm), Ls ++ L, c0 + mc, s0 + ms⟩,
      ⟨X.admits, X.cas, X.clock, X.frames, X.room, X.hears, X.method, X.code, (X.here.setHeapUsed s₂.heap s₂.slotsUsed).setVm hW'.alike, X.tail, State.WarmedH.trans X.warmed hW', X.limits, X.bytes, X.same.trans (hsame.setVm s.vm)⟩,
      ⟨g, mk, s₂, L, E, ce, rfl, rfl, hx, hce, hcv, hcl, rfl, hL, rfl, rfl⟩, ?_⟩
    show Steps p.tables e below _ (((({ U with heap := s₂.heap, slotsUsed := s₂.slotsUsed } : State).setVm s₂.vm).setTop g).pushFrame (.throwing q))
    rw [← hs₂]
    exact hsteps
end Payer
section Calls
variable {p : Program} {l : Launch} {e : Env} {R : Room} {s : State} {m : MethodId} {args : Array Value} {below : List Frame} {meth : Method} {c : Code} {T : State} {locs : List Loc} {cells slots : Nat}
theorem vx_callV (X : Stand p l e R s m args below meth c T locs cells slots) (hexec : p.tables.exec = Jvm.exec) {own C : String} {index : Nat} {y : MethodName} {bytes : ByteArray} {maxL : Nat} {ret : Option FieldType}
    (hown : s.vm.findClass own = some m.cls) (hlink : (Cond.methodLink own index y).before args s = true) (hinst : (Cond.instanceMethod y).before args s = true) (hsel : (Cond.selects C y y).before args s = true)
    (hcode : (Cond.code y bytes maxL ret).before args s = true) (hy : y.cls ≠ "java/lang/invoke/MethodHandle" ∧ y.cls ≠ "java/lang/invoke/VarHandle")
    {W9 : Nat} {Pre : Pt → Array Value → Prop} {Post : Pt → Array Value → Option Value → Pt → Prop} {PostX : Pt → Array Value → Addr → Pt → Prop} (hK : vx_Back l R p e below s args y 3 W9 Pre Post PostX)
    {b : Addr} {cellB : Cell} (hcell : T.heap[b]? = some cellB) (hobj : cellB.vm.isStatics = false) (hcls : s.vm.findClass C = some cellB.cls)
    {g : JFrame} (hg : g.method = m) (hsize : g.locals.size = c.maxLocals) {argsL rest : List Value} (hlen : ∀ sig, parseMethodDescriptor y.desc = some sig → argsL.length = sig.parameters.length)
    (hstack : g.stack = argsL.reverse ++ .ref b :: rest) (hW : 2 * g.monitorRoom + (rest.map fun v => v.category).sum ≤ W9) (hdg : decode c.code g.pc = .ok (.invokevirtual index, 3))
    (hpre : ∀ vm₁, s.WarmedH vm₁ → Pre ⟨T.setVm vm₁, locs, cells, slots⟩ (Value.ref b :: argsL).toArray) :
    (∃ (v : Option Value) (vm₁ : Vm) (B : Pt), s.WarmedH vm₁ ∧ Stand p l e R s m args below meth c B.U B.locs B.cells B.slots ∧ Post ⟨T.setVm vm₁, locs, cells, slots⟩ (Value.ref b :: argsL).toArray v B ∧
      ∀ target, Steps p.tables e below (B.U.setTop { g with pc := g.pc + 3, stack := v.toList ++ rest }) target → Steps p.tables e below (T.setTop g) target) ∨
    (∃ (q : Addr) (vm₁ : Vm) (B : Pt), s.WarmedH vm₁ ∧ Stand p l e R s m args below meth c B.U B.locs B.cells B.slots ∧ PostX ⟨T.setVm vm₁, locs, cells, slots⟩ (Value.ref b :: argsL).toArray q B ∧
      Steps p.tables e below (T.setTop g) ((B.U.setTop { g with stack := rest }).pushFrame (.throwing q))) := by
  obtain ⟨mk, methM, hnamed, hmethM, hstM, habM⟩ := Cond.instanceMethod_spec hinst
  obtain ⟨methM', cM, hmethM', -, -, -, -, -, -, hsigM⟩ := Cond.code_spec hnamed hcode
  cases hmethM.symm.trans hmethM'
  obtain ⟨c2, r2, m2, q1, q2, q3, q4, kP, hkP, hkPi⟩ := Cond.selects_spec hsel
  cases hcls.symm.trans q1
  cases (State.methodFound?_of_named hnamed hy).symm.trans q2
  cases hnamed.symm.trans q3
  have hselP : selectMethod e.platform s.vm cellB.cls mk = .method mk := by rw [Launch.admits_selectMethod X.admits]; exact q4
  obtain ⟨vm₁, X₁, hstep₁⟩ := X.invokevirtual hexec hown hlink hnamed hmethM hstM hkP hkPi hy (a := b) (cell := cellB) hcell
    (fun z h => by rw [h] at hobj; cases hobj) hselP hmethM habM hkP hkPi (g := g) hg (argsL := argsL) (rest := rest) (hlen _ hsigM) hstack hdg
  rcases hK m meth c ⟨T.setVm vm₁, locs, cells, slots⟩ { g with stack := rest } (.invokevirtual index) mk (Value.ref b :: argsL).toArray X₁ hg hsize hdg hW (X₁.named hnamed) (hpre vm₁ X₁.warmed) with ⟨v, B, X', hpost, hsteps⟩ | ⟨q, B, X', hpost, hsteps⟩
  · exact Or.inl ⟨v, vm₁, B, X₁.warmed, X', hpost, fun target h => hstep₁ _ fun acts => by rw [doInvoke_state]; exact hsteps.trans h⟩
  · exact Or.inr ⟨q, vm₁, B, X₁.warmed, X', hpost, hstep₁ _ fun acts => by rw [doInvoke_state]; exact hsteps⟩
theorem vx_callS (X : Stand p l e R s m args below meth c T locs cells slots) (hexec : p.tables.exec = Jvm.exec) {own : String} {index : Nat} {y : MethodName} {bytes : ByteArray} {maxL : Nat} {ret : Option FieldType}
    (hown : s.vm.findClass own = some m.cls) (hlink : (Cond.methodLink own index y).before args s = true) (hstat : (Cond.static y).before args s = true) (hinit : (Cond.initialized y.cls).before args s = true)
    (hcode : (Cond.code y bytes maxL ret).before args s = true) (hy : y.cls ≠ "java/lang/invoke/MethodHandle" ∧ y.cls ≠ "java/lang/invoke/VarHandle")
    {W9 : Nat} {Pre : Pt → Array Value → Prop} {Post : Pt → Array Value → Option Value → Pt → Prop} {PostX : Pt → Array Value → Addr → Pt → Prop} (hK : vx_Back l R p e below s args y 3 W9 Pre Post PostX)
    {g : JFrame} (hg : g.method = m) (hsize : g.locals.size = c.maxLocals) {argsL rest : List Value} (hlen : ∀ sig, parseMethodDescriptor y.desc = some sig → argsL.length = sig.parameters.length)
    (hstack : g.stack = argsL.reverse ++ rest) (hW : 2 * g.monitorRoom + (rest.map fun v => v.category).sum ≤ W9) (hdg : decode c.code g.pc = .ok (.invokestatic index, 3))
    (hpre : ∀ vm₁, s.WarmedH vm₁ → Pre ⟨T.setVm vm₁, locs, cells, slots⟩ argsL.toArray) :
    (∃ (v : Option Value) (vm₁ : Vm) (B : Pt), s.WarmedH vm₁ ∧ Stand p l e R s m args below meth c B.U B.locs B.cells B.slots ∧ Post ⟨T.setVm vm₁, locs, cells, slots⟩ argsL.toArray v B ∧
      ∀ target, Steps p.tables e below (B.U.setTop { g with pc := g.pc + 3, stack := v.toList ++ rest }) target → Steps p.tables e below (T.setTop g) target) ∨
    (∃ (q : Addr) (vm₁ : Vm) (B : Pt), s.WarmedH vm₁ ∧ Stand p l e R s m args below meth c B.U B.locs B.cells B.slots ∧ PostX ⟨T.setVm vm₁, locs, cells, slots⟩ argsL.toArray q B ∧
      Steps p.tables e below (T.setTop g) ((B.U.setTop { g with stack := rest }).pushFrame (.throwing q))) := by
  obtain ⟨mk, hnamed⟩ := Cond.code_named hcode
  obtain ⟨methM, cM, hmethM, -, -, -, -, -, -, hsigM⟩ := Cond.code_spec hnamed hcode
  have hstatic : methM.isStatic = true := Cond.static_spec hnamed hmethM hstat
  obtain ⟨kP, hkP, -⟩ := className_of_methodNamed hnamed
  have hinitP : kP.init = .initialized := Cond.initialized_spec (findClass_of_methodNamed hnamed) hkP hinit
  obtain ⟨vm₁, X₁, hstep₁⟩ := X.invokestatic hexec hown hlink hnamed hmethM hstatic hkP hinitP hy (g := g) hg (argsL := argsL) (rest := rest) (hlen _ hsigM) hstack hdg
  rcases hK m meth c ⟨T.setVm vm₁, locs, cells, slots⟩ { g with stack := rest } (.invokestatic index) mk argsL.toArray X₁ hg hsize hdg hW (X₁.named hnamed) (hpre vm₁ X₁.warmed) with ⟨v, B, X', hpost, hsteps⟩ | ⟨q, B, X', hpost, hsteps⟩
  · exact Or.inl ⟨v, vm₁, B, X₁.warmed, X', hpost, fun target h => hstep₁ _ fun acts => by rw [doInvoke_state]; exact hsteps.trans h⟩
  · exact Or.inr ⟨q, vm₁, B, X₁.warmed, X', hpost, hstep₁ _ fun acts => by rw [doInvoke_state]; exact hsteps⟩
end Calls
theorem vx_cls {s : State} {T : State} {vm₁ : Vm} {E : String} {k : ClassId} (hW : s.WarmedH vm₁) (h : (T.setVm vm₁).vm.findClass E = some k) : s.vm.findClass E = some k := by
  have h1 : vm₁.findClass E = some k := h
  rw [hW.alike.findClass] at h1
  exact h1
/-- the method's frame g, with q thrown over it -/
def vx_W (p : Program) (l : Launch) (e : Env) (R : Room) (s : State) (m : MethodId) (args : Array Value) (below : List Frame) (meth : Method) (c : Code) (H : Heap) (locs : List Loc) (cells slots : Nat) (Q : State → Prop) (g : JFrame) (q : Addr) : Prop :=
  ∀ T : State, T.heap = H → Stand p l e R s m args below meth c T locs cells slots → ∃ t, Steps p.tables e below ((T.setTop g).pushFrame (.throwing q)) t ∧ Q t
def vx_Run (p : Program) (l : Launch) (e : Env) (R : Room) (s : State) (m : MethodId) (args : Array Value) (below : List Frame) (meth : Method) (c : Code) (H : Heap) (locs : List Loc) (cells slots mc ms : Nat) (g : JFrame) (rest : List Value) (Qa : State → Outcome → State → Prop) (XC : String → State → State → Prop) (free : Addr → Prop) : Prop :=
  ∀ T : State, T.heap = H → Stand p l e R s m args below meth c T locs cells slots →
    (∃ (v : Option Value) (st₀ t T' : State) (L : List Loc), st₀.heap = H ∧ Stand p l e R s m args below meth c T' (locs ++ L) (cells + mc) (slots + ms) ∧ (∀ q ∈ L, free q.base) ∧ T'.heap = t.heap ∧ T'.vm = t.vm ∧ Qa st₀ (.returned v) t ∧
      Goes p e below T g T' { g with pc := g.pc + 3, stack := v.toList ++ rest }) ∨
    (∃ (q : Addr) (st₀ t T' : State) (L : List Loc) (E : String) (ce : Cell), st₀.heap = H ∧ Stand p l e R s m args below meth c T' (locs ++ L) (cells + mc) (slots + ms) ∧ (∀ z ∈ L, free z.base) ∧ T'.heap = t.heap ∧ T'.vm = t.vm ∧ XC E st₀ t ∧ t.heap[q]? = some ce ∧ ce.vm = .none ∧ s.vm.findClass E = some ce.cls ∧
      Steps p.tables e below (T.setTop g) ((T'.setTop { g with stack := rest }).pushFrame (.throwing q)))
def vx_X {S : Type} (px : S → Prop) (B : String → S → State → Prop) (A : Nat → Prop) : String → State → State → Prop := fun E st t => ∃ u : S, px u ∧ B E u t ∧ va_F A st t
section Runs
variable {p : Program} {l : Launch} {e : Env} {R : Room} {s : State} {m : MethodId} {args : Array Value} {below : List Frame} {meth : Method} {c : Code} {H : Heap} {locs : List Loc} {cells slots : Nat}
variable {y : MethodName} {bytes cc : ByteArray} {maxL nL mc ms n index : Nat} {ret : Option FieldType} {ws : List Cond} {rm : Room} {Pc : Array Value → State → Prop} {Qc : Array Value → State → Outcome → State → Prop} {XC : String → State → State → Prop} {free : Addr → Prop} {Ts : List Cond} {own C : String} {b : Addr} {As rest : List Value} {g : JFrame}
theorem vx_callBack (cb : CallB R s args own index y bytes maxL ret ws rm mc ms n) (hM : vx_Met l y ws rm Pc Qc XC mc ms free) (hbl : FrameBlind Pc) : vx_Back l R p e below s args y 3 8 (PreOf R mc ms Pc) (PostOf Qc mc ms free) (vx_Post XC mc ms free) := by
  obtain ⟨hrc, hrs, hfr, hlo, hws, hcw, -, hini, -⟩ := cb
  exact vx_back (bytes := bytes) (maxL := maxL) (ret := ret) hM hbl hrc hrs hfr hlo hws hcw (fun a' U hW => word_at hW (Or.inl (by first | rfl | simp [Cond.onTables, Cond.keeps, Cond.steady])) hini)
theorem vx_runV (S : CallFix p m c cc nL s args Ts own) (hM : vx_Met l y ws rm Pc Qc XC mc ms free) (cw : CallW R s args own C index y bytes maxL ret ws rm mc ms n) (hp : PreV s H C b Pc As)
    (hg : g.method = m) (hn : As.length = n) (hsize : g.locals.size = nL) (hstack : g.stack = As.reverse ++ .ref b :: rest) (hW : 2 * g.monitorRoom + (rest.map fun v => v.category).sum ≤ 8) (hdg : decode cc g.pc = .ok (.invokevirtual index, 3)) (hf : cells + mc ≤ R.cells ∧ slots + ms ≤ R.slots) :
    vx_Run p l e R s m args below meth c H locs cells slots mc ms g rest (Qc (Value.ref b :: As).toArray) XC free := by
  have hK : vx_Back l R p e below s args y 3 8 (PreOf R mc ms Pc) (PostOf Qc mc ms free) (vx_Post XC mc ms free) := vx_callBack cw.1 hM hp.1
  obtain ⟨⟨-, -, -, -, -, -, hcode, -, hy, hlen, hl⟩, hin, hse⟩ := cw
  obtain ⟨hx, hb, hml, ho, -⟩ := S
  obtain ⟨-, ⟨cellB, hcB, hoB, hclB⟩, hPc⟩ := hp
  intro T hT X
  rcases vx_callV X hx (C := C) (bytes := bytes) (maxL := maxL) (ret := ret) ho hl hin hse hcode hy hK (by rw [hT]; exact hcB) hoB hclB hg (hsize.trans hml.symm) (argsL := As) (rest := rest) (fun sig h => hn.trans (hlen sig h)) hstack hW (by rw [hb]; exact hdg)
    (fun vm₁ hW₁ => ⟨hf.1, hf.2, hPc (T.setVm vm₁) hT hW₁⟩) with ⟨v, vm₁, ⟨U', l2, c2, s2⟩, hW₁, X', ⟨g', mk, t, L, e1, e2, hq, h1, hL, h2, h3⟩, st⟩ | ⟨q, vm₁, ⟨U', l2, c2, s2⟩, hW₁, X', ⟨g', mk, t, L, E, ce, e1, e2, hq, hce, hcv, hcl, h1, hL, h2, h3⟩, st⟩
  · dsimp only [Pt.U, Pt.locs, Pt.cells, Pt.slots] at X' e1 e2 h1 h2 h3 st
    subst h1; subst h2; subst h3
    exact Or.inl ⟨v, (T.setVm vm₁).calling g' mk (Value.ref b :: As).toArray, t, U', L, hT, X', hL, e1, e2, hq, st⟩
  · dsimp only [Pt.U, Pt.locs, Pt.cells, Pt.slots] at X' e1 e2 h1 h2 h3 st hcl
    subst h1; subst h2; subst h3
    exact Or.inr ⟨q, (T.setVm vm₁).calling g' mk (Value.ref b :: As).toArray, t, U', L, E, ce, hT, X', hL, e1, e2, hq, hce, hcv, vx_cls hW₁ hcl, st⟩
theorem vx_runS (S : CallFix p m c cc nL s args Ts own) (hM : vx_Met l y ws rm Pc Qc XC mc ms free) (cw : CallB R s args own index y bytes maxL ret ws rm mc ms n ∧ (Cond.static y).before args s = true) (hp : PreS s H Pc As)
    (hg : g.method = m) (hn : As.length = n) (hsize : g.locals.size = nL) (hstack : g.stack = As.reverse ++ rest) (hW : 2 * g.monitorRoom + (rest.map fun v => v.category).sum ≤ 8) (hdg : decode cc g.pc = .ok (.invokestatic index, 3)) (hf : cells + mc ≤ R.cells ∧ slots + ms ≤ R.slots) :
    vx_Run p l e R s m args below meth c H locs cells slots mc ms g rest (Qc As.toArray) XC free := by
  have hK : vx_Back l R p e below s args y 3 8 (PreOf R mc ms Pc) (PostOf Qc mc ms free) (vx_Post XC mc ms free) := vx_callBack cw.1 hM hp.1
  obtain ⟨⟨-, -, -, -, -, -, hcode, hini, hy, hlen, hl⟩, hstt⟩ := cw
  obtain ⟨hx, hb, hml, ho, -⟩ := S
  intro T hT X
  rcases vx_callS X hx (bytes := bytes) (maxL := maxL) (ret := ret) ho hl hstt hini hcode hy hK hg (hsize.trans hml.symm) (argsL := As) (rest := rest) (fun sig h => hn.trans (hlen sig h)) hstack hW (by rw [hb]; exact hdg)
    (fun vm₁ hW₁ => ⟨hf.1, hf.2, hp.2 (T.setVm vm₁) hT hW₁⟩) with ⟨v, vm₁, ⟨U', l2, c2, s2⟩, hW₁, X', ⟨g', mk, t, L, e1, e2, hq, h1, hL, h2, h3⟩, st⟩ | ⟨q, vm₁, ⟨U', l2, c2, s2⟩, hW₁, X', ⟨g', mk, t, L, E, ce, e1, e2, hq, hce, hcv, hcl, h1, hL, h2, h3⟩, st⟩
  · dsimp only [Pt.U, Pt.locs, Pt.cells, Pt.slots] at X' e1 e2 h1 h2 h3 st
    subst h1; subst h2; subst h3
    exact Or.inl ⟨v, (T.setVm vm₁).calling g' mk As.toArray, t, U', L, hT, X', hL, e1, e2, hq, st⟩
  · dsimp only [Pt.U, Pt.locs, Pt.cells, Pt.slots] at X' e1 e2 h1 h2 h3 st hcl
    subst h1; subst h2; subst h3
    exact Or.inr ⟨q, (T.setVm vm₁).calling g' mk As.toArray, t, U', L, E, ce, hT, X', hL, e1, e2, hq, hce, hcv, vx_cls hW₁ hcl, st⟩
end Runs
section Rows
variable {p : Program} {l : Launch} {e : Env} {R : Room} {s : State} {m : MethodId} {args : Array Value} {below : List Frame} {meth : Method} {c : Code} {H : Heap} {locs : List Loc} {cells slots : Nat} {Q : State → Prop}
variable {mc ms : Nat} {free : Addr → Prop} {A0 A1 : Nat → Prop} {H0 : Heap} {a : Array Value} {pc : Nat} {ls : Array Slot} {st0 rest : List Value}
theorem vx_keep {st₀ t T' : State} {L : List Loc} (h0 : st₀.heap = H) (e1 : T'.heap = t.heap) (hS : va_S A0 H0 H locs) (hA : ∀ q, q < H.size → A1 q → A0 q) (hf : ∀ q, free q → A0 q) (hL : ∀ q ∈ L, free q.base) (hF : va_F A1 st₀ t) :
    H.size ≤ T'.heap.size ∧ (∀ q : Nat, q < H.size → ¬ A1 q → T'.heap[q]? = H[q]?) ∧ va_S A0 H0 T'.heap (locs ++ L) := by
  obtain ⟨hz, hk⟩ := hF
  rw [h0] at hz hk
  exact ⟨by rw [e1]; exact hz, fun q h1 h2 => by rw [e1]; exact hk q h1 h2,
    ⟨Nat.le_trans hS.1 (by rw [e1]; exact hz), fun q h1 h2 => by rw [e1, hk q (Nat.lt_of_lt_of_le h1 hS.1) (fun z => h2 (hA q (Nat.lt_of_lt_of_le h1 hS.1) z))]; exact hS.2.1 q h1 h2, fun q hq => by
      rcases List.mem_append.mp hq with h | h
      · exact hS.2.2 q h
      · exact hf _ (hL q h)⟩⟩
theorem vx_calli {S SX : Type} {post : Int32 → S → Prop} {px : SX → Prop} {B : S → State → Prop} {BX : String → SX → State → Prop} {AX : Nat → Prop} (hr : vx_Run p l e R s m args below meth c H locs cells slots mc ms (F0 m pc ls st0) rest (va_Qi post B A1 a) (vx_X px BX AX) free) (hS : va_S A0 H0 H locs) (hA : ∀ q, q < H.size → A1 q → A0 q) (hf : ∀ q, free q → A0 q) (hAX : ∀ q, q < H.size → AX q → A0 q)
    (kx : ∀ (E : String) (ce : Cell) (q9 : Addr) (u : SX) (t : State) (H1 : Heap) (locs1 : List Loc), t.heap = H1 → s.vm.Alike t.vm → px u → BX E u t → H.size ≤ H1.size → (∀ q : Nat, q < H.size → ¬ AX q → H1[q]? = H[q]?) → va_S A0 H0 H1 locs1 → H1[q9]? = some ce → ce.vm = .none → s.vm.findClass E = some ce.cls → vx_W p l e R s m args below meth c H1 locs1 (cells + mc) (slots + ms) Q (F0 m pc ls rest) q9)
    (kk : ∀ (r : Int32) (u : S) (t : State) (H1 : Heap) (locs1 : List Loc), t.heap = H1 → s.vm.Alike t.vm → post r u → B u t → H.size ≤ H1.size → (∀ q : Nat, q < H.size → ¬ A1 q → H1[q]? = H[q]?) → va_S A0 H0 H1 locs1 → W p l e R s m args below meth c H1 locs1 (cells + mc) (slots + ms) Q (F0 m (pc + 3) ls (.int r :: rest))) : W p l e R s m args below meth c H locs cells slots Q (F0 m pc ls st0) := by
  intro T hT X
  rcases hr T hT X with ⟨v, st₀, t, T', L, h0, X', hL, e1, e2, ⟨⟨r, u, hv, hp, hb⟩, hF⟩, st⟩ | ⟨q, st₀, t, T', L, E, ce, h0, X', hL, e1, e2, ⟨u, hp, hb, hF⟩, hce, hcv, hcl, st⟩
  · cases hv
    obtain ⟨k1, k2, k3⟩ := vx_keep h0 e1 hS hA hf hL hF
    obtain ⟨t2, a1, b1⟩ := kk r u t T'.heap (locs ++ L) e1.symm (by rw [← e2]; exact X'.warmed.alike) hp hb k1 k2 k3 T' rfl X'
    exact ⟨t2, st t2 a1, b1⟩
  · obtain ⟨k1, k2, k3⟩ := vx_keep h0 e1 hS hAX hf hL hF
    obtain ⟨t2, a1, b1⟩ := kx E ce q u t T'.heap (locs ++ L) e1.symm (by rw [← e2]; exact X'.warmed.alike) hp hb k1 k2 k3 (by rw [e1]; exact hce) hcv hcl T' rfl X'
    exact ⟨t2, st.trans a1, b1⟩
theorem vx_calll {S SX : Type} {post : Int64 → S → Prop} {px : SX → Prop} {B : S → State → Prop} {BX : String → SX → State → Prop} {AX : Nat → Prop} (hr : vx_Run p l e R s m args below meth c H locs cells slots mc ms (F0 m pc ls st0) rest (va_Ql post B A1 a) (vx_X px BX AX) free) (hS : va_S A0 H0 H locs) (hA : ∀ q, q < H.size → A1 q → A0 q) (hf : ∀ q, free q → A0 q) (hAX : ∀ q, q < H.size → AX q → A0 q)
    (kx : ∀ (E : String) (ce : Cell) (q9 : Addr) (u : SX) (t : State) (H1 : Heap) (locs1 : List Loc), t.heap = H1 → s.vm.Alike t.vm → px u → BX E u t → H.size ≤ H1.size → (∀ q : Nat, q < H.size → ¬ AX q → H1[q]? = H[q]?) → va_S A0 H0 H1 locs1 → H1[q9]? = some ce → ce.vm = .none → s.vm.findClass E = some ce.cls → vx_W p l e R s m args below meth c H1 locs1 (cells + mc) (slots + ms) Q (F0 m pc ls rest) q9)
    (kk : ∀ (r : Int64) (u : S) (t : State) (H1 : Heap) (locs1 : List Loc), t.heap = H1 → s.vm.Alike t.vm → post r u → B u t → H.size ≤ H1.size → (∀ q : Nat, q < H.size → ¬ A1 q → H1[q]? = H[q]?) → va_S A0 H0 H1 locs1 → W p l e R s m args below meth c H1 locs1 (cells + mc) (slots + ms) Q (F0 m (pc + 3) ls (.long r :: rest))) : W p l e R s m args below meth c H locs cells slots Q (F0 m pc ls st0) := by
  intro T hT X
  rcases hr T hT X with ⟨v, st₀, t, T', L, h0, X', hL, e1, e2, ⟨⟨r, u, hv, hp, hb⟩, hF⟩, st⟩ | ⟨q, st₀, t, T', L, E, ce, h0, X', hL, e1, e2, ⟨u, hp, hb, hF⟩, hce, hcv, hcl, st⟩
  · cases hv
    obtain ⟨k1, k2, k3⟩ := vx_keep h0 e1 hS hA hf hL hF
    obtain ⟨t2, a1, b1⟩ := kk r u t T'.heap (locs ++ L) e1.symm (by rw [← e2]; exact X'.warmed.alike) hp hb k1 k2 k3 T' rfl X'
    exact ⟨t2, st t2 a1, b1⟩
  · obtain ⟨k1, k2, k3⟩ := vx_keep h0 e1 hS hAX hf hL hF
    obtain ⟨t2, a1, b1⟩ := kx E ce q u t T'.heap (locs ++ L) e1.symm (by rw [← e2]; exact X'.warmed.alike) hp hb k1 k2 k3 (by rw [e1]; exact hce) hcv hcl T' rfl X'
    exact ⟨t2, st.trans a1, b1⟩
theorem vx_callf {S SX : Type} {post : UInt32 → S → Prop} {px : SX → Prop} {B : S → State → Prop} {BX : String → SX → State → Prop} {AX : Nat → Prop} (hr : vx_Run p l e R s m args below meth c H locs cells slots mc ms (F0 m pc ls st0) rest (va_Qf post B A1 a) (vx_X px BX AX) free) (hS : va_S A0 H0 H locs) (hA : ∀ q, q < H.size → A1 q → A0 q) (hf : ∀ q, free q → A0 q) (hAX : ∀ q, q < H.size → AX q → A0 q)
    (kx : ∀ (E : String) (ce : Cell) (q9 : Addr) (u : SX) (t : State) (H1 : Heap) (locs1 : List Loc), t.heap = H1 → s.vm.Alike t.vm → px u → BX E u t → H.size ≤ H1.size → (∀ q : Nat, q < H.size → ¬ AX q → H1[q]? = H[q]?) → va_S A0 H0 H1 locs1 → H1[q9]? = some ce → ce.vm = .none → s.vm.findClass E = some ce.cls → vx_W p l e R s m args below meth c H1 locs1 (cells + mc) (slots + ms) Q (F0 m pc ls rest) q9)
    (kk : ∀ (r : UInt32) (u : S) (t : State) (H1 : Heap) (locs1 : List Loc), t.heap = H1 → s.vm.Alike t.vm → post r u → B u t → H.size ≤ H1.size → (∀ q : Nat, q < H.size → ¬ A1 q → H1[q]? = H[q]?) → va_S A0 H0 H1 locs1 → W p l e R s m args below meth c H1 locs1 (cells + mc) (slots + ms) Q (F0 m (pc + 3) ls (.float r :: rest))) : W p l e R s m args below meth c H locs cells slots Q (F0 m pc ls st0) := by
  intro T hT X
  rcases hr T hT X with ⟨v, st₀, t, T', L, h0, X', hL, e1, e2, ⟨⟨r, u, hv, hp, hb⟩, hF⟩, st⟩ | ⟨q, st₀, t, T', L, E, ce, h0, X', hL, e1, e2, ⟨u, hp, hb, hF⟩, hce, hcv, hcl, st⟩
  · cases hv
    obtain ⟨k1, k2, k3⟩ := vx_keep h0 e1 hS hA hf hL hF
    obtain ⟨t2, a1, b1⟩ := kk r u t T'.heap (locs ++ L) e1.symm (by rw [← e2]; exact X'.warmed.alike) hp hb k1 k2 k3 T' rfl X'
    exact ⟨t2, st t2 a1, b1⟩
  · obtain ⟨k1, k2, k3⟩ := vx_keep h0 e1 hS hAX hf hL hF
    obtain ⟨t2, a1, b1⟩ := kx E ce q u t T'.heap (locs ++ L) e1.symm (by rw [← e2]; exact X'.warmed.alike) hp hb k1 k2 k3 (by rw [e1]; exact hce) hcv hcl T' rfl X'
    exact ⟨t2, st.trans a1, b1⟩
theorem vx_calld {S SX : Type} {post : UInt64 → S → Prop} {px : SX → Prop} {B : S → State → Prop} {BX : String → SX → State → Prop} {AX : Nat → Prop} (hr : vx_Run p l e R s m args below meth c H locs cells slots mc ms (F0 m pc ls st0) rest (va_Qd post B A1 a) (vx_X px BX AX) free) (hS : va_S A0 H0 H locs) (hA : ∀ q, q < H.size → A1 q → A0 q) (hf : ∀ q, free q → A0 q) (hAX : ∀ q, q < H.size → AX q → A0 q)
    (kx : ∀ (E : String) (ce : Cell) (q9 : Addr) (u : SX) (t : State) (H1 : Heap) (locs1 : List Loc), t.heap = H1 → s.vm.Alike t.vm → px u → BX E u t → H.size ≤ H1.size → (∀ q : Nat, q < H.size → ¬ AX q → H1[q]? = H[q]?) → va_S A0 H0 H1 locs1 → H1[q9]? = some ce → ce.vm = .none → s.vm.findClass E = some ce.cls → vx_W p l e R s m args below meth c H1 locs1 (cells + mc) (slots + ms) Q (F0 m pc ls rest) q9)
    (kk : ∀ (r : UInt64) (u : S) (t : State) (H1 : Heap) (locs1 : List Loc), t.heap = H1 → s.vm.Alike t.vm → post r u → B u t → H.size ≤ H1.size → (∀ q : Nat, q < H.size → ¬ A1 q → H1[q]? = H[q]?) → va_S A0 H0 H1 locs1 → W p l e R s m args below meth c H1 locs1 (cells + mc) (slots + ms) Q (F0 m (pc + 3) ls (.double r :: rest))) : W p l e R s m args below meth c H locs cells slots Q (F0 m pc ls st0) := by
  intro T hT X
  rcases hr T hT X with ⟨v, st₀, t, T', L, h0, X', hL, e1, e2, ⟨⟨r, u, hv, hp, hb⟩, hF⟩, st⟩ | ⟨q, st₀, t, T', L, E, ce, h0, X', hL, e1, e2, ⟨u, hp, hb, hF⟩, hce, hcv, hcl, st⟩
  · cases hv
    obtain ⟨k1, k2, k3⟩ := vx_keep h0 e1 hS hA hf hL hF
    obtain ⟨t2, a1, b1⟩ := kk r u t T'.heap (locs ++ L) e1.symm (by rw [← e2]; exact X'.warmed.alike) hp hb k1 k2 k3 T' rfl X'
    exact ⟨t2, st t2 a1, b1⟩
  · obtain ⟨k1, k2, k3⟩ := vx_keep h0 e1 hS hAX hf hL hF
    obtain ⟨t2, a1, b1⟩ := kx E ce q u t T'.heap (locs ++ L) e1.symm (by rw [← e2]; exact X'.warmed.alike) hp hb k1 k2 k3 (by rw [e1]; exact hce) hcv hcl T' rfl X'
    exact ⟨t2, st.trans a1, b1⟩
theorem vx_callv {S SX : Type} {post : S → Prop} {px : SX → Prop} {B : S → State → Prop} {BX : String → SX → State → Prop} {AX : Nat → Prop} (hr : vx_Run p l e R s m args below meth c H locs cells slots mc ms (F0 m pc ls st0) rest (va_Qv post B A1 a) (vx_X px BX AX) free) (hS : va_S A0 H0 H locs) (hA : ∀ q, q < H.size → A1 q → A0 q) (hf : ∀ q, free q → A0 q) (hAX : ∀ q, q < H.size → AX q → A0 q)
    (kx : ∀ (E : String) (ce : Cell) (q9 : Addr) (u : SX) (t : State) (H1 : Heap) (locs1 : List Loc), t.heap = H1 → s.vm.Alike t.vm → px u → BX E u t → H.size ≤ H1.size → (∀ q : Nat, q < H.size → ¬ AX q → H1[q]? = H[q]?) → va_S A0 H0 H1 locs1 → H1[q9]? = some ce → ce.vm = .none → s.vm.findClass E = some ce.cls → vx_W p l e R s m args below meth c H1 locs1 (cells + mc) (slots + ms) Q (F0 m pc ls rest) q9)
    (kk : ∀ (u : S) (t : State) (H1 : Heap) (locs1 : List Loc), t.heap = H1 → s.vm.Alike t.vm → post u → B u t → H.size ≤ H1.size → (∀ q : Nat, q < H.size → ¬ A1 q → H1[q]? = H[q]?) → va_S A0 H0 H1 locs1 → W p l e R s m args below meth c H1 locs1 (cells + mc) (slots + ms) Q (F0 m (pc + 3) ls (rest))) : W p l e R s m args below meth c H locs cells slots Q (F0 m pc ls st0) := by
  intro T hT X
  rcases hr T hT X with ⟨v, st₀, t, T', L, h0, X', hL, e1, e2, ⟨⟨u, hv, hp, hb⟩, hF⟩, st⟩ | ⟨q, st₀, t, T', L, E, ce, h0, X', hL, e1, e2, ⟨u, hp, hb, hF⟩, hce, hcv, hcl, st⟩
  · cases hv
    obtain ⟨k1, k2, k3⟩ := vx_keep h0 e1 hS hA hf hL hF
    obtain ⟨t2, a1, b1⟩ := kk u t T'.heap (locs ++ L) e1.symm (by rw [← e2]; exact X'.warmed.alike) hp hb k1 k2 k3 T' rfl X'
    exact ⟨t2, st t2 a1, b1⟩
  · obtain ⟨k1, k2, k3⟩ := vx_keep h0 e1 hS hAX hf hL hF
    obtain ⟨t2, a1, b1⟩ := kx E ce q u t T'.heap (locs ++ L) e1.symm (by rw [← e2]; exact X'.warmed.alike) hp hb k1 k2 k3 (by rw [e1]; exact hce) hcv hcl T' rfl X'
    exact ⟨t2, st.trans a1, b1⟩
/-- caught by the row x of this method's table; the rows ahead don't take it -/
theorem vx_catch {own name : String} {E : String} {ce : Cell} {q : Addr} (hown : s.vm.findClass own = some m.cls) (pre : List ExceptionTableEntry) (x : ExceptionTableEntry) (suf : List ExceptionTableEntry) (hsplit : c.exceptionTable.toList = pre ++ x :: suf)
    (hpass : ∀ z ∈ pre, covers z pc = false ∨ (z.catchType ≠ 0 ∧ ∃ nm : String, (Cond.classLink own z.catchType nm).before args s = true ∧ va_Nc E nm s)) (hx : covers x pc = true) (h0 : x.catchType ≠ 0)
    (hlink : (Cond.classLink own x.catchType name).before args s = true) (hcast : (Cond.castable E name).before args s = true) (hcell : H[q]? = some ce) (hv : ce.vm = .none) (hcl : s.vm.findClass E = some ce.cls)
    (kk : W p l e R s m args below meth c H locs cells slots Q (F0 m x.handlerPc ls [.ref q])) : vx_W p l e R s m args below meth c H locs cells slots Q (F0 m pc ls rest) q := by
  intro T hT X
  have hpl : e.platform.magicAccessors = ({} : Platform).magicAccessors := by rw [X.admits.platform]
  obtain ⟨c3, c4, hc3, hc4, hasg⟩ := Cond.castable_spec hcast
  cases Option.some.inj (hc3.symm.trans hcl)
  obtain ⟨c5, hc5, hcl5⟩ := Cond.classLink_spec hown hlink e.platform hpl
  cases Option.some.inj (hc4.symm.trans hc5)
  obtain ⟨vm', X', st⟩ := X.thenCaughtThrough q (g := F0 m pc ls rest) rfl (Steps.refl _) (by rw [hT]; exact hcell) (by rw [hv]; rfl) (by obtain ⟨k9, h9, -⟩ := Vm.findClass_spec hcl; exact ⟨k9, h9⟩) pre x suf hsplit
    (fun z hz => by
      rcases hpass z hz with h | ⟨hz0, nm, hl1, hn1⟩
      · exact Or.inl h
      · obtain ⟨c6, hc6, hcl6⟩ := Cond.classLink_spec hown hl1 e.platform hpl
        obtain ⟨a8, b8, h1, h2, h3⟩ := hn1
        cases Option.some.inj (h1.symm.trans hcl)
        cases Option.some.inj (h2.symm.trans hc6)
        exact Or.inr ⟨hz0, _, hcl6, h3⟩) hx (Or.inr ⟨h0, c4, hcl5, hasg⟩)
  obtain ⟨t, a1, b1⟩ := kk (T.setVm vm') hT X'
  exact ⟨t, st.trans a1, b1⟩
end Rows
section Ends
variable {p : Program} {l : Launch} {e : Env} {R : Room} {s : State} {m : MethodId} {args : Array Value} {below : List Frame} {meth : Method} {c : Code} {H : Heap} {locs : List Loc} {cells slots : Nat} {Q : State → Prop}
variable {mc ms : Nat} {free : Addr → Prop} {A0 A1 : Nat → Prop} {H0 : Heap} {a : Array Value} {ls : Array Slot} {st0 rest : List Value}
variable {Qc : Array Value → State → Outcome → State → Prop} {XC : String → State → State → Prop}
/-- what a body that may throw owes at its end -/
def vx_MQ (below : List Frame) (Qc : Array Value → State → Outcome → State → Prop) (XC : String → State → State → Prop) (a : Array Value) (s : State) (mc ms : Nat) (free : Addr → Prop) : State → Prop := fun t =>
  ∃ o, t.status = .running ∧ Ended t below o ∧ vx_Q Qc XC mc ms free a s o t
theorem vx_ret {g : JFrame} {mc ms : Nat} (k : W p l e R s m args below meth c H locs cells slots (MQ below Qc args s mc ms free) g) : W p l e R s m args below meth c H locs cells slots (vx_MQ below Qc XC args s mc ms free) g := by
  intro T hT X
  obtain ⟨t, a1, o, b1, b2, b3, b4⟩ := k T hT X
  exact ⟨t, a1, o, b1, b2, Or.inl ⟨b3, b4⟩⟩
/-- not caught here: it goes on to the caller -/
theorem vx_widen {g : JFrame} {q : Addr} {k n : Nat} (h1 : cells ≤ k) (h2 : slots ≤ n) (kk : vx_W p l e R s m args below meth c H locs k n Q g q) : vx_W p l e R s m args below meth c H locs cells slots Q g q := fun T hT X => kk T hT (stand_widen X h1 h2)
theorem vx_out {pc : Nat} {E : String} {ce : Cell} {q : Addr} {mc ms : Nat} (hout : ∀ x ∈ c.exceptionTable.toList, covers x pc = false) (hlocks : meth.locks = false) (hcell : H[q]? = some ce) (hv : ce.vm = .none) (hcl : s.vm.findClass E = some ce.cls)
    (hx : ∀ t : State, t.heap = H → s.vm.Alike t.vm → XC E s t) (hf : ∀ z ∈ locs, free z.base) (hc : cells ≤ mc) (hs : slots ≤ ms) :
    vx_W p l e R s m args below meth c H locs cells slots (vx_MQ below Qc XC args s mc ms free) (F0 m pc ls rest) q := by
  intro T hT X
  obtain ⟨st1, hrun, hend, hW, hsm⟩ := X.leaveThrown q (g := F0 m pc ls rest) rfl rfl rfl hout hlocks
  have hcell9 : (T.setFrames (.throwing q :: below)).heap[q]? = some ce := by
    show T.heap[q]? = some ce
    rw [hT]; exact hcell
  exact ⟨_, st1, .threw q, hrun, hend, Or.inr ⟨q, rfl, E, ce, locs, hx _ hT hW.alike, hcell9, hv, hcl, hW, hsm.mono hc hs, hf⟩⟩
theorem vx_frame {U : State} {k n : Nat} (h : s.sameButNew ({ U with vm := s.vm } : State) locs k n) : s.heap.size ≤ U.heap.size ∧ ∀ q : Nat, q < s.heap.size → (∀ z ∈ locs, z.base ≠ q) → U.heap[q]? = s.heap[q]? := by
  obtain ⟨-, h2, -, -, -, h6⟩ := h
  refine ⟨h2, fun q hq hz => ?_⟩
  obtain ⟨c9, e1, e2, e3, e4⟩ := h6 q _ (Array.getElem?_eq_getElem hq)
  have hs : c9.slots = (s.heap[q]).slots := Array.ext_getElem? fun i => e4 i fun hm => hz _ hm rfl
  have h9 : c9 = s.heap[q] := by
    rw [hs] at e2
    exact e2
  have e5 : U.heap[q]? = some c9 := e1
  rw [e5, h9, Array.getElem?_eq_getElem hq]
/-- the words of a throw but the four that speak of the heap -/
def vx_no (w : Cond) : Bool := decide (w ≠ .isRef (.static Bundle.tN "UNASSIGNED_STACK" Bundle.steD)) && decide (w ≠ .isRef (.static Bundle.tN "SUPPRESSED_SENTINEL" Bundle.listD)) && decide (w ≠ .laysStatic Bundle.tN "UNASSIGNED_STACK" Bundle.steD) && decide (w ≠ .laysStatic Bundle.tN "SUPPRESSED_SENTINEL" Bundle.listD)
def vx_at0 (own : String) (ic : Nat) (X : String) (names : List String) : List Cond := (Bundle.ownAtoms0 own ic X names).filter vx_no
def vx_atS (own : String) (ic : Nat) (X : String) (names : List String) : List Cond := (Bundle.ownAtoms own ic X names).filter vx_no
/-- a word that the tables alone decide, or a good one -/
def vx_ot (w : Cond) : Bool := w.onTables || goodWord w
theorem vx_ot_at {args a' : Array Value} {s U : State} {w : Cond} (hW : s.WarmedH U.vm) (hvm : s.vm = U.vm) (hg : vx_ot w = true) (h : w.before args s = true) : w.before a' U = true := by
  simp only [vx_ot, Bool.or_eq_true] at hg
  rcases hg with hg | hg
  · exact va_tabs hg hvm h
  · exact word_at hW (good_of_word hg) h
/-- a list's words: the good ones out of the method's own list, the others by premises of their own -/
theorem vx_hat {args : Array Value} {s : State} {L B : List Cond} (h1 : ∀ w ∈ L.filter goodWord, w.before args s = true) (h2 : ∀ w ∈ L.filter (fun w => !goodWord w), w ∈ B) (h3 : ∀ w ∈ B, w.before args s = true) : ∀ w ∈ L, w.before args s = true := by
  intro w hw
  by_cases g : goodWord w = true
  · exact h1 w (List.mem_filter.mpr ⟨hw, g⟩)
  · refine h3 w (h2 w (List.mem_filter.mpr ⟨hw, ?_⟩))
    show (!goodWord w) = true
    cases hgw : goodWord w
    · rfl
    · exact absurd hgw g
theorem vx_c {args : Array Value} {s : State} {w : Cond} {B : List Cond} (h : w.before args s = true) (t : ∀ w ∈ B, w.before args s = true) : ∀ w' ∈ w :: B, w'.before args s = true := fun w' h' => (List.mem_cons.mp h').elim (fun e => by rw [e]; exact h) (t w')
theorem vx_n {args : Array Value} {s : State} : ∀ w ∈ ([] : List Cond), w.before args s = true := fun _ h => nomatch h
theorem vx_own {args : Array Value} {s : State} {L : List Cond} (h1 : ∀ w ∈ L.filter vx_no, w.before args s = true)
    (hU : (Cond.isRef (.static Bundle.tN "UNASSIGNED_STACK" Bundle.steD)).before args s = true) (hN : (Cond.isRef (.static Bundle.tN "SUPPRESSED_SENTINEL" Bundle.listD)).before args s = true)
    (lU : (Cond.laysStatic Bundle.tN "UNASSIGNED_STACK" Bundle.steD).before args s = true) (lN : (Cond.laysStatic Bundle.tN "SUPPRESSED_SENTINEL" Bundle.listD).before args s = true) : ∀ w ∈ L, w.before args s = true := by
  intro w hw
  by_cases e1 : w = .isRef (.static Bundle.tN "UNASSIGNED_STACK" Bundle.steD)
  · rw [e1]; exact hU
  · by_cases e2 : w = .isRef (.static Bundle.tN "SUPPRESSED_SENTINEL" Bundle.listD)
    · rw [e2]; exact hN
    · by_cases e3 : w = .laysStatic Bundle.tN "UNASSIGNED_STACK" Bundle.steD
      · rw [e3]; exact lU
      · by_cases e4 : w = .laysStatic Bundle.tN "SUPPRESSED_SENTINEL" Bundle.listD
        · rw [e4]; exact lN
        · exact h1 w (List.mem_filter.mpr ⟨hw, by unfold vx_no; rw [decide_eq_true e1, decide_eq_true e2, decide_eq_true e3, decide_eq_true e4]; rfl⟩)
/-- where a static field lies, its class's statics cell in H -/
def vx_L (C n d : String) (A : Nat → Prop) (U : State) (H : Heap) : Prop := ∃ (c : ClassId) (k : Class) (i : Nat) (f : Field) (a : Nat) (cell : Cell), U.vm.findClass C = some c ∧ U.fieldFound? C n d = some (c, k, i, f) ∧ f.isStatic = true ∧ k.statics = some a ∧ H[a]? = some cell ∧ cell.vm.isStatics = true ∧ cell.cls = c ∧ f.slot < cell.slots.size ∧ k.staticTypes[f.slot]? = some f.type ∧ ¬ A a
theorem vx_L.moved {C n d : String} {A : Nat → Prop} {u U : State} {H : Heap} (hvm : u.vm.Alike U.vm) (h : vx_L C n d A u H) : vx_L C n d A U H := by
  obtain ⟨c, k, i, f, a, cell, h1, h2, h3, h4, h5, h6, h7, h8, h9, h10⟩ := h
  obtain ⟨k', hi', he⟩ := State.fieldFound?_setVm hvm h2
  exact ⟨c, k', i, f, a, cell, by rw [hvm.findClass]; exact h1, hi', h3, by rw [he]; exact h4, h5, h6, h7, h8, by rw [he]; exact h9, h10⟩
theorem vx_L.kept {C n d : String} {A : Nat → Prop} {U : State} {H H1 : Heap} (h : vx_L C n d A U H) (hq : ∀ a : Nat, a < H.size → ¬ A a → H1[a]? = H[a]?) : vx_L C n d A U H1 := by
  obtain ⟨c, k, i, f, a, cell, h1, h2, h3, h4, h5, h6, h7, h8, h9, h10⟩ := h
  exact ⟨c, k, i, f, a, cell, h1, h2, h3, h4, by rw [hq a (Array.getElem?_eq_some_iff.mp h5).1 h10]; exact h5, h6, h7, h8, h9, h10⟩
theorem vx_L.narrow {C n d : String} {A B : Nat → Prop} {U : State} {H : Heap} (h : vx_L C n d A U H) (hAB : ∀ q, B q → A q) : vx_L C n d B U H := by
  obtain ⟨c, k, i, f, a, cell, h1, h2, h3, h4, h5, h6, h7, h8, h9, h10⟩ := h
  exact ⟨c, k, i, f, a, cell, h1, h2, h3, h4, h5, h6, h7, h8, h9, fun z => h10 (hAB _ z)⟩
theorem vx_L.word {C n d : String} {A : Nat → Prop} {s : State} {args : Array Value} (h : vx_L C n d A s s.heap) : (Cond.laysStatic C n d).before args s = true := by
  obtain ⟨c, k, i, f, a, cell, h1, h2, h3, h4, h5, h6, h7, h8, h9, -⟩ := h
  show (Cond.laysStatic C n d).holds args s none s [] = true
  exact Cond.laysStatic_of h1 h2 h3 h4 h5 h6 h7 h8 h9
/-- .. and what it holds: null or some reference -/
def vx_Zq (C n d : String) (A : Nat → Prop) (U : State) (H : Heap) : Prop := va_Zq C n d A U H ∧ vx_L C n d A U H
theorem vx_Zq.moved {C n d : String} {A : Nat → Prop} {u U : State} {H : Heap} (hvm : u.vm.Alike U.vm) (h : vx_Zq C n d A u H) : vx_Zq C n d A U H := ⟨va_Zq.moved hvm h.1, vx_L.moved hvm h.2⟩
theorem vx_Zq.kept {C n d : String} {A : Nat → Prop} {U : State} {H H1 : Heap} (h : vx_Zq C n d A U H) (hq : ∀ a : Nat, a < H.size → ¬ A a → H1[a]? = H[a]?) : vx_Zq C n d A U H1 := ⟨va_Zq.kept h.1 hq, vx_L.kept h.2 hq⟩
theorem vx_Zq.narrow {C n d : String} {A B : Nat → Prop} {U : State} {H : Heap} (h : vx_Zq C n d A U H) (hAB : ∀ q, B q → A q) : vx_Zq C n d B U H := ⟨va_Zq.narrow h.1 hAB, vx_L.narrow h.2 hAB⟩
theorem vx_Zqof {args : Array Value} {s : State} {C n d : String} {A : Nat → Prop} (hl : (Cond.laysStatic C n d).before args s = true) (hini : (Cond.initialized C).before args s = true) (h : (Cond.isRef (.static C n d)).before args s = true) (hA : ∀ a : Nat, a < s.heap.size → ¬ A a) : vx_Zq C n d A s s.heap := by
  refine ⟨va_Zqof hl hini h hA, ?_⟩
  obtain ⟨c, k, i, f, a, cell, h1, h2, h3, h4, h5, h6, h7, h8, h9⟩ := Cond.laysStatic_spec hl
  exact ⟨c, k, i, f, a, cell, h1, h2, h3, h4, h5, h6, h7, h8, h9, hA a (Array.getElem?_eq_some_iff.mp h5).1⟩
theorem vx_isRef {C n d : String} {v : Value} {A : Nat → Prop} {s : State} {args : Array Value} (h : va_Z C n d v A s s.heap) (hv : v.isRef = true) : (Cond.isRef (.static C n d)).before args s = true := by
  obtain ⟨cf, kf, fi, f, a, cell, h1, h2, h3, h4, h5, h6, h7, -⟩ := h
  have he : (Term.static C n d).eval args s none [] s = some v := by
    simp [Term.eval, State.fieldNamed?, h1, h2, h4, h5, h6, h7]
  simp only [Cond.before, Cond.holds, Cond.value, he]
  cases v <;> simp_all [Value.isRef]
theorem vx_isRefq {C n d : String} {A : Nat → Prop} {s : State} {args : Array Value} (h : va_Zq C n d A s s.heap) : (Cond.isRef (.static C n d)).before args s = true := by
  rcases h with h | ⟨t, h⟩
  · exact vx_isRef h rfl
  · exact vx_isRef h rfl
/-- the same frame, seen from here: as if the method were called anew in this heap -/
theorem vx_rebase {T : State} (X : Stand p l e R s m args below meth c T locs cells slots) {R' : Room} (hf : R'.frames ≤ R.frames) (hl : R'.locals ≤ R.locals) (hc : cells + R'.cells ≤ R.cells) (hs : slots + R'.slots ≤ R.slots) :
    Stand p l e R' ((T.setVm s.vm).setFrames (.invoking m args :: below)) m args below meth c T [] 0 0 := by
  have htop : (T.setVm s.vm).topJava?.isSome := X.here.top
  have hF : ((T.setVm s.vm).setFrames (.invoking m args :: below)).frames = .invoking m args :: below := State.frames_setFrames _ (State.cur_lt_of_top htop)
  obtain ⟨g₀, hg0⟩ := Option.isSome_iff_exists.mp htop
  obtain ⟨r, hr⟩ := State.topJava?_eq_some.mp hg0
  have hl9 : e.platform.stackLimits (T.setVm s.vm).me = e.platform.stackLimits s.me := X.limits
  have hb9 : (T.setVm s.vm).me.stackBytes = s.me.stackBytes := X.bytes
  refine ⟨X.admits, X.cas, X.clock, hF, ?_, X.hears, X.method, X.code, X.here, X.tail, X.warmed, ?_, ?_, ?_⟩
  · have h := X.room
    have hU : ((T.setVm s.vm).setFrames (.invoking m args :: below)).localsInUse = s.localsInUse := by
      rw [State.localsInUse_invoking hF (meth := meth) (c := c) X.method X.code, State.localsInUse_invoking X.frames X.method X.code]
    simp only [State.hasRoom, Bool.and_eq_true, decide_eq_true_eq] at h ⊢
    obtain ⟨⟨⟨⟨h1, h2, h3, h4, h5, h6⟩, h7⟩, h8⟩, h9⟩ := h
    rw [X.frames, List.length_cons] at h2 h3
    have q1 := X.heapSize
    have q2 := X.used
    simp only [hF, hU, List.length_cons, State.stackLimits_setFrames, State.stackBytes_setFrames, hl9, hb9]
    refine ⟨⟨⟨⟨by omega, by omega, by omega, by omega, by omega, h6⟩, ?_⟩, ?_⟩, X.book⟩
    · show T.heap.size + R'.cells ≤ e.platform.maxCells
      omega
    · show T.slotsUsed + R'.slots ≤ e.platform.maxSlots
      omega
  · rw [State.stackLimits_setFrames]; rfl
  · rw [State.stackBytes_setFrames]; rfl
  · refine ⟨?_, Nat.le_refl _, Nat.le_refl _, ?_, ?_, fun a c9 h9 => ⟨c9, h9, rfl, rfl, fun _ _ => rfl⟩⟩
    · obtain ⟨t, ht, -⟩ := State.frames_cons hr
      show T.setVm s.vm = { ((T.setVm s.vm).setFrames (.invoking m args :: below)).setFrames (T.setVm s.vm).frames with heap := T.heap, slotsUsed := T.slotsUsed }
      rw [State.setFrames_setFrames, State.setFrames_self ht]
      rfl
    · show T.slotsUsed = T.slotsUsed + ((T.heap.toList.drop T.heap.size).map (·.slots.size)).sum
      rw [List.drop_eq_nil_of_le (Nat.le_of_eq Array.length_toList)]
      rfl
    · show ((T.heap.toList.drop T.heap.size).map (·.slots.size)).sum ≤ 0
      rw [List.drop_eq_nil_of_le (Nat.le_of_eq Array.length_toList)]
      exact Nat.le_refl _
/-- 'throw new E()': new; dup; invokespecial; athrow -/
theorem vx_throw0 {cc : ByteArray} {pc : Nat} (hexec : p.tables.exec = Jvm.exec) (hb : c.code = cc) (hl : l.stackTraces = false) {own cls : String} {names : List String} {ik ic mc ms : Nat} {A : Nat → Prop}
    (hown : s.vm.findClass own = some m.cls) (hcls : Bundle.fit cls = true) (hnames : ∀ n ∈ names, Bundle.fit n = true)
    (hk : (Cond.classLink own ik cls).before args s = true) (hini : (Cond.initialized cls).before args s = true) (hat : ∀ w ∈ vx_at0 own ic cls names, w.before args s = true)
    (hgood : ∀ w ∈ Cond.classLink own ik cls :: Cond.initialized cls :: vx_at0 own ic cls names, vx_ot w = true)
    (hU : vx_Zq Bundle.tN "UNASSIGNED_STACK" Bundle.steD A s s.heap) (hN : vx_Zq Bundle.tN "SUPPRESSED_SENTINEL" Bundle.listD A s s.heap) (hS : va_S A s.heap H locs) (hsize : ls.size = c.maxLocals)
    (d0 : decode cc pc = .ok (.new ik, 3)) (d3 : decode cc (pc + 3) = .ok (.dup, 1)) (d4 : decode cc (pc + 4) = .ok (.invokespecial ic, 3)) (d7 : decode cc (pc + 7) = .ok (.athrow, 1))
    (hout : ∀ x ∈ c.exceptionTable.toList, covers x (pc + 7) = false)
    (hRframes : names.length + 3 < R.frames) (hRlocals : (rest.map fun v => v.category).sum + (13 * (names.length + 1) + 42) ≤ R.locals) (hRcells : cells + 1 ≤ R.cells) (hRslots : slots + 6 ≤ R.slots) (hlocks : meth.locks = false)
    (hx : ∀ t : State, s.vm.Alike t.vm → H.size ≤ t.heap.size → (∀ q : Nat, q < H.size → t.heap[q]? = H[q]?) → XC cls s t)
    (hf : ∀ z ∈ locs, free z.base) (hc : cells + 1 ≤ mc) (hs : slots + 6 ≤ ms) :
    W p l e R s m args below meth c H locs cells slots (vx_MQ below Qc XC args s mc ms free) (F0 m pc ls rest) := by
  intro T hT X
  have htr : e.platform.stackTraces = false := (show e.platform.stackTraces = l.stackTraces by rw [X.admits.platform]).trans hl
  have Y := vx_rebase X (R' := { frames := R.frames, locals := R.locals, cells := 1, slots := 6 }) (Nat.le_refl _) (Nat.le_refl _) hRcells hRslots
  obtain ⟨s', hA⟩ : ∃ z, z = (T.setVm s.vm).setFrames (.invoking m args :: below) := ⟨_, rfl⟩
  rw [← hA] at Y
  have hvm : s'.vm = s.vm := by rw [hA]; rfl
  have hhp : s'.heap = H := by rw [hA]; exact hT
  have hW0 : s.WarmedH s'.vm := by rw [hvm]; exact State.WarmedH.refl s
  have hat' : ∀ w ∈ vx_at0 own ic cls names, w.before args s' = true := fun w hw => vx_ot_at hW0 hvm.symm (hgood w (List.mem_cons_of_mem _ (List.mem_cons_of_mem _ hw))) (hat w hw)
  have hk' : (Cond.classLink own ik cls).before args s' = true := vx_ot_at hW0 hvm.symm (hgood _ List.mem_cons_self) hk
  have hini' : (Cond.initialized cls).before args s' = true := vx_ot_at hW0 hvm.symm (hgood _ (List.mem_cons_of_mem _ List.mem_cons_self)) hini
  have hU' : vx_Zq Bundle.tN "UNASSIGNED_STACK" Bundle.steD A s' s'.heap := by rw [hhp]; exact vx_Zq.moved hW0.alike (hU.kept hS.2.1)
  have hN' : vx_Zq Bundle.tN "SUPPRESSED_SENTINEL" Bundle.listD A s' s'.heap := by rw [hhp]; exact vx_Zq.moved hW0.alike (hN.kept hS.2.1)
  have h : ∀ w ∈ Bundle.ownAtoms0 own ic cls names, w.before args s' = true := vx_own hat' (vx_isRefq hU'.1) (vx_isRefq hN'.1) hU'.2.word hN'.2.word
  have hown' : s'.vm.findClass own = some m.cls := by rw [hvm]; exact hown
  have hins : (Cond.instantiable cls 6).before args s' = true := h _ (by simp [Bundle.ownAtoms0])
  obtain ⟨vm₁, cX, kX, hfX, hkX, -, -, X₁, st1⟩ := Y.newCold hexec (own := own) (C := cls) (index := ik) (n := 6) hown' hk' hins hini'
    (g := F0 m pc ls rest) rfl (by rw [hb]; exact d0) (Nat.le_refl _) (Nat.le_refl _)
  generalize hT1 : (T.setVm vm₁).pushCell { cls := cX, slots := kX.instanceTypes.map defaultValue, vm := .none } = T1 at X₁ st1
  have hcat : (Value.ref T.heap.size).category = 1 := rfl
  have hcellA : T1.heap[T.heap.size]? = some (freshCell cX kX) := by rw [← hT1]; exact State.heap_pushCell_size _ _
  have d3' : decode c.code (pc + 3) = .ok (.dup, 1) := by rw [hb]; exact d3
  obtain ⟨U, hsteps, hrun, hend, hW, hsame, ce, hce, hO⟩ := X₁.ctorThrow0 hexec htr (own := own) (cls := cls) (names := names) (ic := ic) hown' hcls hnames h (fun x hx => nomatch hx) hfX hkX hcellA (by rw [hhp, hT]; exact Nat.le_refl _)
    (g := { method := m, pc := pc + 4, locals := ls, stack := .ref T.heap.size :: .ref T.heap.size :: rest, locked := none }) rfl hsize rfl rfl (rest := rest) rfl
    (by rw [hb]; exact d4) (by rw [hb]; exact d7) hout hRframes (by simp only [List.map_cons, List.sum_cons, hcat]; omega) hlocks
  obtain ⟨f1, f2⟩ := vx_frame hsame
  rw [hhp] at f1 f2
  have hWs : s.WarmedH U.vm := State.WarmedH.trans hW0 hW
  have hcl : s.vm.findClass cls = some ce.cls := by
    have h9 := hO.cls
    rw [hvm] at h9
    exact h9
  have hall : s.sameButNew ({ U with vm := s.vm } : State) locs mc ms := by
    subst hA
    obtain ⟨e1, e2⟩ := hsame
    rw [State.setFrames_setFrames] at e1
    have h2 : (T.setVm s.vm).sameButNew ({ U with vm := s.vm } : State) [] (0 + 1) (0 + 6) := ⟨e1, e2⟩
    have h3 := X.same.trans h2
    rw [List.append_nil] at h3
    exact h3.mono hc hs
  refine ⟨U, ?_, .threw T.heap.size, hrun, hend, Or.inr ⟨T.heap.size, rfl, cls, ce, locs, hx U hWs.alike f1 (fun q hq => f2 q hq (fun z hz => nomatch hz)), hce, hO.vm, hcl, hWs, hall, hf⟩⟩
  refine st1 _ ?_
  show Steps p.tables e below (T1.setTop { method := m, pc := pc + 3, locals := ls, stack := .ref T.heap.size :: rest, locked := none }) _
  jvm_step X₁.here [X₁.here.top, hexec, d3', Value.category]
  exact hsteps
/-- 'throw new E("text")': new; dup; ldc; invokespecial; athrow -/
theorem vx_throwS {cc : ByteArray} {pc : Nat} (hexec : p.tables.exec = Jvm.exec) (hb : c.code = cc) (hl : l.stackTraces = false) {own cls text : String} {names : List String} {ik is ic mc ms sa : Nat} {A : Nat → Prop}
    (hown : s.vm.findClass own = some m.cls) (hcls : Bundle.fit cls = true) (hnames : ∀ n ∈ names, Bundle.fit n = true)
    (hk : (Cond.classLink own ik cls).before args s = true) (hini : (Cond.initialized cls).before args s = true) (hstr : vk_R own is text sa s) (hat : ∀ w ∈ vx_atS own ic cls names, w.before args s = true)
    (hgood : ∀ w ∈ Cond.classLink own ik cls :: Cond.initialized cls :: vx_atS own ic cls names, vx_ot w = true)
    (hU : vx_Zq Bundle.tN "UNASSIGNED_STACK" Bundle.steD A s s.heap) (hN : vx_Zq Bundle.tN "SUPPRESSED_SENTINEL" Bundle.listD A s s.heap) (hS : va_S A s.heap H locs) (hsize : ls.size = c.maxLocals)
    (d0 : decode cc pc = .ok (.new ik, 3)) (d3 : decode cc (pc + 3) = .ok (.dup, 1)) (d4 : decode cc (pc + 4) = .ok (.ldc is, 2)) (d6 : decode cc (pc + 6) = .ok (.invokespecial ic, 3)) (d9 : decode cc (pc + 9) = .ok (.athrow, 1))
    (hout : ∀ x ∈ c.exceptionTable.toList, covers x (pc + 9) = false)
    (hRframes : names.length + 3 < R.frames) (hRlocals : (rest.map fun v => v.category).sum + (13 * (names.length + 1) + 43) ≤ R.locals) (hRcells : cells + 1 ≤ R.cells) (hRslots : slots + 6 ≤ R.slots) (hlocks : meth.locks = false)
    (hx : ∀ t : State, s.vm.Alike t.vm → H.size ≤ t.heap.size → (∀ q : Nat, q < H.size → t.heap[q]? = H[q]?) → XC cls s t)
    (hf : ∀ z ∈ locs, free z.base) (hc : cells + 1 ≤ mc) (hs : slots + 6 ≤ ms) :
    W p l e R s m args below meth c H locs cells slots (vx_MQ below Qc XC args s mc ms free) (F0 m pc ls rest) := by
  intro T hT X
  have htr : e.platform.stackTraces = false := (show e.platform.stackTraces = l.stackTraces by rw [X.admits.platform]).trans hl
  have Y := vx_rebase X (R' := { frames := R.frames, locals := R.locals, cells := 1, slots := 6 }) (Nat.le_refl _) (Nat.le_refl _) hRcells hRslots
  obtain ⟨s', hA⟩ : ∃ z, z = (T.setVm s.vm).setFrames (.invoking m args :: below) := ⟨_, rfl⟩
  rw [← hA] at Y
  have hvm : s'.vm = s.vm := by rw [hA]; rfl
  have hhp : s'.heap = H := by rw [hA]; exact hT
  have hW0 : s.WarmedH s'.vm := by rw [hvm]; exact State.WarmedH.refl s
  have hat' : ∀ w ∈ vx_atS own ic cls names, w.before args s' = true := fun w hw => vx_ot_at hW0 hvm.symm (hgood w (List.mem_cons_of_mem _ (List.mem_cons_of_mem _ hw))) (hat w hw)
  have hk' : (Cond.classLink own ik cls).before args s' = true := vx_ot_at hW0 hvm.symm (hgood _ List.mem_cons_self) hk
  have hini' : (Cond.initialized cls).before args s' = true := vx_ot_at hW0 hvm.symm (hgood _ (List.mem_cons_of_mem _ List.mem_cons_self)) hini
  have hU' : vx_Zq Bundle.tN "UNASSIGNED_STACK" Bundle.steD A s' s'.heap := by rw [hhp]; exact vx_Zq.moved hW0.alike (hU.kept hS.2.1)
  have hN' : vx_Zq Bundle.tN "SUPPRESSED_SENTINEL" Bundle.listD A s' s'.heap := by rw [hhp]; exact vx_Zq.moved hW0.alike (hN.kept hS.2.1)
  have h : ∀ w ∈ Bundle.ownAtoms own ic cls names, w.before args s' = true := vx_own hat' (vx_isRefq hU'.1) (vx_isRefq hN'.1) hU'.2.word hN'.2.word
  have hown' : s'.vm.findClass own = some m.cls := by rw [hvm]; exact hown
  have hins : (Cond.instantiable cls 6).before args s' = true := h _ (by simp [Bundle.ownAtoms])
  obtain ⟨vm₁, cX, kX, hfX, hkX, -, -, X₁, st1⟩ := Y.newCold hexec (own := own) (C := cls) (index := ik) (n := 6) hown' hk' hins hini'
    (g := F0 m pc ls rest) rfl (by rw [hb]; exact d0) (Nat.le_refl _) (Nat.le_refl _)
  generalize hT1 : (T.setVm vm₁).pushCell { cls := cX, slots := kX.instanceTypes.map defaultValue, vm := .none } = T1 at X₁ st1
  have hcat : (Value.ref T.heap.size).category = 1 := rfl
  have hcellA : T1.heap[T.heap.size]? = some (freshCell cX kX) := by rw [← hT1]; exact State.heap_pushCell_size _ _
  have d3' : decode c.code (pc + 3) = .ok (.dup, 1) := by rw [hb]; exact d3
  have d4' : decode c.code (pc + 4) = .ok (.ldc is, 2) := by rw [hb]; exact d4
  have hstr' : vk_R own is text sa s' := vk_R.warm hW0 hstr
  obtain ⟨U, hsteps, hrun, hend, hW, hsame, ce, hce, hO⟩ := X₁.ctorThrowS hexec htr (own := own) (cls := cls) (names := names) (ic := ic) hown' hcls hnames h (fun x hx => nomatch hx) hfX hkX hcellA (by rw [hhp, hT]; exact Nat.le_refl _) (msg := .ref sa) rfl
    (g := { method := m, pc := pc + 6, locals := ls, stack := .ref sa :: .ref T.heap.size :: .ref T.heap.size :: rest, locked := none }) rfl hsize rfl rfl (rest := rest) rfl
    (by rw [hb]; exact d6) (by rw [hb]; exact d9) hout hRframes (by simp only [List.map_cons, List.sum_cons, hcat]; omega) hlocks
  obtain ⟨f1, f2⟩ := vx_frame hsame
  rw [hhp] at f1 f2
  have hWs : s.WarmedH U.vm := State.WarmedH.trans hW0 hW
  have hcl : s.vm.findClass cls = some ce.cls := by
    have h9 := hO.cls
    rw [hvm] at h9
    exact h9
  have hall : s.sameButNew ({ U with vm := s.vm } : State) locs mc ms := by
    subst hA
    obtain ⟨e1, e2⟩ := hsame
    rw [State.setFrames_setFrames] at e1
    have h2 : (T.setVm s.vm).sameButNew ({ U with vm := s.vm } : State) [] (0 + 1) (0 + 6) := ⟨e1, e2⟩
    have h3 := X.same.trans h2
    rw [List.append_nil] at h3
    exact h3.mono hc hs
  refine ⟨U, ?_, .threw T.heap.size, hrun, hend, Or.inr ⟨T.heap.size, rfl, cls, ce, locs, hx U hWs.alike f1 (fun q hq => f2 q hq (fun z hz => nomatch hz)), hce, hO.vm, hcl, hWs, hall, hf⟩⟩
  refine st1 _ ?_
  show Steps p.tables e below (T1.setTop { method := m, pc := pc + 3, locals := ls, stack := .ref T.heap.size :: rest, locked := none }) _
  jvm_step X₁.here [X₁.here.top, hexec, d3', Value.category]
  exact X₁.ldcString hexec (own := own) (text := text) (index := is) (a := sa) hown' hstr'.1 hstr'.2
    (g := { method := m, pc := pc + 4, locals := ls, stack := .ref T.heap.size :: .ref T.heap.size :: rest, locked := none }) rfl d4' _ hsteps
/-- 'throw new E("text")', the text by a wide index -/
theorem vx_throwSW {cc : ByteArray} {pc : Nat} (hexec : p.tables.exec = Jvm.exec) (hb : c.code = cc) (hl : l.stackTraces = false) {own cls text : String} {names : List String} {ik is ic mc ms sa : Nat} {A : Nat → Prop}
    (hown : s.vm.findClass own = some m.cls) (hcls : Bundle.fit cls = true) (hnames : ∀ n ∈ names, Bundle.fit n = true)
    (hk : (Cond.classLink own ik cls).before args s = true) (hini : (Cond.initialized cls).before args s = true) (hstr : vk_R own is text sa s) (hat : ∀ w ∈ vx_atS own ic cls names, w.before args s = true)
    (hgood : ∀ w ∈ Cond.classLink own ik cls :: Cond.initialized cls :: vx_atS own ic cls names, vx_ot w = true)
    (hU : vx_Zq Bundle.tN "UNASSIGNED_STACK" Bundle.steD A s s.heap) (hN : vx_Zq Bundle.tN "SUPPRESSED_SENTINEL" Bundle.listD A s s.heap) (hS : va_S A s.heap H locs) (hsize : ls.size = c.maxLocals)
    (d0 : decode cc pc = .ok (.new ik, 3)) (d3 : decode cc (pc + 3) = .ok (.dup, 1)) (d4 : decode cc (pc + 4) = .ok (.ldc_w is, 3)) (d7 : decode cc (pc + 7) = .ok (.invokespecial ic, 3)) (d10 : decode cc (pc + 10) = .ok (.athrow, 1))
    (hout : ∀ x ∈ c.exceptionTable.toList, covers x (pc + 10) = false)
    (hRframes : names.length + 3 < R.frames) (hRlocals : (rest.map fun v => v.category).sum + (13 * (names.length + 1) + 43) ≤ R.locals) (hRcells : cells + 1 ≤ R.cells) (hRslots : slots + 6 ≤ R.slots) (hlocks : meth.locks = false)
    (hx : ∀ t : State, s.vm.Alike t.vm → H.size ≤ t.heap.size → (∀ q : Nat, q < H.size → t.heap[q]? = H[q]?) → XC cls s t)
    (hf : ∀ z ∈ locs, free z.base) (hc : cells + 1 ≤ mc) (hs : slots + 6 ≤ ms) :
    W p l e R s m args below meth c H locs cells slots (vx_MQ below Qc XC args s mc ms free) (F0 m pc ls rest) := by
  intro T hT X
  have htr : e.platform.stackTraces = false := (show e.platform.stackTraces = l.stackTraces by rw [X.admits.platform]).trans hl
  have Y := vx_rebase X (R' := { frames := R.frames, locals := R.locals, cells := 1, slots := 6 }) (Nat.le_refl _) (Nat.le_refl _) hRcells hRslots
  obtain ⟨s', hA⟩ : ∃ z, z = (T.setVm s.vm).setFrames (.invoking m args :: below) := ⟨_, rfl⟩
  rw [← hA] at Y
  have hvm : s'.vm = s.vm := by rw [hA]; rfl
  have hhp : s'.heap = H := by rw [hA]; exact hT
  have hW0 : s.WarmedH s'.vm := by rw [hvm]; exact State.WarmedH.refl s
  have hat' : ∀ w ∈ vx_atS own ic cls names, w.before args s' = true := fun w hw => vx_ot_at hW0 hvm.symm (hgood w (List.mem_cons_of_mem _ (List.mem_cons_of_mem _ hw))) (hat w hw)
  have hk' : (Cond.classLink own ik cls).before args s' = true := vx_ot_at hW0 hvm.symm (hgood _ List.mem_cons_self) hk
  have hini' : (Cond.initialized cls).before args s' = true := vx_ot_at hW0 hvm.symm (hgood _ (List.mem_cons_of_mem _ List.mem_cons_self)) hini
  have hU' : vx_Zq Bundle.tN "UNASSIGNED_STACK" Bundle.steD A s' s'.heap := by rw [hhp]; exact vx_Zq.moved hW0.alike (hU.kept hS.2.1)
  have hN' : vx_Zq Bundle.tN "SUPPRESSED_SENTINEL" Bundle.listD A s' s'.heap := by rw [hhp]; exact vx_Zq.moved hW0.alike (hN.kept hS.2.1)
  have h : ∀ w ∈ Bundle.ownAtoms own ic cls names, w.before args s' = true := vx_own hat' (vx_isRefq hU'.1) (vx_isRefq hN'.1) hU'.2.word hN'.2.word
  have hown' : s'.vm.findClass own = some m.cls := by rw [hvm]; exact hown
  have hins : (Cond.instantiable cls 6).before args s' = true := h _ (by simp [Bundle.ownAtoms])
  obtain ⟨vm₁, cX, kX, hfX, hkX, -, -, X₁, st1⟩ := Y.newCold hexec (own := own) (C := cls) (index := ik) (n := 6) hown' hk' hins hini'
    (g := F0 m pc ls rest) rfl (by rw [hb]; exact d0) (Nat.le_refl _) (Nat.le_refl _)
  generalize hT1 : (T.setVm vm₁).pushCell { cls := cX, slots := kX.instanceTypes.map defaultValue, vm := .none } = T1 at X₁ st1
  have hcat : (Value.ref T.heap.size).category = 1 := rfl
  have hcellA : T1.heap[T.heap.size]? = some (freshCell cX kX) := by rw [← hT1]; exact State.heap_pushCell_size _ _
  have d3' : decode c.code (pc + 3) = .ok (.dup, 1) := by rw [hb]; exact d3
  have d4' : decode c.code (pc + 4) = .ok (.ldc_w is, 3) := by rw [hb]; exact d4
  have hstr' : vk_R own is text sa s' := vk_R.warm hW0 hstr
  obtain ⟨U, hsteps, hrun, hend, hW, hsame, ce, hce, hO⟩ := X₁.ctorThrowS hexec htr (own := own) (cls := cls) (names := names) (ic := ic) hown' hcls hnames h (fun x hx => nomatch hx) hfX hkX hcellA (by rw [hhp, hT]; exact Nat.le_refl _) (msg := .ref sa) rfl
    (g := { method := m, pc := pc + 7, locals := ls, stack := .ref sa :: .ref T.heap.size :: .ref T.heap.size :: rest, locked := none }) rfl hsize rfl rfl (rest := rest) rfl
    (by rw [hb]; exact d7) (by rw [hb]; exact d10) hout hRframes (by simp only [List.map_cons, List.sum_cons, hcat]; omega) hlocks
  obtain ⟨f1, f2⟩ := vx_frame hsame
  rw [hhp] at f1 f2
  have hWs : s.WarmedH U.vm := State.WarmedH.trans hW0 hW
  have hcl : s.vm.findClass cls = some ce.cls := by
    have h9 := hO.cls
    rw [hvm] at h9
    exact h9
  have hall : s.sameButNew ({ U with vm := s.vm } : State) locs mc ms := by
    subst hA
    obtain ⟨e1, e2⟩ := hsame
    rw [State.setFrames_setFrames] at e1
    have h2 : (T.setVm s.vm).sameButNew ({ U with vm := s.vm } : State) [] (0 + 1) (0 + 6) := ⟨e1, e2⟩
    have h3 := X.same.trans h2
    rw [List.append_nil] at h3
    exact h3.mono hc hs
  refine ⟨U, ?_, .threw T.heap.size, hrun, hend, Or.inr ⟨T.heap.size, rfl, cls, ce, locs, hx U hWs.alike f1 (fun q hq => f2 q hq (fun z hz => nomatch hz)), hce, hO.vm, hcl, hWs, hall, hf⟩⟩
  refine st1 _ ?_
  show Steps p.tables e below (T1.setTop { method := m, pc := pc + 3, locals := ls, stack := .ref T.heap.size :: rest, locked := none }) _
  jvm_step X₁.here [X₁.here.top, hexec, d3', Value.category]
  exact X₁.ldcStringW hexec (own := own) (text := text) (index := is) (a := sa) hown' hstr'.1 hstr'.2
    (g := { method := m, pc := pc + 4, locals := ls, stack := .ref T.heap.size :: .ref T.heap.size :: rest, locked := none }) rfl d4' _ hsteps
end Ends
section Bodies
variable {l : Launch}
theorem vx_ofW {y : MethodName} {ws ws' : List Cond} {rm : Room} {Pc : Array Value → State → Prop} {Qc : Array Value → State → Outcome → State → Prop} {XC : String → State → State → Prop} {mc ms : Nat} {free : Addr → Prop} {cc : ByteArray} {maxL : Nat} {ret : Option FieldType}
    (hy : plainName y.cls = true) (hw : ws = Cond.code y cc maxL ret :: ws')
    (body : ∀ p e s m args below meth c s₁, BodyLoose p l y (headSpec ws rm) cc maxL ret e s m args below meth c s₁ → c.maxLocals = maxL → (∀ x ∈ c.exceptionTable.toList, False) → Pc args s →
      W p l e (headSpec ws rm).room s m args below meth c s.heap [] 0 0 (vx_MQ below Qc XC args s mc ms free) (entryFrame m args maxL)) : vx_Met l y ws rm Pc Qc XC mc ms free := by
  refine MetFree.of_bodyS (code := cc) (maxLocals := maxL) (ret := ret) hy ?_ ?_
  · intro args s m h hn
    obtain ⟨meth, c, h1, h2, h3, h4, h5, h6, -, -⟩ := Cond.code_spec hn (atoms_spec (ws := ws) h _ (by rw [hw]; exact List.mem_cons_self))
    exact ⟨meth, c, h1, h2, h3, h4, h5, h6⟩
  · intro p e s m args below meth c s₁ B hml hP _
    have hh0 : s₁.heap = s.heap := by rw [B.state]; rfl
    have ht : ∀ x ∈ c.exceptionTable.toList, False := by
      obtain ⟨meth9, c9, h1, h2, -, -, -, -, h7, -⟩ := Cond.code_spec B.named (atoms_spec (ws := ws) B.pre _ (by rw [hw]; exact List.mem_cons_self))
      cases Option.some.inj (h1.symm.trans B.method)
      cases Option.some.inj (h2.symm.trans (Stand.of_body B).code)
      intro x hx
      rw [Array.isEmpty_iff.mp h7] at hx
      cases hx
    obtain ⟨t, a1, o, b1, b2, b3⟩ := body p e s m args below meth c s₁ B hml ht hP s₁ hh0 (Stand.of_body B)
    exact ⟨t, o, a1, b1, b2, b3⟩
/-- the table of a body with handlers -/
theorem vx_table {p : Program} {x y : MethodName} {S : Spec} {cc bytes : ByteArray} {maxL maxL' : Nat} {ret ret' : Option FieldType} {e : Env} {s s₁ : State} {m : MethodId} {args : Array Value} {below : List Frame} {meth : Method} {c : Code} {hh : List (Nat × Nat × Nat × Nat)}
    (B : BodyLoose p l y S cc maxL ret e s m args below meth c s₁) (h : (Cond.codeWith y bytes maxL' ret' hh).before args s = true) : c.exceptionTable.toList = tableOf hh := by
  obtain ⟨m9, meth9, c9, hn9, h1, h2, -, -, h6, -⟩ := Cond.codeWith_spec h
  cases Option.some.inj (hn9.symm.trans B.named)
  cases Option.some.inj (h1.symm.trans B.method)
  cases Option.some.inj (h2.symm.trans (Stand.of_body B).code)
  rw [← h6, table_eq]
end Bodies
end VXA
/-! ===== END ===== -/
/-! ===== BEGIN a static call of a method with an exception table ===== -/
section VXS
variable {p : Program} {l : Launch} {e : Env} {R : Room} {s : State} {m : MethodId} {args : Array Value} {below : List Frame} {meth : Method} {c : Code} {T : State} {H : Heap} {locs : List Loc} {cells slots : Nat}
abbrev vx_CSW (R : Room) (s : State) (args : Array Value) (own : String) (index : Nat) (y : MethodName) (bytes : ByteArray) (maxL : Nat) (ret : Option FieldType) (hh : List (Nat × Nat × Nat × Nat)) (ws : List Cond) (rm : Room) (mc ms n : Nat) : Prop :=
  (rm.cells = mc ∧ rm.slots = ms ∧ rm.frames + 1 ≤ R.frames ∧ 8 + (maxL + 11) + rm.locals ≤ R.locals ∧ (∀ w ∈ ws, ∀ (a' : Array Value) (U : State), s.WarmedH U.vm → w.before a' U = true) ∧ Cond.codeWith y bytes maxL ret hh ∈ ws) ∧
  (Cond.codeWith y bytes maxL ret hh).before args s = true ∧ (Cond.initialized y.cls).before args s = true ∧ (y.cls ≠ "java/lang/invoke/MethodHandle" ∧ y.cls ≠ "java/lang/invoke/VarHandle") ∧
  (∀ sig, parseMethodDescriptor y.desc = some sig → n = sig.parameters.length) ∧ (Cond.methodLink own index y).before args s = true ∧ (Cond.static y).before args s = true
theorem vx_cwSW {own : String} {index maxL mc ms : Nat} {y : MethodName} {bytes : ByteArray} {ret : Option FieldType} {hh : List (Nat × Nat × Nat × Nat)} {Ts ws ws' : List Cond} {rm : Room} (n : Nat) (ht : ∀ w ∈ Ts, w.before args s = true) (hT : GoodIn Ts (va_wsS own index y ws)) (hw : ws = Cond.codeWith y bytes maxL ret hh :: ws') (hrc : rm.cells = mc) (hrs : rm.slots = ms)
    (hd : y.cls ≠ "java/lang/invoke/MethodHandle" ∧ y.cls ≠ "java/lang/invoke/VarHandle" ∧ (parseMethodDescriptor y.desc).map (fun d => d.parameters.length) = some n) (hR : rm.frames + 1 ≤ R.frames ∧ 8 + (maxL + 11) + rm.locals ≤ R.locals) :
    vx_CSW R s args own index y bytes maxL ret hh ws rm mc ms n := by
  have ok : ∀ w ∈ va_wsS own index y ws, w.before args s = true := fun w h => ht w (hT w h).1
  have hG : GoodIn Ts ws := fun w h => hT w (by unfold va_wsS; exact List.mem_append_right _ h)
  have hc : Cond.codeWith y bytes maxL ret hh ∈ ws := by rw [hw]; exact List.mem_cons_self
  refine ⟨⟨hrc, hrs, hR.1, hR.2, pay_in ht hG, hc⟩, ht _ (hG _ hc).1, ok _ (by simp [va_wsS]), ⟨hd.1, hd.2.1⟩, fun sig h => ?_, ok _ (by simp [va_wsS]), ok _ (by simp [va_wsS])⟩
  have h2 := hd.2.2
  rw [h] at h2
  exact (Option.some.inj h2).symm
theorem vx_callSW (X : Stand p l e R s m args below meth c T locs cells slots) (hexec : p.tables.exec = Jvm.exec) {own : String} {index : Nat} {y : MethodName} {bytes : ByteArray} {maxL : Nat} {ret : Option FieldType} {hh : List (Nat × Nat × Nat × Nat)}
    (hown : s.vm.findClass own = some m.cls) (hlink : (Cond.methodLink own index y).before args s = true) (hstat : (Cond.static y).before args s = true) (hinit : (Cond.initialized y.cls).before args s = true)
    (hcode : (Cond.codeWith y bytes maxL ret hh).before args s = true) (hy : y.cls ≠ "java/lang/invoke/MethodHandle" ∧ y.cls ≠ "java/lang/invoke/VarHandle")
    {W9 : Nat} {Pre : Pt → Array Value → Prop} {Post : Pt → Array Value → Option Value → Pt → Prop} (hK : Back l R p e below s args y 3 W9 Pre Post)
    {g : JFrame} (hg : g.method = m) (hsize : g.locals.size = c.maxLocals) {argsL rest : List Value} (hlen : ∀ sig, parseMethodDescriptor y.desc = some sig → argsL.length = sig.parameters.length)
    (hstack : g.stack = argsL.reverse ++ rest) (hW : 2 * g.monitorRoom + (rest.map fun v => v.category).sum ≤ W9) (hdg : decode c.code g.pc = .ok (.invokestatic index, 3))
    (hpre : ∀ vm₁, s.WarmedH vm₁ → Pre ⟨T.setVm vm₁, locs, cells, slots⟩ argsL.toArray) :
    ∃ (v : Option Value) (vm₁ : Vm) (B : Pt), s.WarmedH vm₁ ∧ Stand p l e R s m args below meth c B.U B.locs B.cells B.slots ∧ Post ⟨T.setVm vm₁, locs, cells, slots⟩ argsL.toArray v B ∧
      ∀ target, Steps p.tables e below (B.U.setTop { g with pc := g.pc + 3, stack := v.toList ++ rest }) target → Steps p.tables e below (T.setTop g) target := by
  obtain ⟨mk, methM, cM, hnamed, hmethM, -, -, -, -, -, -, hsigM⟩ := Cond.codeWith_spec hcode
  have hstatic : methM.isStatic = true := Cond.static_spec hnamed hmethM hstat
  obtain ⟨kP, hkP, -⟩ := className_of_methodNamed hnamed
  have hinitP : kP.init = .initialized := Cond.initialized_spec (findClass_of_methodNamed hnamed) hkP hinit
  obtain ⟨vm₁, X₁, hstep₁⟩ := X.invokestatic hexec hown hlink hnamed hmethM hstatic hkP hinitP hy (g := g) hg (argsL := argsL) (rest := rest) (hlen _ hsigM) hstack hdg
  obtain ⟨v, B, X', hpost, hsteps⟩ := hK m meth c ⟨T.setVm vm₁, locs, cells, slots⟩ { g with stack := rest } (.invokestatic index) mk argsL.toArray X₁ hg hsize hdg hW (X₁.named hnamed) (hpre vm₁ X₁.warmed)
  exact ⟨v, vm₁, B, X₁.warmed, X', hpost, fun target h => hstep₁ _ fun acts => by rw [doInvoke_state]; exact hsteps.trans h⟩
theorem vx_runSW {y : MethodName} {bytes cc : ByteArray} {maxL nL mc ms n index : Nat} {ret : Option FieldType} {hh : List (Nat × Nat × Nat × Nat)} {ws : List Cond} {rm : Room} {Pc : Array Value → State → Prop} {Qc : Array Value → State → Outcome → State → Prop} {free : Addr → Prop} {Ts : List Cond} {own : String} {As rest : List Value} {g : JFrame}
    (S : CallFix p m c cc nL s args Ts own) (hM : Met l y ws rm Pc Qc mc ms free) (cw : vx_CSW R s args own index y bytes maxL ret hh ws rm mc ms n) (hp : PreS s H Pc As)
    (hg : g.method = m) (hn : As.length = n) (hsize : g.locals.size = nL) (hstack : g.stack = As.reverse ++ rest) (hW : 2 * g.monitorRoom + (rest.map fun v => v.category).sum ≤ 8) (hdg : decode cc g.pc = .ok (.invokestatic index, 3)) (hf : cells + mc ≤ R.cells ∧ slots + ms ≤ R.slots) :
    va_Run p l e R s m args below meth c H locs cells slots mc ms g rest (Qc As.toArray) (free) := by
  obtain ⟨⟨hrc, hrs, hfr, hlo, hws, hcw⟩, hcode, hini, hy, hlen, hl, hstt⟩ := cw
  have hK : Back l R p e below s args y 3 8 (PreOf R mc ms Pc) (PostOf Qc mc ms free) := va_backW (hh := hh) (bytes := bytes) (maxL := maxL) (ret := ret) hM hp.1 hrc hrs hfr hlo hws hcw (fun a' U hW => word_at hW (Or.inl (by first | rfl | simp [Cond.onTables, Cond.keeps, Cond.steady])) hini)
  obtain ⟨hx, hb, hml, ho, -⟩ := S
  intro T hT X
  obtain ⟨v, vm₁, ⟨U', l2, c2, s2⟩, hW₁, X', ⟨g', mk, t, L, e1, e2, hq, h1, hL, h2, h3⟩, st⟩ := vx_callSW X hx (hh := hh) (bytes := bytes) (maxL := maxL) (ret := ret) ho hl hstt hini hcode hy hK hg (hsize.trans hml.symm) (argsL := As) (rest := rest) (fun sig h => hn.trans (hlen sig h)) hstack hW (by rw [hb]; exact hdg)
    (fun vm₁ hW₁ => ⟨hf.1, hf.2, hp.2 (T.setVm vm₁) hT hW₁⟩)
  dsimp only [Pt.U, Pt.locs, Pt.cells, Pt.slots] at X' e1 e2 h1 h2 h3 st
  subst h1; subst h2; subst h3
  exact ⟨v, (T.setVm vm₁).calling g' mk As.toArray, t, U', L, hT, X', hL, e1, e2, hq, st⟩
/-- not caught here, past rows that name other classes: it goes on to the caller -/
theorem vx_outP {p : Program} {l : Launch} {e : Env} {R : Room} {s : State} {m : MethodId} {args : Array Value} {below : List Frame} {meth : Method} {c : Code} {H : Heap} {locs : List Loc} {cells slots : Nat} {free : Addr → Prop} {ls : Array Slot} {rest : List Value} {Qc : Array Value → State → Outcome → State → Prop} {XC : String → State → State → Prop}
    {pc : Nat} {own E : String} {ce : Cell} {q : Addr} {mc ms : Nat} (hown : s.vm.findClass own = some m.cls) (hlocks : meth.locks = false)
    (hpass : ∀ z ∈ c.exceptionTable.toList, covers z pc = false ∨ (z.catchType ≠ 0 ∧ ∃ nm : String, (Cond.classLink own z.catchType nm).before args s = true ∧ va_Nc E nm s)) (hcell : H[q]? = some ce) (hv : ce.vm = .none) (hcl : s.vm.findClass E = some ce.cls)
    (hx : ∀ t : State, t.heap = H → s.vm.Alike t.vm → XC E s t) (hf : ∀ z ∈ locs, free z.base) (hc : cells ≤ mc) (hs : slots ≤ ms) :
    vx_W p l e R s m args below meth c H locs cells slots (vx_MQ below Qc XC args s mc ms free) (F0 m pc ls rest) q := by
  intro T hT X
  have hpl : e.platform.magicAccessors = ({} : Platform).magicAccessors := by rw [X.admits.platform]
  obtain ⟨vm', hW', X', st⟩ := X.outThrough hlocks q (g := F0 m pc ls rest) rfl rfl rfl (cell := ce) (by rw [hT]; exact hcell) (by rw [hv]; rfl)
    (by obtain ⟨k9, h9, -⟩ := Vm.findClass_spec hcl; exact ⟨k9, h9⟩) (fun z hz => by
      rcases hpass z hz with h | ⟨hz0, nm, hl1, hn1⟩
      · exact Or.inl h
      · obtain ⟨c6, hc6, hcl6⟩ := Cond.classLink_spec hown hl1 e.platform hpl
        obtain ⟨a8, b8, h1, h2, h3⟩ := hn1
        cases Option.some.inj (h1.symm.trans hcl)
        cases Option.some.inj (h2.symm.trans hc6)
        exact Or.inr ⟨hz0, _, hcl6, h3⟩)
  obtain ⟨g₀, hfr⟩ := X'.frames_eq
  have hcell9 : ((T.setVm vm').setFrames (.throwing q :: below)).heap[q]? = some ce := by
    show T.heap[q]? = some ce
    rw [hT]; exact hcell
  have hend : Ended ((T.setVm vm').setFrames (.throwing q :: below)) below (.threw q) := State.frames_setFrames _ (State.cur_lt_of_frames hfr)
  refine ⟨(T.setVm vm').setFrames (.throwing q :: below), ?_, .threw q, X'.here.running, hend, Or.inr ⟨q, rfl, E, ce, locs, hx _ hT (X'.ends _).1.alike, hcell9, hv, hcl, (X'.ends _).1, (X'.ends _).2.mono hc hs, hf⟩⟩
  rw [X.pushThrowing_eq]
  exact st
/-- a thing of a world lies in the heap -/
theorem vx_lt {D : va_G} {cl : List vw_C} {ws : va_W} {H1 : Heap} (h : va_P D cl ws H1) {k : Nat} {q : Nat × va_E} (hk : ws[k]? = some q) : q.1 < H1.size := (h k q hk).lt
end VXS
/-! ===== END ===== -/
/-! ===== BEGIN methods with a table of their own: called by a name, returning or throwing ===== -/
section VXH
/-! vx_backW, vx_callVX, vx_callSX, vx_callVW, vx_runVW, vx_runVX, vx_runSX, vx_ofWH follow the same proofs as their sisters above (Free/Laws.lean, Shelf42/LK1.lean); vx_outP calls Shelf42/NT130.lean (outThrough). -/
section
variable {l : Launch} {R : Room} {p : Program} {e : Env} {below : List Frame} {s : State} {sargs : Array Value} {y : MethodName} {len W9 : Nat}
theorem vx_backW {ws : List Cond} {rm : Room} {Pc : Array Value → State → Prop} {Qc : Array Value → State → Outcome → State → Prop} {XC : String → State → State → Prop} {mc ms : Nat} {free : Addr → Prop} {bytes : ByteArray} {maxL : Nat} {ret : Option FieldType} {hh : List (Nat × Nat × Nat × Nat)}
    (hM : vx_Met l y ws rm Pc Qc XC mc ms free) (hblind : FrameBlind Pc) (hrc : rm.cells = mc) (hrs : rm.slots = ms)
    (hframes : rm.frames + 1 ≤ R.frames) (hlocals : W9 + (maxL + 11) + rm.locals ≤ R.locals)
    (hws : ∀ w ∈ ws, ∀ a' U, s.WarmedH U.vm → w.before a' U = true) (hcode : Cond.codeWith y bytes maxL ret hh ∈ ws) (hinit : ∀ a' U, s.WarmedH U.vm → (Cond.initialized y.cls).before a' U = true) :
    vx_Back l R p e below s sargs y len W9 (PreOf R mc ms Pc) (PostOf Qc mc ms free) (vx_Post XC mc ms free) := by
  intro m meth c A g ig mk a X hg hsize hdg hW hn hp
  have h1 : (headSpec ws rm).pre.before a A.U = true := atoms_intro fun w hw => hws w hw _ _ X.warmed
  have h2 : (Cond.codeWith y bytes maxL ret hh).before a A.U = true := hws _ hcode _ _ X.warmed
  have h3 : (Cond.initialized y.cls).before a A.U = true := hinit _ _ X.warmed
  have h4 : A.cells + (headSpec ws rm).room.cells ≤ R.cells := by rw [show (headSpec ws rm).room.cells = mc from hrc]; exact hp.1
  have h5 : A.slots + (headSpec ws rm).room.slots ≤ R.slots := by rw [show (headSpec ws rm).room.slots = ms from hrs]; exact hp.2.1
  have hPc : Pc a (A.U.calling g mk a) := hblind _ _ _ _ hp.2.2
  obtain ⟨U, Ls, c0, s0⟩ := A
  dsimp only [Pt.U, Pt.locs, Pt.cells, Pt.slots] at h1 h2 h3 h4 h5 X hn hPc ⊢
  obtain ⟨m9, methY, cY, hn9, hmY, hcY, -, hlY, -⟩ := Cond.codeWith_spec h2
  cases Option.some.inj (hn9.symm.trans hn)
  obtain ⟨kY, hkY, -⟩ := className_of_methodNamed hn
  have hinitY : kY.init = .initialized := Cond.initialized_spec (findClass_of_methodNamed hn) hkY h3
  have h : At U g.method c below := by rw [hg]; exact X.here
  have hlocals9 : W9 + (maxL + 11) + (headSpec ws rm).room.locals ≤ R.locals := hlocals
  have happ : (headSpec ws rm).appliesLoose y e.platform (U.calling g mk a) = true :=
    Spec.appliesLoose_calling (g := g) h hdg hn hkY hinitY
      (X.room_calling (g := g) (R' := (headSpec ws rm).room) hsize hmY hcY hframes (by rw [hlY]; omega) h4 h5) h1
  obtain ⟨mid, hmid⟩ := h.above
  have hfr : (U.setTop g).frames = (.java g :: mid) ++ below := by rw [State.frames_setTop' g h.top, hmid]; rfl
  obtain ⟨o, s₂, hsteps, -, hend, hq⟩ := Steps.callFree hM p X.admits X.cas X.clock (acts := []) hfr happ hPc trivial
  have hq' : vx_Q Qc XC mc ms free a (U.calling g mk a) o s₂ := hq
  rw [State.frames_setTop' g h.top] at hend
  obtain ⟨g₀, hg0⟩ := Option.isSome_iff_exists.mp h.top
  obtain ⟨r, hr⟩ := State.topJava?_eq_some.mp hg0
  have hr' : (({ U with heap := s₂.heap, slotsUsed := s₂.slotsUsed } : State).setVm s₂.vm).frames = .java g₀ :: r := hr
  rcases hq' with ⟨hqc, L, hfe, hL⟩ | ⟨q, rfl, E, ce, L, hx, hce, hcv, hcl, hW₂, hsm, hL⟩
  · obtain ⟨⟨v, rfl⟩, hW₂, e2, q2, q3, q4, q5, q6⟩ := id hfe
    have e3 : s₂ = ({ (U.calling g mk a).setFrames s₂.frames with heap := s₂.heap, slotsUsed := s₂.slotsUsed } : State).setVm s₂.vm := by
      have : s₂ = ({ s₂ with vm := (U.calling g mk a).vm } : State).setVm s₂.vm := rfl
      rw [e2] at this
      exact this
    obtain ⟨c₂, i₂, len₂, hc₂, hd₂, hf₂⟩ := hend
    have hW' : U.WarmedH s₂.vm := hW₂
    have hcc : c₂ = c := by
      have h1 : s₂.code? g.method = U.code? g.method := by
        rw [State.code?_eq, State.code?_eq, hW'.alike.method?]
      exact Option.some.inj (hc₂.symm.trans (h1.trans h.code))
    subst hcc
    have hlen : len₂ = len := by rw [hdg] at hd₂; cases hd₂; rfl
    subst hlen
    have hs₂ : s₂ = (({ U with heap := s₂.heap, slotsUsed := s₂.slotsUsed } : State).setVm s₂.vm).setTop { g with pc := g.pc + len₂, stack := v.toList ++ g.stack } := by
      refine e3.trans ?_
      rw [hf₂, State.calling_eq h.top, State.setFrames_setFrames, State.setTop_of_frames _ hr', hr]
      rfl
    have hsame : U.sameButNew ({ U with heap := s₂.heap, slotsUsed := s₂.slotsUsed } : State) L mc ms := by
      refine ⟨?_, q2, q3, q4, q5, q6⟩
      obtain ⟨t, ht, -⟩ := State.frames_cons hr
      show ({ U with heap := s₂.heap, slotsUsed := s₂.slotsUsed } : State) = { U.setFrames U.frames with heap := s₂.heap, slotsUsed := s₂.slotsUsed }
      rw [State.setFrames_self ht]
    subst hg
    refine Or.inl ⟨v, ⟨(({ U with heap := s₂.heap, slotsUsed := s₂.slotsUsed } : State).setVm s₂.vm), Ls ++ L, c0 + mc, s0 + ms⟩,
      ⟨X.admits, X.cas, X.clock, X.frames, X.room, X.hears, X.method, X.code, (X.here.setHeapUsed s₂.heap s₂.slotsUsed).setVm hW'.alike, X.tail, State.WarmedH.trans X.warmed hW', X.limits, X.bytes, X.same.trans (hsame.setVm s.vm)⟩,
      ⟨g, mk, s₂, L, rfl, rfl, hqc, rfl, hL, rfl, rfl⟩, ?_⟩
    show Steps p.tables e below _ ((({ U with heap := s₂.heap, slotsUsed := s₂.slotsUsed } : State).setVm s₂.vm).setTop { g with pc := g.pc + len₂, stack := v.toList ++ g.stack })
    rw [← hs₂]
    exact hsteps
  · obtain ⟨e2, q2, q3, q4, q5, q6⟩ := id hsm
    have e3 : s₂ = ({ (U.calling g mk a).setFrames s₂.frames with heap := s₂.heap, slotsUsed := s₂.slotsUsed } : State).setVm s₂.vm := by
      have : s₂ = ({ s₂ with vm := (U.calling g mk a).vm } : State).setVm s₂.vm := rfl
      rw [e2] at this
      exact this
    have hf₂ : s₂.frames = .throwing q :: .java g :: U.frames.tail := hend
    have hW' : U.WarmedH s₂.vm := hW₂
    have hs₂ : s₂ = ((({ U with heap := s₂.heap, slotsUsed := s₂.slotsUsed } : State).setVm s₂.vm).setTop g).pushFrame (.throwing q) := by
      refine e3.trans ?_
      rw [hf₂, State.calling_eq h.top, State.setFrames_setFrames, State.pushFrame, State.frames_setTop _ hr', State.setTop_of_frames _ hr', State.setFrames_setFrames, hr]
      rfl
    have hsame : U.sameButNew ({ U with heap := s₂.heap, slotsUsed := s₂.slotsUsed } : State) L mc ms := by
      refine ⟨?_, q2, q3, q4, q5, q6⟩
      obtain ⟨t, ht, -⟩ := State.frames_cons hr
      show ({ U with heap := s₂.heap, slotsUsed := s₂.slotsUsed } : State) = { U.setFrames U.frames with heap := s₂.heap, slotsUsed := s₂.slotsUsed }
      rw [State.setFrames_self ht]
    subst hg
    refine Or.inr ⟨q, ⟨(({ U with heap := s₂.heap, slotsUsed := s₂.slotsUsed } : State).setVm s₂.vm), Ls ++ L, c0 + mc, s0 + ms⟩,
      ⟨X.admits, X.cas, X.clock, X.frames, X.room, X.hears, X.method, X.code, (X.here.setHeapUsed s₂.heap s₂.slotsUsed).setVm hW'.alike, X.tail, State.WarmedH.trans X.warmed hW', X.limits, X.bytes, X.same.trans (hsame.setVm s.vm)⟩,
      ⟨g, mk, s₂, L, E, ce, rfl, rfl, hx, hce, hcv, hcl, rfl, hL, rfl, rfl⟩, ?_⟩
    show Steps p.tables e below _ (((({ U with heap := s₂.heap, slotsUsed := s₂.slotsUsed } : State).setVm s₂.vm).setTop g).pushFrame (.throwing q))
    rw [← hs₂]
    exact hsteps
end
variable {p : Program} {l : Launch} {e : Env} {R : Room} {s : State} {m : MethodId} {args : Array Value} {below : List Frame} {meth : Method} {c : Code} {T : State} {H : Heap} {locs : List Loc} {cells slots : Nat}
theorem vx_callVX (X : Stand p l e R s m args below meth c T locs cells slots) (hexec : p.tables.exec = Jvm.exec) {own C : String} {index : Nat} {y : MethodName} {bytes : ByteArray} {maxL : Nat} {ret : Option FieldType} {hh : List (Nat × Nat × Nat × Nat)}
    (hown : s.vm.findClass own = some m.cls) (hlink : (Cond.methodLink own index y).before args s = true) (hinst : (Cond.instanceMethod y).before args s = true) (hsel : (Cond.selects C y y).before args s = true)
    (hcode : (Cond.codeWith y bytes maxL ret hh).before args s = true) (hy : y.cls ≠ "java/lang/invoke/MethodHandle" ∧ y.cls ≠ "java/lang/invoke/VarHandle")
    {W9 : Nat} {Pre : Pt → Array Value → Prop} {Post : Pt → Array Value → Option Value → Pt → Prop} {PostX : Pt → Array Value → Addr → Pt → Prop} (hK : vx_Back l R p e below s args y 3 W9 Pre Post PostX)
    {b : Addr} {cellB : Cell} (hcell : T.heap[b]? = some cellB) (hobj : cellB.vm.isStatics = false) (hcls : s.vm.findClass C = some cellB.cls)
    {g : JFrame} (hg : g.method = m) (hsize : g.locals.size = c.maxLocals) {argsL rest : List Value} (hlen : ∀ sig, parseMethodDescriptor y.desc = some sig → argsL.length = sig.parameters.length)
    (hstack : g.stack = argsL.reverse ++ .ref b :: rest) (hW : 2 * g.monitorRoom + (rest.map fun v => v.category).sum ≤ W9) (hdg : decode c.code g.pc = .ok (.invokevirtual index, 3))
    (hpre : ∀ vm₁, s.WarmedH vm₁ → Pre ⟨T.setVm vm₁, locs, cells, slots⟩ (Value.ref b :: argsL).toArray) :
    (∃ (v : Option Value) (vm₁ : Vm) (B : Pt), s.WarmedH vm₁ ∧ Stand p l e R s m args below meth c B.U B.locs B.cells B.slots ∧ Post ⟨T.setVm vm₁, locs, cells, slots⟩ (Value.ref b :: argsL).toArray v B ∧
      ∀ target, Steps p.tables e below (B.U.setTop { g with pc := g.pc + 3, stack := v.toList ++ rest }) target → Steps p.tables e below (T.setTop g) target) ∨
    (∃ (q : Addr) (vm₁ : Vm) (B : Pt), s.WarmedH vm₁ ∧ Stand p l e R s m args below meth c B.U B.locs B.cells B.slots ∧ PostX ⟨T.setVm vm₁, locs, cells, slots⟩ (Value.ref b :: argsL).toArray q B ∧
      Steps p.tables e below (T.setTop g) ((B.U.setTop { g with stack := rest }).pushFrame (.throwing q))) := by
  obtain ⟨mk, methM, hnamed, hmethM, hstM, habM⟩ := Cond.instanceMethod_spec hinst
  obtain ⟨m8, methM', cM, hn8, hmethM', -, -, -, -, -, -, hsigM⟩ := Cond.codeWith_spec hcode
  cases Option.some.inj (hn8.symm.trans hnamed)
  cases hmethM.symm.trans hmethM'
  obtain ⟨c2, r2, m2, q1, q2, q3, q4, kP, hkP, hkPi⟩ := Cond.selects_spec hsel
  cases hcls.symm.trans q1
  cases (State.methodFound?_of_named hnamed hy).symm.trans q2
  cases hnamed.symm.trans q3
  have hselP : selectMethod e.platform s.vm cellB.cls mk = .method mk := by rw [Launch.admits_selectMethod X.admits]; exact q4
  obtain ⟨vm₁, X₁, hstep₁⟩ := X.invokevirtual hexec hown hlink hnamed hmethM hstM hkP hkPi hy (a := b) (cell := cellB) hcell
    (fun z h => by rw [h] at hobj; cases hobj) hselP hmethM habM hkP hkPi (g := g) hg (argsL := argsL) (rest := rest) (hlen _ hsigM) hstack hdg
  rcases hK m meth c ⟨T.setVm vm₁, locs, cells, slots⟩ { g with stack := rest } (.invokevirtual index) mk (Value.ref b :: argsL).toArray X₁ hg hsize hdg hW (X₁.named hnamed) (hpre vm₁ X₁.warmed) with ⟨v, B, X', hpost, hsteps⟩ | ⟨q, B, X', hpost, hsteps⟩
  · exact Or.inl ⟨v, vm₁, B, X₁.warmed, X', hpost, fun target h => hstep₁ _ fun acts => by rw [doInvoke_state]; exact hsteps.trans h⟩
  · exact Or.inr ⟨q, vm₁, B, X₁.warmed, X', hpost, hstep₁ _ fun acts => by rw [doInvoke_state]; exact hsteps⟩
theorem vx_callSX (X : Stand p l e R s m args below meth c T locs cells slots) (hexec : p.tables.exec = Jvm.exec) {own : String} {index : Nat} {y : MethodName} {bytes : ByteArray} {maxL : Nat} {ret : Option FieldType} {hh : List (Nat × Nat × Nat × Nat)}
    (hown : s.vm.findClass own = some m.cls) (hlink : (Cond.methodLink own index y).before args s = true) (hstat : (Cond.static y).before args s = true) (hinit : (Cond.initialized y.cls).before args s = true)
    (hcode : (Cond.codeWith y bytes maxL ret hh).before args s = true) (hy : y.cls ≠ "java/lang/invoke/MethodHandle" ∧ y.cls ≠ "java/lang/invoke/VarHandle")
    {W9 : Nat} {Pre : Pt → Array Value → Prop} {Post : Pt → Array Value → Option Value → Pt → Prop} {PostX : Pt → Array Value → Addr → Pt → Prop} (hK : vx_Back l R p e below s args y 3 W9 Pre Post PostX)
    {g : JFrame} (hg : g.method = m) (hsize : g.locals.size = c.maxLocals) {argsL rest : List Value} (hlen : ∀ sig, parseMethodDescriptor y.desc = some sig → argsL.length = sig.parameters.length)
    (hstack : g.stack = argsL.reverse ++ rest) (hW : 2 * g.monitorRoom + (rest.map fun v => v.category).sum ≤ W9) (hdg : decode c.code g.pc = .ok (.invokestatic index, 3))
    (hpre : ∀ vm₁, s.WarmedH vm₁ → Pre ⟨T.setVm vm₁, locs, cells, slots⟩ argsL.toArray) :
    (∃ (v : Option Value) (vm₁ : Vm) (B : Pt), s.WarmedH vm₁ ∧ Stand p l e R s m args below meth c B.U B.locs B.cells B.slots ∧ Post ⟨T.setVm vm₁, locs, cells, slots⟩ argsL.toArray v B ∧
      ∀ target, Steps p.tables e below (B.U.setTop { g with pc := g.pc + 3, stack := v.toList ++ rest }) target → Steps p.tables e below (T.setTop g) target) ∨
    (∃ (q : Addr) (vm₁ : Vm) (B : Pt), s.WarmedH vm₁ ∧ Stand p l e R s m args below meth c B.U B.locs B.cells B.slots ∧ PostX ⟨T.setVm vm₁, locs, cells, slots⟩ argsL.toArray q B ∧
      Steps p.tables e below (T.setTop g) ((B.U.setTop { g with stack := rest }).pushFrame (.throwing q))) := by
  obtain ⟨mk, methM, cM, hnamed, hmethM, -, -, -, -, -, -, hsigM⟩ := Cond.codeWith_spec hcode
  have hstatic : methM.isStatic = true := Cond.static_spec hnamed hmethM hstat
  obtain ⟨kP, hkP, -⟩ := className_of_methodNamed hnamed
  have hinitP : kP.init = .initialized := Cond.initialized_spec (findClass_of_methodNamed hnamed) hkP hinit
  obtain ⟨vm₁, X₁, hstep₁⟩ := X.invokestatic hexec hown hlink hnamed hmethM hstatic hkP hinitP hy (g := g) hg (argsL := argsL) (rest := rest) (hlen _ hsigM) hstack hdg
  rcases hK m meth c ⟨T.setVm vm₁, locs, cells, slots⟩ { g with stack := rest } (.invokestatic index) mk argsL.toArray X₁ hg hsize hdg hW (X₁.named hnamed) (hpre vm₁ X₁.warmed) with ⟨v, B, X', hpost, hsteps⟩ | ⟨q, B, X', hpost, hsteps⟩
  · exact Or.inl ⟨v, vm₁, B, X₁.warmed, X', hpost, fun target h => hstep₁ _ fun acts => by rw [doInvoke_state]; exact hsteps.trans h⟩
  · exact Or.inr ⟨q, vm₁, B, X₁.warmed, X', hpost, hstep₁ _ fun acts => by rw [doInvoke_state]; exact hsteps⟩
theorem vx_callVW (X : Stand p l e R s m args below meth c T locs cells slots) (hexec : p.tables.exec = Jvm.exec) {own C : String} {index : Nat} {y : MethodName} {bytes : ByteArray} {maxL : Nat} {ret : Option FieldType} {hh : List (Nat × Nat × Nat × Nat)}
    (hown : s.vm.findClass own = some m.cls) (hlink : (Cond.methodLink own index y).before args s = true) (hinst : (Cond.instanceMethod y).before args s = true) (hsel : (Cond.selects C y y).before args s = true)
    (hcode : (Cond.codeWith y bytes maxL ret hh).before args s = true) (hy : y.cls ≠ "java/lang/invoke/MethodHandle" ∧ y.cls ≠ "java/lang/invoke/VarHandle")
    {W9 : Nat} {Pre : Pt → Array Value → Prop} {Post : Pt → Array Value → Option Value → Pt → Prop} (hK : Back l R p e below s args y 3 W9 Pre Post)
    {b : Addr} {cellB : Cell} (hcell : T.heap[b]? = some cellB) (hobj : cellB.vm.isStatics = false) (hcls : s.vm.findClass C = some cellB.cls)
    {g : JFrame} (hg : g.method = m) (hsize : g.locals.size = c.maxLocals) {argsL rest : List Value} (hlen : ∀ sig, parseMethodDescriptor y.desc = some sig → argsL.length = sig.parameters.length)
    (hstack : g.stack = argsL.reverse ++ .ref b :: rest) (hW : 2 * g.monitorRoom + (rest.map fun v => v.category).sum ≤ W9) (hdg : decode c.code g.pc = .ok (.invokevirtual index, 3))
    (hpre : ∀ vm₁, s.WarmedH vm₁ → Pre ⟨T.setVm vm₁, locs, cells, slots⟩ (Value.ref b :: argsL).toArray) :
    ∃ (v : Option Value) (vm₁ : Vm) (B : Pt), s.WarmedH vm₁ ∧ Stand p l e R s m args below meth c B.U B.locs B.cells B.slots ∧ Post ⟨T.setVm vm₁, locs, cells, slots⟩ (Value.ref b :: argsL).toArray v B ∧
      ∀ target, Steps p.tables e below (B.U.setTop { g with pc := g.pc + 3, stack := v.toList ++ rest }) target → Steps p.tables e below (T.setTop g) target := by
  obtain ⟨mk, methM, hnamed, hmethM, hstM, habM⟩ := Cond.instanceMethod_spec hinst
  obtain ⟨m8, methM', cM, hn8, hmethM', -, -, -, -, -, -, hsigM⟩ := Cond.codeWith_spec hcode
  cases Option.some.inj (hn8.symm.trans hnamed)
  cases hmethM.symm.trans hmethM'
  obtain ⟨c2, r2, m2, q1, q2, q3, q4, kP, hkP, hkPi⟩ := Cond.selects_spec hsel
  cases hcls.symm.trans q1
  cases (State.methodFound?_of_named hnamed hy).symm.trans q2
  cases hnamed.symm.trans q3
  have hselP : selectMethod e.platform s.vm cellB.cls mk = .method mk := by rw [Launch.admits_selectMethod X.admits]; exact q4
  obtain ⟨vm₁, X₁, hstep₁⟩ := X.invokevirtual hexec hown hlink hnamed hmethM hstM hkP hkPi hy (a := b) (cell := cellB) hcell
    (fun z h => by rw [h] at hobj; cases hobj) hselP hmethM habM hkP hkPi (g := g) hg (argsL := argsL) (rest := rest) (hlen _ hsigM) hstack hdg
  obtain ⟨v, B, X', hpost, hsteps⟩ := hK m meth c ⟨T.setVm vm₁, locs, cells, slots⟩ { g with stack := rest } (.invokevirtual index) mk (Value.ref b :: argsL).toArray X₁ hg hsize hdg hW (X₁.named hnamed) (hpre vm₁ X₁.warmed)
  exact ⟨v, vm₁, B, X₁.warmed, X', hpost, fun target h => hstep₁ _ fun acts => by rw [doInvoke_state]; exact hsteps.trans h⟩
abbrev vx_CVW (R : Room) (s : State) (args : Array Value) (own C : String) (index : Nat) (y : MethodName) (bytes : ByteArray) (maxL : Nat) (ret : Option FieldType) (hh : List (Nat × Nat × Nat × Nat)) (ws : List Cond) (rm : Room) (mc ms n : Nat) : Prop :=
  (rm.cells = mc ∧ rm.slots = ms ∧ rm.frames + 1 ≤ R.frames ∧ 8 + (maxL + 11) + rm.locals ≤ R.locals ∧ (∀ w ∈ ws, ∀ (a' : Array Value) (U : State), s.WarmedH U.vm → w.before a' U = true) ∧ Cond.codeWith y bytes maxL ret hh ∈ ws) ∧
  (Cond.codeWith y bytes maxL ret hh).before args s = true ∧ (Cond.initialized y.cls).before args s = true ∧ (y.cls ≠ "java/lang/invoke/MethodHandle" ∧ y.cls ≠ "java/lang/invoke/VarHandle") ∧
  (∀ sig, parseMethodDescriptor y.desc = some sig → n = sig.parameters.length) ∧ (Cond.methodLink own index y).before args s = true ∧ (Cond.instanceMethod y).before args s = true ∧ (Cond.selects C y y).before args s = true
theorem vx_cwVW {own C : String} {index maxL mc ms : Nat} {y : MethodName} {bytes : ByteArray} {ret : Option FieldType} {hh : List (Nat × Nat × Nat × Nat)} {Ts ws ws' : List Cond} {rm : Room} (n : Nat) (ht : ∀ w ∈ Ts, w.before args s = true) (hT : GoodIn Ts (wsV own index C y ws)) (hw : ws = Cond.codeWith y bytes maxL ret hh :: ws') (hrc : rm.cells = mc) (hrs : rm.slots = ms)
    (hd : y.cls = C ∧ y.cls ≠ "java/lang/invoke/MethodHandle" ∧ y.cls ≠ "java/lang/invoke/VarHandle" ∧ (parseMethodDescriptor y.desc).map (fun d => d.parameters.length) = some n) (hR : rm.frames + 1 ≤ R.frames ∧ 8 + (maxL + 11) + rm.locals ≤ R.locals) :
    vx_CVW R s args own C index y bytes maxL ret hh ws rm mc ms n := by
  obtain ⟨hC, hd⟩ := hd
  subst hC
  have ok : ∀ w ∈ wsV own index y.cls y ws, w.before args s = true := fun w h => ht w (hT w h).1
  have hG : GoodIn Ts ws := fun w h => hT w (by unfold wsV; exact List.mem_append_right _ h)
  have hc : Cond.codeWith y bytes maxL ret hh ∈ ws := by rw [hw]; exact List.mem_cons_self
  refine ⟨⟨hrc, hrs, hR.1, hR.2, pay_in ht hG, hc⟩, ht _ (hG _ hc).1, ok _ (by simp [wsV]), ⟨hd.1, hd.2.1⟩, fun sig h => ?_, ok _ (by simp [wsV]), ok _ (by simp [wsV]), ok _ (by simp [wsV])⟩
  have h2 := hd.2.2
  rw [h] at h2
  exact (Option.some.inj h2).symm
theorem vx_runVW {y : MethodName} {bytes cc : ByteArray} {maxL nL mc ms n index : Nat} {ret : Option FieldType} {hh : List (Nat × Nat × Nat × Nat)} {ws : List Cond} {rm : Room} {Pc : Array Value → State → Prop} {Qc : Array Value → State → Outcome → State → Prop} {free : Addr → Prop} {Ts : List Cond} {own C : String} {b : Addr} {As rest : List Value} {g : JFrame}
    (S : CallFix p m c cc nL s args Ts own) (hM : Met l y ws rm Pc Qc mc ms free) (cw : vx_CVW R s args own C index y bytes maxL ret hh ws rm mc ms n) (hp : PreV s H C b Pc As)
    (hg : g.method = m) (hn : As.length = n) (hsize : g.locals.size = nL) (hstack : g.stack = As.reverse ++ .ref b :: rest) (hW : 2 * g.monitorRoom + (rest.map fun v => v.category).sum ≤ 8) (hdg : decode cc g.pc = .ok (.invokevirtual index, 3)) (hf : cells + mc ≤ R.cells ∧ slots + ms ≤ R.slots) :
    va_Run p l e R s m args below meth c H locs cells slots mc ms g rest (Qc (Value.ref b :: As).toArray) free := by
  obtain ⟨⟨hrc, hrs, hfr, hlo, hws, hcw⟩, hcode, hini, hy, hlen, hl, hin, hse⟩ := cw
  have hK : Back l R p e below s args y 3 8 (PreOf R mc ms Pc) (PostOf Qc mc ms free) := va_backW (hh := hh) (bytes := bytes) (maxL := maxL) (ret := ret) hM hp.1 hrc hrs hfr hlo hws hcw (fun a' U hW => word_at hW (Or.inl (by first | rfl | simp [Cond.onTables, Cond.keeps, Cond.steady])) hini)
  obtain ⟨hx, hb, hml, ho, -⟩ := S
  obtain ⟨-, ⟨cellB, hcB, hoB, hclB⟩, hPc⟩ := hp
  intro T hT X
  obtain ⟨v, vm₁, ⟨U', l2, c2, s2⟩, hW₁, X', ⟨g', mk, t, L, e1, e2, hq, h1, hL, h2, h3⟩, st⟩ := vx_callVW X hx (C := C) (hh := hh) (bytes := bytes) (maxL := maxL) (ret := ret) ho hl hin hse hcode hy hK (by rw [hT]; exact hcB) hoB hclB hg (hsize.trans hml.symm) (argsL := As) (rest := rest) (fun sig h => hn.trans (hlen sig h)) hstack hW (by rw [hb]; exact hdg)
    (fun vm₁ hW₁ => ⟨hf.1, hf.2, hPc (T.setVm vm₁) hT hW₁⟩)
  dsimp only [Pt.U, Pt.locs, Pt.cells, Pt.slots] at X' e1 e2 h1 h2 h3 st
  subst h1; subst h2; subst h3
  exact ⟨v, (T.setVm vm₁).calling g' mk (Value.ref b :: As).toArray, t, U', L, hT, X', hL, e1, e2, hq, st⟩
section
variable {y : MethodName} {bytes cc : ByteArray} {maxL nL mc ms n index : Nat} {ret : Option FieldType} {ws : List Cond} {rm : Room} {Pc : Array Value → State → Prop} {Qc : Array Value → State → Outcome → State → Prop} {XC : String → State → State → Prop} {free : Addr → Prop} {Ts : List Cond} {own C : String} {b : Addr} {As rest : List Value} {g : JFrame}
theorem vx_runVX {hh : List (Nat × Nat × Nat × Nat)} (S : CallFix p m c cc nL s args Ts own) (hM : vx_Met l y ws rm Pc Qc XC mc ms free) (cw : vx_CVW R s args own C index y bytes maxL ret hh ws rm mc ms n) (hp : PreV s H C b Pc As)
    (hg : g.method = m) (hn : As.length = n) (hsize : g.locals.size = nL) (hstack : g.stack = As.reverse ++ .ref b :: rest) (hW : 2 * g.monitorRoom + (rest.map fun v => v.category).sum ≤ 8) (hdg : decode cc g.pc = .ok (.invokevirtual index, 3)) (hf : cells + mc ≤ R.cells ∧ slots + ms ≤ R.slots) :
    vx_Run p l e R s m args below meth c H locs cells slots mc ms g rest (Qc (Value.ref b :: As).toArray) XC free := by
  obtain ⟨⟨hrc, hrs, hfr, hlo, hws, hcw⟩, hcode, hini, hy, hlen, hl, hin, hse⟩ := cw
  have hK : vx_Back l R p e below s args y 3 8 (PreOf R mc ms Pc) (PostOf Qc mc ms free) (vx_Post XC mc ms free) := vx_backW (hh := hh) (bytes := bytes) (maxL := maxL) (ret := ret) hM hp.1 hrc hrs hfr hlo hws hcw (fun a' U hW => word_at hW (Or.inl (by first | rfl | simp [Cond.onTables, Cond.keeps, Cond.steady])) hini)
  obtain ⟨hx, hb, hml, ho, -⟩ := S
  obtain ⟨-, ⟨cellB, hcB, hoB, hclB⟩, hPc⟩ := hp
  intro T hT X
  rcases vx_callVX X hx (C := C) (hh := hh) (bytes := bytes) (maxL := maxL) (ret := ret) ho hl hin hse hcode hy hK (by rw [hT]; exact hcB) hoB hclB hg (hsize.trans hml.symm) (argsL := As) (rest := rest) (fun sig h => hn.trans (hlen sig h)) hstack hW (by rw [hb]; exact hdg)
    (fun vm₁ hW₁ => ⟨hf.1, hf.2, hPc (T.setVm vm₁) hT hW₁⟩) with ⟨v, vm₁, ⟨U', l2, c2, s2⟩, hW₁, X', ⟨g', mk, t, L, e1, e2, hq, h1, hL, h2, h3⟩, st⟩ | ⟨q, vm₁, ⟨U', l2, c2, s2⟩, hW₁, X', ⟨g', mk, t, L, E, ce, e1, e2, hq, hce, hcv, hcl, h1, hL, h2, h3⟩, st⟩
  · dsimp only [Pt.U, Pt.locs, Pt.cells, Pt.slots] at X' e1 e2 h1 h2 h3 st
    subst h1; subst h2; subst h3
    exact Or.inl ⟨v, (T.setVm vm₁).calling g' mk (Value.ref b :: As).toArray, t, U', L, hT, X', hL, e1, e2, hq, st⟩
  · dsimp only [Pt.U, Pt.locs, Pt.cells, Pt.slots] at X' e1 e2 h1 h2 h3 st hcl
    subst h1; subst h2; subst h3
    exact Or.inr ⟨q, (T.setVm vm₁).calling g' mk (Value.ref b :: As).toArray, t, U', L, E, ce, hT, X', hL, e1, e2, hq, hce, hcv, vx_cls hW₁ hcl, st⟩
theorem vx_runSX {hh : List (Nat × Nat × Nat × Nat)} (S : CallFix p m c cc nL s args Ts own) (hM : vx_Met l y ws rm Pc Qc XC mc ms free) (cw : vx_CSW R s args own index y bytes maxL ret hh ws rm mc ms n) (hp : PreS s H Pc As)
    (hg : g.method = m) (hn : As.length = n) (hsize : g.locals.size = nL) (hstack : g.stack = As.reverse ++ rest) (hW : 2 * g.monitorRoom + (rest.map fun v => v.category).sum ≤ 8) (hdg : decode cc g.pc = .ok (.invokestatic index, 3)) (hf : cells + mc ≤ R.cells ∧ slots + ms ≤ R.slots) :
    vx_Run p l e R s m args below meth c H locs cells slots mc ms g rest (Qc As.toArray) XC free := by
  obtain ⟨⟨hrc, hrs, hfr, hlo, hws, hcw⟩, hcode, hini, hy, hlen, hl, hstt⟩ := cw
  have hK : vx_Back l R p e below s args y 3 8 (PreOf R mc ms Pc) (PostOf Qc mc ms free) (vx_Post XC mc ms free) := vx_backW (hh := hh) (bytes := bytes) (maxL := maxL) (ret := ret) hM hp.1 hrc hrs hfr hlo hws hcw (fun a' U hW => word_at hW (Or.inl (by first | rfl | simp [Cond.onTables, Cond.keeps, Cond.steady])) hini)
  obtain ⟨hx, hb, hml, ho, -⟩ := S
  intro T hT X
  rcases vx_callSX X hx (hh := hh) (bytes := bytes) (maxL := maxL) (ret := ret) ho hl hstt hini hcode hy hK hg (hsize.trans hml.symm) (argsL := As) (rest := rest) (fun sig h => hn.trans (hlen sig h)) hstack hW (by rw [hb]; exact hdg)
    (fun vm₁ hW₁ => ⟨hf.1, hf.2, hp.2 (T.setVm vm₁) hT hW₁⟩) with ⟨v, vm₁, ⟨U', l2, c2, s2⟩, hW₁, X', ⟨g', mk, t, L, e1, e2, hq, h1, hL, h2, h3⟩, st⟩ | ⟨q, vm₁, ⟨U', l2, c2, s2⟩, hW₁, X', ⟨g', mk, t, L, E, ce, e1, e2, hq, hce, hcv, hcl, h1, hL, h2, h3⟩, st⟩
  · dsimp only [Pt.U, Pt.locs, Pt.cells, Pt.slots] at X' e1 e2 h1 h2 h3 st
    subst h1; subst h2; subst h3
    exact Or.inl ⟨v, (T.setVm vm₁).calling g' mk As.toArray, t, U', L, hT, X', hL, e1, e2, hq, st⟩
  · dsimp only [Pt.U, Pt.locs, Pt.cells, Pt.slots] at X' e1 e2 h1 h2 h3 st hcl
    subst h1; subst h2; subst h3
    exact Or.inr ⟨q, (T.setVm vm₁).calling g' mk As.toArray, t, U', L, E, ce, hT, X', hL, e1, e2, hq, hce, hcv, vx_cls hW₁ hcl, st⟩
end
end VXH
theorem vx_ofWH {l : Launch} {y : MethodName} {ws ws' : List Cond} {rm : Room} {Pc : Array Value → State → Prop} {Qc : Array Value → State → Outcome → State → Prop} {XC : String → State → State → Prop} {mc ms : Nat} {free : Addr → Prop} {cc : ByteArray} {maxL : Nat} {ret : Option FieldType} {hh : List (Nat × Nat × Nat × Nat)}
    (hy : plainName y.cls = true) (hw : ws = Cond.codeWith y cc maxL ret hh :: ws')
    (body : ∀ p e s m args below meth c s₁, BodyLoose p l y (headSpec ws rm) cc maxL ret e s m args below meth c s₁ → c.maxLocals = maxL → Pc args s →
      W p l e (headSpec ws rm).room s m args below meth c s.heap [] 0 0 (vx_MQ below Qc XC args s mc ms free) (entryFrame m args maxL)) : vx_Met l y ws rm Pc Qc XC mc ms free := by
  refine MetFree.of_bodyS (code := cc) (maxLocals := maxL) (ret := ret) hy ?_ ?_
  · intro args s m h hn
    obtain ⟨m9, meth, c, hn9, h1, h2, h3, h4, -, h5, h6, -⟩ := Cond.codeWith_spec (atoms_spec (ws := ws) h _ (by rw [hw]; exact List.mem_cons_self))
    cases hn.symm.trans hn9
    exact ⟨meth, c, h1, h2, h3, h4, h5, h6⟩
  · intro p e s m args below meth c s₁ B hml hP _
    have hh0 : s₁.heap = s.heap := by rw [B.state]; rfl
    obtain ⟨t, a1, o, b1, b2, b3⟩ := body p e s m args below meth c s₁ B hml hP s₁ hh0 (Stand.of_body B)
    exact ⟨t, o, a1, b1, b2, b3⟩
/-! ===== END ===== -/
end
section
def RX0 : String := "TabledGoals$Caller"
def TX0 : u_T := fun k => match k with
  | 0 => ("TabledGoals$Walk", "program", "LTabledGoals$Program;", false)
  | 1 => ("TabledGoals$Walk", "plain", "[J", true)
  | 2 => ("TabledGoals$Walk", "barred", "[J", false)
  | 3 => ("TabledGoals$Walk", "clause", "I", false)
  | 4 => ("TabledGoals$Walk", "bound", "[I", true)
  | 5 => ("TabledGoals$Walk", "same", "[I", true)
  | 6 => ("TabledGoals$Caller", "count", "I", false)
  | 7 => ("TabledGoals$Caller", "keys", "[I", true)
  | _ => ("TabledGoals$Caller", "ways", "[I", true)
def tyX0 : Nat → FieldType := fun k => match k with
  | 0 => .object "TabledGoals$Program"
  | 1 => .array .long
  | 2 => .array .long
  | 3 => .int
  | 4 => .array .int
  | 5 => .array .int
  | 6 => .int
  | 7 => .array .int
  | _ => .array .int
abbrev wsX00 : List Cond := u_ws RX0 TX0 9
theorem nmX0 : ∀ a, a < 9 → ∀ b, b < 9 → a ≠ b → (TX0 a).2.1 ≠ (TX0 b).2.1 := by decide +kernel
theorem tyX0_ok : ∀ k, k < 9 → parseFieldDescriptor (TX0 k).2.2.1 = some (tyX0 k) := by decide +kernel
abbrev cX0_init : ByteArray := prog_2_method_1_code
def yX0_init : MethodName := ⟨RX0, "<init>", "(LTabledGoals$Program;LTabledGoals$Model;)V"⟩
abbrev cX0_collect : ByteArray := prog_2_method_2_code
def yX0_collect : MethodName := ⟨RX0, "collect", "(LTabledGoals$Program;I)V"⟩
abbrev cX0_meet : ByteArray := prog_2_method_3_code
def yX0_meet : MethodName := ⟨RX0, "meet", "(III)V"⟩
abbrev cX0_end : ByteArray := prog_2_method_4_code
def yX0_end : MethodName := ⟨RX0, "end", "()V"⟩
def RX1 : String := "TabledGoals$Follower"
def TX1 : u_T := fun k => match k with
  | 0 => ("TabledGoals$Walk", "program", "LTabledGoals$Program;", false)
  | 1 => ("TabledGoals$Walk", "plain", "[J", true)
  | 2 => ("TabledGoals$Walk", "barred", "[J", false)
  | 3 => ("TabledGoals$Walk", "clause", "I", false)
  | 4 => ("TabledGoals$Walk", "bound", "[I", true)
  | 5 => ("TabledGoals$Walk", "same", "[I", true)
  | _ => ("TabledGoals$Follower", "grownNow", "I", false)
def tyX1 : Nat → FieldType := fun k => match k with
  | 0 => .object "TabledGoals$Program"
  | 1 => .array .long
  | 2 => .array .long
  | 3 => .int
  | 4 => .array .int
  | 5 => .array .int
  | _ => .int
abbrev wsX10 : List Cond := u_ws RX1 TX1 7
theorem nmX1 : ∀ a, a < 7 → ∀ b, b < 7 → a ≠ b → (TX1 a).2.1 ≠ (TX1 b).2.1 := by decide +kernel
theorem tyX1_ok : ∀ k, k < 7 → parseFieldDescriptor (TX1 k).2.2.1 = some (tyX1 k) := by decide +kernel
abbrev cX1_init : ByteArray := prog_3_method_1_code
def yX1_init : MethodName := ⟨RX1, "<init>", "(LTabledGoals$Program;[J[J)V"⟩
abbrev cX1_meet : ByteArray := prog_3_method_2_code
def yX1_meet : MethodName := ⟨RX1, "meet", "(III)V"⟩
abbrev cX1_end : ByteArray := prog_3_method_3_code
def yX1_end : MethodName := ⟨RX1, "end", "()V"⟩
abbrev cX1_follow : ByteArray := prog_3_method_4_code
def yX1_follow : MethodName := ⟨RX1, "follow", "(LTabledGoals$Program;[J)V"⟩
def RX2 : String := "TabledGoals$Model"
def TX2 : u_T := fun k => match k with
  | 0 => ("TabledGoals$Model", "known", "Z", false)
  | 1 => ("TabledGoals$Model", "stages", "I", false)
  | 2 => ("TabledGoals$Model", "truth", "[J", true)
  | 3 => ("TabledGoals$Model", "possible", "[J", true)
  | 4 => ("TabledGoals$Model", "stageOf", "[I", true)
  | 5 => ("TabledGoals$Model", "grown", "[J", true)
  | _ => ("TabledGoals$Model", "follower", "LTabledGoals$Follower;", true)
def tyX2 : Nat → FieldType := fun k => match k with
  | 0 => .boolean
  | 1 => .int
  | 2 => .array .long
  | 3 => .array .long
  | 4 => .array .int
  | 5 => .array .long
  | _ => .object "TabledGoals$Follower"
abbrev wsX20 : List Cond := u_ws RX2 TX2 7
theorem nmX2 : ∀ a, a < 7 → ∀ b, b < 7 → a ≠ b → (TX2 a).2.1 ≠ (TX2 b).2.1 := by decide +kernel
theorem tyX2_ok : ∀ k, k < 7 → parseFieldDescriptor (TX2 k).2.2.1 = some (tyX2 k) := by decide +kernel
abbrev cX2_init : ByteArray := prog_4_method_1_code
def yX2_init : MethodName := ⟨RX2, "<init>", "(LTabledGoals$Program;)V"⟩
abbrev cX2_settle : ByteArray := prog_4_method_2_code
def yX2_settle : MethodName := ⟨RX2, "settle", "(LTabledGoals$Program;)V"⟩
abbrev cX2_growPossible : ByteArray := prog_4_method_3_code
def yX2_growPossible : MethodName := ⟨RX2, "growPossible", "(LTabledGoals$Program;)V"⟩
abbrev cX2_growTruth : ByteArray := prog_4_method_4_code
def yX2_growTruth : MethodName := ⟨RX2, "growTruth", "(LTabledGoals$Program;)Z"⟩
abbrev cX2_noteStage : ByteArray := prog_4_method_5_code
def yX2_noteStage : MethodName := ⟨RX2, "noteStage", "(I)V"⟩
abbrev cX2_undefinedOf : ByteArray := prog_4_method_6_code
def yX2_undefinedOf : MethodName := ⟨RX2, "undefinedOf", "(I)J"⟩
abbrev cX2_worth : ByteArray := prog_4_method_7_code
def yX2_worth : MethodName := ⟨RX2, "worth", "(IJ)I"⟩
abbrev cX2_trueAtoms : ByteArray := prog_4_method_8_code
def yX2_trueAtoms : MethodName := ⟨RX2, "trueAtoms", "()I"⟩
abbrev cX2_undefinedAtoms : ByteArray := prog_4_method_9_code
def yX2_undefinedAtoms : MethodName := ⟨RX2, "undefinedAtoms", "()I"⟩
def RX3 : String := "TabledGoals$Program"
def TX3 : u_T := fun k => match k with
  | 0 => ("TabledGoals$Program", "predicates", "I", false)
  | 1 => ("TabledGoals$Program", "constants", "I", false)
  | 2 => ("TabledGoals$Program", "clauses", "I", false)
  | 3 => ("TabledGoals$Program", "terms", "[I", true)
  | 4 => ("TabledGoals$Program", "lengths", "[I", true)
  | 5 => ("TabledGoals$Program", "letters", "[I", true)
  | 6 => ("TabledGoals$Program", "sizes", "[I", true)
  | 7 => ("TabledGoals$Program", "needs", "[I", true)
  | _ => ("TabledGoals$Program", "parts", "[I", true)
def tyX3 : Nat → FieldType := fun k => match k with
  | 0 => .int
  | 1 => .int
  | 2 => .int
  | 3 => .array .int
  | 4 => .array .int
  | 5 => .array .int
  | 6 => .array .int
  | 7 => .array .int
  | _ => .array .int
abbrev wsX30 : List Cond := u_ws RX3 TX3 9
theorem nmX3 : ∀ a, a < 9 → ∀ b, b < 9 → a ≠ b → (TX3 a).2.1 ≠ (TX3 b).2.1 := by decide +kernel
theorem tyX3_ok : ∀ k, k < 9 → parseFieldDescriptor (TX3 k).2.2.1 = some (tyX3 k) := by decide +kernel
abbrev cX3_init : ByteArray := prog_5_method_1_code
def yX3_init : MethodName := ⟨RX3, "<init>", "()V"⟩
abbrev cX3_clear : ByteArray := prog_5_method_2_code
def yX3_clear : MethodName := ⟨RX3, "clear", "()V"⟩
abbrev cX3_part : ByteArray := prog_5_method_3_code
def yX3_part : MethodName := ⟨RX3, "part", "(III)I"⟩
abbrev cX3_putPart : ByteArray := prog_5_method_4_code
def yX3_putPart : MethodName := ⟨RX3, "putPart", "(IIII)V"⟩
abbrev cX3_putHead : ByteArray := prog_5_method_5_code
def yX3_putHead : MethodName := ⟨RX3, "putHead", "(II)V"⟩
abbrev cX3_putLiteral : ByteArray := prog_5_method_6_code
def yX3_putLiteral : MethodName := ⟨RX3, "putLiteral", "(IIII)V"⟩
abbrev cX3_putAtom : ByteArray := prog_5_method_7_code
def yX3_putAtom : MethodName := ⟨RX3, "putAtom", "(IIII)V"⟩
abbrev cX3_addFact : ByteArray := prog_5_method_8_code
def yX3_addFact : MethodName := ⟨RX3, "addFact", "(III)V"⟩
abbrev cX3_factAt : ByteArray := prog_5_method_9_code
def yX3_factAt : MethodName := ⟨RX3, "factAt", "(III)I"⟩
abbrev cX3_removeClause : ByteArray := prog_5_method_10_code
def yX3_removeClause : MethodName := ⟨RX3, "removeClause", "(I)V"⟩
abbrev cX3_facts : ByteArray := prog_5_method_11_code
def yX3_facts : MethodName := ⟨RX3, "facts", "()I"⟩
abbrev cX3_clausesOf : ByteArray := prog_5_method_12_code
def yX3_clausesOf : MethodName := ⟨RX3, "clausesOf", "(I)I"⟩
abbrev cX3_stratumOf : ByteArray := prog_5_method_13_code
def yX3_stratumOf : MethodName := ⟨RX3, "stratumOf", "(I)I"⟩
abbrev cX3_raiseHead : ByteArray := prog_5_method_14_code
def yX3_raiseHead : MethodName := ⟨RX3, "raiseHead", "(I[I)Z"⟩
abbrev cX3_nameNumber : ByteArray := prog_5_method_15_code
def yX3_nameNumber : MethodName := ⟨RX3, "nameNumber", "(II[III)I"⟩
abbrev cX3_putName : ByteArray := prog_5_method_16_code
def yX3_putName : MethodName := ⟨RX3, "putName", "(I[III)V"⟩
def RX4 : String := "TabledGoals$Reader"
def TX4 : u_T := fun k => match k with
  | 0 => ("TabledGoals$Reader", "fault", "I", false)
  | 1 => ("TabledGoals$Reader", "place", "I", false)
  | 2 => ("TabledGoals$Reader", "bytes", "[I", true)
  | 3 => ("TabledGoals$Reader", "end", "I", true)
  | 4 => ("TabledGoals$Reader", "into", "LTabledGoals$Program;", true)
  | 5 => ("TabledGoals$Reader", "at", "I", false)
  | 6 => ("TabledGoals$Reader", "variables", "[I", true)
  | 7 => ("TabledGoals$Reader", "variableCount", "I", false)
  | 8 => ("TabledGoals$Reader", "safe", "I", false)
  | _ => ("TabledGoals$Reader", "headPlaces", "[I", true)
def tyX4 : Nat → FieldType := fun k => match k with
  | 0 => .int
  | 1 => .int
  | 2 => .array .int
  | 3 => .int
  | 4 => .object "TabledGoals$Program"
  | 5 => .int
  | 6 => .array .int
  | 7 => .int
  | 8 => .int
  | _ => .array .int
abbrev wsX40 : List Cond := u_ws RX4 TX4 10
theorem nmX4 : ∀ a, a < 10 → ∀ b, b < 10 → a ≠ b → (TX4 a).2.1 ≠ (TX4 b).2.1 := by decide +kernel
theorem tyX4_ok : ∀ k, k < 10 → parseFieldDescriptor (TX4 k).2.2.1 = some (tyX4 k) := by decide +kernel
abbrev cX4_init : ByteArray := prog_6_method_1_code
def yX4_init : MethodName := ⟨RX4, "<init>", "([IILTabledGoals$Program;)V"⟩
abbrev cX4_readText : ByteArray := prog_6_method_2_code
def yX4_readText : MethodName := ⟨RX4, "readText", "()Z"⟩
abbrev cX4_fail : ByteArray := prog_6_method_3_code
def yX4_fail : MethodName := ⟨RX4, "fail", "(II)Z"⟩
abbrev cX4_next : ByteArray := prog_6_method_4_code
def yX4_next : MethodName := ⟨RX4, "next", "()I"⟩
abbrev cX4_smallNext : ByteArray := prog_6_method_5_code
def yX4_smallNext : MethodName := ⟨RX4, "smallNext", "()Z"⟩
abbrev cX4_readClause : ByteArray := prog_6_method_6_code
def yX4_readClause : MethodName := ⟨RX4, "readClause", "()Z"⟩
abbrev cX4_closeClause : ByteArray := prog_6_method_7_code
def yX4_closeClause : MethodName := ⟨RX4, "closeClause", "()Z"⟩
abbrev cX4_isSafe : ByteArray := prog_6_method_8_code
def yX4_isSafe : MethodName := ⟨RX4, "isSafe", "(I)Z"⟩
abbrev cX4_readBody : ByteArray := prog_6_method_9_code
def yX4_readBody : MethodName := ⟨RX4, "readBody", "()Z"⟩
abbrev cX4_wordLength : ByteArray := prog_6_method_10_code
def yX4_wordLength : MethodName := ⟨RX4, "wordLength", "()I"⟩
abbrev cX4_isNot : ByteArray := prog_6_method_11_code
def yX4_isNot : MethodName := ⟨RX4, "isNot", "(I)Z"⟩
abbrev cX4_readAtom : ByteArray := prog_6_method_12_code
def yX4_readAtom : MethodName := ⟨RX4, "readAtom", "(II)Z"⟩
abbrev cX4_readTerm : ByteArray := prog_6_method_13_code
def yX4_readTerm : MethodName := ⟨RX4, "readTerm", "(III)Z"⟩
abbrev cX4_readVariable : ByteArray := prog_6_method_14_code
def yX4_readVariable : MethodName := ⟨RX4, "readVariable", "(I)I"⟩
abbrev cX4_readName : ByteArray := prog_6_method_15_code
def yX4_readName : MethodName := ⟨RX4, "readName", "(Z)I"⟩
def RX5 : String := "TabledGoals$Table"
def TX5 : u_T := fun k => match k with
  | 0 => ("TabledGoals$Table", "number", "I", true)
  | 1 => ("TabledGoals$Table", "key", "I", false)
  | 2 => ("TabledGoals$Table", "fresh", "Z", false)
  | 3 => ("TabledGoals$Table", "truths", "J", false)
  | 4 => ("TabledGoals$Table", "undefineds", "J", false)
  | 5 => ("TabledGoals$Table", "callCount", "I", false)
  | 6 => ("TabledGoals$Table", "from", "I", false)
  | 7 => ("TabledGoals$Table", "hits", "I", false)
  | 8 => ("TabledGoals$Table", "made", "I", false)
  | 9 => ("TabledGoals$Table", "next", "I", false)
  | 10 => ("TabledGoals$Table", "order", "I", false)
  | 11 => ("TabledGoals$Table", "low", "I", false)
  | 12 => ("TabledGoals$Table", "open", "Z", false)
  | 13 => ("TabledGoals$Table", "below", "LTabledGoals$Table;", false)
  | 14 => ("TabledGoals$Table", "openBelow", "LTabledGoals$Table;", false)
  | 15 => ("TabledGoals$Table", "marked", "Z", false)
  | 16 => ("TabledGoals$Table", "reached", "Z", false)
  | _ => ("TabledGoals$Table", "called", "[I", false)
def tyX5 : Nat → FieldType := fun k => match k with
  | 0 => .int
  | 1 => .int
  | 2 => .boolean
  | 3 => .long
  | 4 => .long
  | 5 => .int
  | 6 => .int
  | 7 => .int
  | 8 => .int
  | 9 => .int
  | 10 => .int
  | 11 => .int
  | 12 => .boolean
  | 13 => .object "TabledGoals$Table"
  | 14 => .object "TabledGoals$Table"
  | 15 => .boolean
  | 16 => .boolean
  | _ => .array .int
abbrev wsX50 : List Cond := u_ws RX5 TX5 18
theorem nmX5 : ∀ a, a < 18 → ∀ b, b < 18 → a ≠ b → (TX5 a).2.1 ≠ (TX5 b).2.1 := by decide +kernel
theorem tyX5_ok : ∀ k, k < 18 → parseFieldDescriptor (TX5 k).2.2.1 = some (tyX5 k) := by decide +kernel
abbrev cX5_init : ByteArray := prog_7_method_1_code
def yX5_init : MethodName := ⟨RX5, "<init>", "(I)V"⟩
abbrev cX5_begin : ByteArray := prog_7_method_2_code
def yX5_begin : MethodName := ⟨RX5, "begin", "(II)V"⟩
abbrev cX5_make : ByteArray := prog_7_method_3_code
def yX5_make : MethodName := ⟨RX5, "make", "(LTabledGoals$Model;LTabledGoals$Caller;)V"⟩
abbrev cX5_calledKey : ByteArray := prog_7_method_4_code
def yX5_calledKey : MethodName := ⟨RX5, "calledKey", "(I)I"⟩
abbrev cX5_calledWays : ByteArray := prog_7_method_5_code
def yX5_calledWays : MethodName := ⟨RX5, "calledWays", "(I)I"⟩
abbrev cX5_answers : ByteArray := prog_7_method_6_code
def yX5_answers : MethodName := ⟨RX5, "answers", "()J"⟩
abbrev cX5_nodes : ByteArray := prog_7_method_7_code
def yX5_nodes : MethodName := ⟨RX5, "nodes", "()I"⟩
abbrev cX5_tell : ByteArray := prog_7_method_8_code
def yX5_tell : MethodName := ⟨RX5, "tell", "(I)I"⟩
def RX6 : String := "TabledGoals$Tables"
def TX6 : u_T := fun k => match k with
  | 0 => ("TabledGoals$Tables", "count", "I", false)
  | 1 => ("TabledGoals$Tables", "madeInAll", "I", false)
  | 2 => ("TabledGoals$Tables", "hitsInAll", "I", false)
  | 3 => ("TabledGoals$Tables", "completedCount", "I", false)
  | 4 => ("TabledGoals$Tables", "completedOnes", "[I", true)
  | 5 => ("TabledGoals$Tables", "numberOf", "[I", true)
  | 6 => ("TabledGoals$Tables", "all", "[LTabledGoals$Table;", true)
  | 7 => ("TabledGoals$Tables", "model", "LTabledGoals$Model;", true)
  | 8 => ("TabledGoals$Tables", "caller", "LTabledGoals$Caller;", true)
  | 9 => ("TabledGoals$Tables", "queue", "[I", true)
  | 10 => ("TabledGoals$Tables", "seen", "[Z", true)
  | 11 => ("TabledGoals$Tables", "orders", "I", false)
  | 12 => ("TabledGoals$Tables", "path", "LTabledGoals$Table;", false)
  | _ => ("TabledGoals$Tables", "opened", "LTabledGoals$Table;", false)
def tyX6 : Nat → FieldType := fun k => match k with
  | 0 => .int
  | 1 => .int
  | 2 => .int
  | 3 => .int
  | 4 => .array .int
  | 5 => .array .int
  | 6 => .array (.object "TabledGoals$Table")
  | 7 => .object "TabledGoals$Model"
  | 8 => .object "TabledGoals$Caller"
  | 9 => .array .int
  | 10 => .array .boolean
  | 11 => .int
  | 12 => .object "TabledGoals$Table"
  | _ => .object "TabledGoals$Table"
abbrev wsX60 : List Cond := u_ws RX6 TX6 14
theorem nmX6 : ∀ a, a < 14 → ∀ b, b < 14 → a ≠ b → (TX6 a).2.1 ≠ (TX6 b).2.1 := by decide +kernel
theorem tyX6_ok : ∀ k, k < 14 → parseFieldDescriptor (TX6 k).2.2.1 = some (tyX6 k) := by decide +kernel
abbrev cX6_init : ByteArray := prog_8_method_1_code
def yX6_init : MethodName := ⟨RX6, "<init>", "(LTabledGoals$Program;LTabledGoals$Model;)V"⟩
abbrev cX6_startAnew : ByteArray := prog_8_method_2_code
def yX6_startAnew : MethodName := ⟨RX6, "startAnew", "()V"⟩
abbrev cX6_clear : ByteArray := prog_8_method_3_code
def yX6_clear : MethodName := ⟨RX6, "clear", "()V"⟩
abbrev cX6_at : ByteArray := prog_8_method_4_code
def yX6_at : MethodName := ⟨RX6, "at", "(I)LTabledGoals$Table;"⟩
abbrev cX6_ofKey : ByteArray := prog_8_method_5_code
def yX6_ofKey : MethodName := ⟨RX6, "ofKey", "(I)LTabledGoals$Table;"⟩
abbrev cX6_askFor : ByteArray := prog_8_method_6_code
def yX6_askFor : MethodName := ⟨RX6, "askFor", "(ILTabledGoals$Program;)I"⟩
abbrev cX6_goInto : ByteArray := prog_8_method_7_code
def yX6_goInto : MethodName := ⟨RX6, "goInto", "(ILTabledGoals$Program;)V"⟩
abbrev cX6_hit : ByteArray := prog_8_method_8_code
def yX6_hit : MethodName := ⟨RX6, "hit", "(LTabledGoals$Table;)V"⟩
abbrev cX6_add : ByteArray := prog_8_method_9_code
def yX6_add : MethodName := ⟨RX6, "add", "(I)LTabledGoals$Table;"⟩
abbrev cX6_leave : ByteArray := prog_8_method_10_code
def yX6_leave : MethodName := ⟨RX6, "leave", "(LTabledGoals$Table;)V"⟩
abbrev cX6_complete : ByteArray := prog_8_method_11_code
def yX6_complete : MethodName := ⟨RX6, "complete", "(LTabledGoals$Table;)V"⟩
abbrev cX6_putCompleted : ByteArray := prog_8_method_12_code
def yX6_putCompleted : MethodName := ⟨RX6, "putCompleted", "(II)V"⟩
abbrev cX6_freshOnes : ByteArray := prog_8_method_13_code
def yX6_freshOnes : MethodName := ⟨RX6, "freshOnes", "()I"⟩
abbrev cX6_spoil : ByteArray := prog_8_method_14_code
def yX6_spoil : MethodName := ⟨RX6, "spoil", "(IJ)I"⟩
abbrev cX6_spreadBack : ByteArray := prog_8_method_15_code
def yX6_spreadBack : MethodName := ⟨RX6, "spreadBack", "()V"⟩
abbrev cX6_callsMarked : ByteArray := prog_8_method_16_code
def yX6_callsMarked : MethodName := ⟨RX6, "callsMarked", "(LTabledGoals$Table;)Z"⟩
abbrev cX6_leaderOf : ByteArray := prog_8_method_17_code
def yX6_leaderOf : MethodName := ⟨RX6, "leaderOf", "(I)I"⟩
abbrev cX6_spreadOn : ByteArray := prog_8_method_18_code
def yX6_spreadOn : MethodName := ⟨RX6, "spreadOn", "(I)V"⟩
abbrev cX6_callersOf : ByteArray := prog_8_method_19_code
def yX6_callersOf : MethodName := ⟨RX6, "callersOf", "(I)I"⟩
abbrev cX6_reachedFrom : ByteArray := prog_8_method_20_code
def yX6_reachedFrom : MethodName := ⟨RX6, "reachedFrom", "(ILTabledGoals$Program;)I"⟩
abbrev cX6_sum : ByteArray := prog_8_method_21_code
def yX6_sum : MethodName := ⟨RX6, "sum", "()J"⟩
def RX7 : String := "TabledGoals$Walk"
def TX7 : u_T := fun k => match k with
  | _ => ("", "", "", false)
def tyX7 : Nat → FieldType := fun k => match k with
  | _ => .int
abbrev wsX70 : List Cond := u_ws RX7 TX7 0
theorem nmX7 : ∀ a, a < 0 → ∀ b, b < 0 → a ≠ b → (TX7 a).2.1 ≠ (TX7 b).2.1 := by decide +kernel
theorem tyX7_ok : ∀ k, k < 0 → parseFieldDescriptor (TX7 k).2.2.1 = some (tyX7 k) := by decide +kernel
abbrev cX7_init : ByteArray := prog_9_method_1_code
def yX7_init : MethodName := ⟨RX7, "<init>", "(LTabledGoals$Program;[J[J)V"⟩
abbrev cX7_throughClause : ByteArray := prog_9_method_4_code
def yX7_throughClause : MethodName := ⟨RX7, "throughClause", "(I)V"⟩
abbrev cX7_throughClausesLike : ByteArray := prog_9_method_5_code
def yX7_throughClausesLike : MethodName := ⟨RX7, "throughClausesLike", "(LTabledGoals$Program;I)V"⟩
abbrev cX7_loosen : ByteArray := prog_9_method_6_code
def yX7_loosen : MethodName := ⟨RX7, "loosen", "()V"⟩
abbrev cX7_fit : ByteArray := prog_9_method_7_code
def yX7_fit : MethodName := ⟨RX7, "fit", "(II)Z"⟩
abbrev cX7_agree : ByteArray := prog_9_method_8_code
def yX7_agree : MethodName := ⟨RX7, "agree", "(II)Z"⟩
abbrev cX7_read : ByteArray := prog_9_method_9_code
def yX7_read : MethodName := ⟨RX7, "read", "(I)I"⟩
abbrev cX7_bind : ByteArray := prog_9_method_10_code
def yX7_bind : MethodName := ⟨RX7, "bind", "(II)V"⟩
abbrev cX7_body : ByteArray := prog_9_method_11_code
def yX7_body : MethodName := ⟨RX7, "body", "(I)V"⟩
def RX8 : String := "TabledGoals$Weigher"
def TX8 : u_T := fun k => match k with
  | 0 => ("TabledGoals$Walk", "program", "LTabledGoals$Program;", false)
  | 1 => ("TabledGoals$Walk", "plain", "[J", true)
  | 2 => ("TabledGoals$Walk", "barred", "[J", false)
  | 3 => ("TabledGoals$Walk", "clause", "I", false)
  | 4 => ("TabledGoals$Walk", "bound", "[I", true)
  | 5 => ("TabledGoals$Walk", "same", "[I", true)
  | 6 => ("TabledGoals$Weigher", "count", "I", false)
  | 7 => ("TabledGoals$Weigher", "foundClause", "I", false)
  | 8 => ("TabledGoals$Weigher", "delayedCount", "I", false)
  | 9 => ("TabledGoals$Weigher", "delayed", "[I", true)
  | 10 => ("TabledGoals$Weigher", "wanted", "I", false)
  | _ => ("TabledGoals$Weigher", "model", "LTabledGoals$Model;", true)
def tyX8 : Nat → FieldType := fun k => match k with
  | 0 => .object "TabledGoals$Program"
  | 1 => .array .long
  | 2 => .array .long
  | 3 => .int
  | 4 => .array .int
  | 5 => .array .int
  | 6 => .int
  | 7 => .int
  | 8 => .int
  | 9 => .array .int
  | 10 => .int
  | _ => .object "TabledGoals$Model"
abbrev wsX80 : List Cond := u_ws RX8 TX8 12
theorem nmX8 : ∀ a, a < 12 → ∀ b, b < 12 → a ≠ b → (TX8 a).2.1 ≠ (TX8 b).2.1 := by decide +kernel
theorem tyX8_ok : ∀ k, k < 12 → parseFieldDescriptor (TX8 k).2.2.1 = some (tyX8 k) := by decide +kernel
abbrev cX8_init : ByteArray := prog_10_method_1_code
def yX8_init : MethodName := ⟨RX8, "<init>", "(LTabledGoals$Program;LTabledGoals$Model;)V"⟩
abbrev cX8_weigh : ByteArray := prog_10_method_2_code
def yX8_weigh : MethodName := ⟨RX8, "weigh", "(LTabledGoals$Program;II)V"⟩
abbrev cX8_meet : ByteArray := prog_10_method_3_code
def yX8_meet : MethodName := ⟨RX8, "meet", "(III)V"⟩
abbrev cX8_end : ByteArray := prog_10_method_4_code
def yX8_end : MethodName := ⟨RX8, "end", "()V"⟩
def RX9 : String := "TabledGoals"
def TX9 : u_T := fun k => match k with
  | 0 => ("TabledGoals", "tape", "[I", true)
  | 1 => ("TabledGoals", "tapeBytes", "I", false)
  | 2 => ("TabledGoals", "faultPlace", "I", false)
  | 3 => ("TabledGoals", "refused", "[I", true)
  | 4 => ("TabledGoals", "program", "LTabledGoals$Program;", false)
  | 5 => ("TabledGoals", "spare", "LTabledGoals$Program;", false)
  | 6 => ("TabledGoals", "model", "LTabledGoals$Model;", true)
  | 7 => ("TabledGoals", "weigher", "LTabledGoals$Weigher;", true)
  | _ => ("TabledGoals", "tables", "LTabledGoals$Tables;", true)
def tyX9 : Nat → FieldType := fun k => match k with
  | 0 => .array .int
  | 1 => .int
  | 2 => .int
  | 3 => .array .int
  | 4 => .object "TabledGoals$Program"
  | 5 => .object "TabledGoals$Program"
  | 6 => .object "TabledGoals$Model"
  | 7 => .object "TabledGoals$Weigher"
  | _ => .object "TabledGoals$Tables"
abbrev wsX90 : List Cond := u_ws RX9 TX9 9
theorem nmX9 : ∀ a, a < 9 → ∀ b, b < 9 → a ≠ b → (TX9 a).2.1 ≠ (TX9 b).2.1 := by decide +kernel
theorem tyX9_ok : ∀ k, k < 9 → parseFieldDescriptor (TX9 k).2.2.1 = some (tyX9 k) := by decide +kernel
abbrev cX9_init : ByteArray := prog_1_method_1_code
def yX9_init : MethodName := ⟨RX9, "<init>", "()V"⟩
abbrev cX9_feed : ByteArray := prog_1_method_2_code
def yX9_feed : MethodName := ⟨RX9, "feed", "(IIIII)I"⟩
abbrev cX9_putBytes : ByteArray := prog_1_method_3_code
def yX9_putBytes : MethodName := ⟨RX9, "putBytes", "(I)V"⟩
abbrev cX9_text : ByteArray := prog_1_method_4_code
def yX9_text : MethodName := ⟨RX9, "text", "(I)I"⟩
abbrev cX9_fault : ByteArray := prog_1_method_5_code
def yX9_fault : MethodName := ⟨RX9, "fault", "()I"⟩
abbrev cX9_assume : ByteArray := prog_1_method_6_code
def yX9_assume : MethodName := ⟨RX9, "assume", "(III)I"⟩
abbrev cX9_retract : ByteArray := prog_1_method_7_code
def yX9_retract : MethodName := ⟨RX9, "retract", "(III)I"⟩
abbrev cX9_ask : ByteArray := prog_1_method_8_code
def yX9_ask : MethodName := ⟨RX9, "ask", "(III)I"⟩
abbrev cX9_abolish : ByteArray := prog_1_method_9_code
def yX9_abolish : MethodName := ⟨RX9, "abolish", "()I"⟩
abbrev cX9_told : ByteArray := prog_1_method_10_code
def yX9_told : MethodName := ⟨RX9, "told", "(I)I"⟩
abbrev cX9_predicate : ByteArray := prog_1_method_11_code
def yX9_predicate : MethodName := ⟨RX9, "predicate", "(II)I"⟩
abbrev cX9_nameAt : ByteArray := prog_1_method_12_code
def yX9_nameAt : MethodName := ⟨RX9, "nameAt", "(III)I"⟩
abbrev cX9_clause : ByteArray := prog_1_method_13_code
def yX9_clause : MethodName := ⟨RX9, "clause", "(III)I"⟩
abbrev cX9_literals : ByteArray := prog_1_method_14_code
def yX9_literals : MethodName := ⟨RX9, "literals", "(I)I"⟩
abbrev cX9_value : ByteArray := prog_1_method_15_code
def yX9_value : MethodName := ⟨RX9, "value", "(III)I"⟩
abbrev cX9_stage : ByteArray := prog_1_method_16_code
def yX9_stage : MethodName := ⟨RX9, "stage", "(III)I"⟩
abbrev cX9_find : ByteArray := prog_1_method_17_code
def yX9_find : MethodName := ⟨RX9, "find", "(III)I"⟩
abbrev cX9_table : ByteArray := prog_1_method_18_code
def yX9_table : MethodName := ⟨RX9, "table", "(II)I"⟩
abbrev cX9_calls : ByteArray := prog_1_method_19_code
def yX9_calls : MethodName := ⟨RX9, "calls", "(III)I"⟩
abbrev cX9_answer : ByteArray := prog_1_method_20_code
def yX9_answer : MethodName := ⟨RX9, "answer", "(III)I"⟩
abbrev cX9_completed : ByteArray := prog_1_method_21_code
def yX9_completed : MethodName := ⟨RX9, "completed", "(I)I"⟩
abbrev cX9_condition : ByteArray := prog_1_method_22_code
def yX9_condition : MethodName := ⟨RX9, "condition", "(IIIII)I"⟩
abbrev cX9_reach : ByteArray := prog_1_method_23_code
def yX9_reach : MethodName := ⟨RX9, "reach", "(III)I"⟩
abbrev cX9_print : ByteArray := prog_1_method_24_code
def yX9_print : MethodName := ⟨RX9, "print", "()J"⟩
abbrev cX9_status : ByteArray := prog_1_method_25_code
def yX9_status : MethodName := ⟨RX9, "status", "(I)I"⟩
abbrev cX9_refuseMissing : ByteArray := prog_1_method_26_code
def yX9_refuseMissing : MethodName := ⟨RX9, "refuseMissing", "()V"⟩
abbrev cX9_refuseArgument : ByteArray := prog_1_method_27_code
def yX9_refuseArgument : MethodName := ⟨RX9, "refuseArgument", "()V"⟩
abbrev cX9_refuseState : ByteArray := prog_1_method_28_code
def yX9_refuseState : MethodName := ⟨RX9, "refuseState", "()V"⟩
abbrev cX9_needIndex : ByteArray := prog_1_method_29_code
def yX9_needIndex : MethodName := ⟨RX9, "needIndex", "(II)V"⟩
abbrev cX9_needWhat : ByteArray := prog_1_method_30_code
def yX9_needWhat : MethodName := ⟨RX9, "needWhat", "(II)V"⟩
abbrev cX9_needPredicate : ByteArray := prog_1_method_31_code
def yX9_needPredicate : MethodName := ⟨RX9, "needPredicate", "(I)V"⟩
abbrev cX9_needConstant : ByteArray := prog_1_method_32_code
def yX9_needConstant : MethodName := ⟨RX9, "needConstant", "(I)V"⟩
abbrev cX9_needAtom : ByteArray := prog_1_method_33_code
def yX9_needAtom : MethodName := ⟨RX9, "needAtom", "(III)V"⟩
abbrev cX9_needGoal : ByteArray := prog_1_method_34_code
def yX9_needGoal : MethodName := ⟨RX9, "needGoal", "(III)V"⟩
abbrev cX9_needNoMoreTerms : ByteArray := prog_1_method_35_code
def yX9_needNoMoreTerms : MethodName := ⟨RX9, "needNoMoreTerms", "(III)V"⟩
abbrev cX9_likes : ByteArray := prog_1_method_36_code
def yX9_likes : MethodName := ⟨RX9, "likes", "(II)J"⟩
abbrev cX9_keyOf : ByteArray := prog_1_method_37_code
def yX9_keyOf : MethodName := ⟨RX9, "keyOf", "(III)I"⟩
abbrev cX9_keyPredicate : ByteArray := prog_1_method_38_code
def yX9_keyPredicate : MethodName := ⟨RX9, "keyPredicate", "(I)I"⟩
abbrev cX9_keyOne : ByteArray := prog_1_method_39_code
def yX9_keyOne : MethodName := ⟨RX9, "keyOne", "(I)I"⟩
abbrev cX9_keyTwo : ByteArray := prog_1_method_40_code
def yX9_keyTwo : MethodName := ⟨RX9, "keyTwo", "(I)I"⟩
abbrev cX9_placeOfBit : ByteArray := prog_1_method_41_code
def yX9_placeOfBit : MethodName := ⟨RX9, "placeOfBit", "(JI)I"⟩
abbrev cX9_lowestBit : ByteArray := prog_1_method_42_code
def yX9_lowestBit : MethodName := ⟨RX9, "lowestBit", "(J)I"⟩
def RX10 : String := "TabledGoalsModel"
def TX10 : u_T := fun k => match k with
  | 0 => ("TabledGoalsModel", "thrown", "I", false)
  | 1 => ("TabledGoalsModel", "refused", "[I", true)
  | 2 => ("TabledGoalsModel", "predicates", "I", false)
  | 3 => ("TabledGoalsModel", "constants", "I", false)
  | 4 => ("TabledGoalsModel", "clauses", "I", false)
  | 5 => ("TabledGoalsModel", "arity", "[I", true)
  | 6 => ("TabledGoalsModel", "rule", "[I", true)
  | 7 => ("TabledGoalsModel", "predicateName", "[J", true)
  | 8 => ("TabledGoalsModel", "constantName", "[J", true)
  | 9 => ("TabledGoalsModel", "is", "[I", true)
  | 10 => ("TabledGoalsModel", "known", "[Z", true)
  | 11 => ("TabledGoalsModel", "possible", "[Z", true)
  | 12 => ("TabledGoalsModel", "next", "[Z", true)
  | 13 => ("TabledGoalsModel", "trueAt", "[I", true)
  | 14 => ("TabledGoalsModel", "falseAt", "[I", true)
  | 15 => ("TabledGoalsModel", "stages", "I", false)
  | 16 => ("TabledGoalsModel", "isMade", "Z", false)
  | 17 => ("TabledGoalsModel", "stratum", "[I", true)
  | 18 => ("TabledGoalsModel", "tape", "[B", true)
  | 19 => ("TabledGoalsModel", "text", "[B", true)
  | 20 => ("TabledGoalsModel", "taped", "I", false)
  | 21 => ("TabledGoalsModel", "size", "I", false)
  | 22 => ("TabledGoalsModel", "here", "I", false)
  | 23 => ("TabledGoalsModel", "begin", "I", false)
  | 24 => ("TabledGoalsModel", "fault", "I", false)
  | 25 => ("TabledGoalsModel", "faultNow", "I", false)
  | 26 => ("TabledGoalsModel", "faultAt", "I", false)
  | 27 => ("TabledGoalsModel", "word", "J", false)
  | 28 => ("TabledGoalsModel", "letters", "I", false)
  | 29 => ("TabledGoalsModel", "readPredicates", "I", false)
  | 30 => ("TabledGoalsModel", "readConstants", "I", false)
  | 31 => ("TabledGoalsModel", "readClauses", "I", false)
  | 32 => ("TabledGoalsModel", "names", "I", false)
  | 33 => ("TabledGoalsModel", "readArity", "[I", true)
  | 34 => ("TabledGoalsModel", "readRule", "[I", true)
  | 35 => ("TabledGoalsModel", "readPredicate", "[J", true)
  | 36 => ("TabledGoalsModel", "readConstant", "[J", true)
  | 37 => ("TabledGoalsModel", "name", "[I", true)
  | 38 => ("TabledGoalsModel", "isBound", "[Z", true)
  | 39 => ("TabledGoalsModel", "placeOf", "[I", true)
  | 40 => ("TabledGoalsModel", "called", "[I", true)
  | 41 => ("TabledGoalsModel", "how", "[I", true)
  | 42 => ("TabledGoalsModel", "way", "[I", true)
  | 43 => ("TabledGoalsModel", "calledMany", "I", false)
  | 44 => ("TabledGoalsModel", "bound", "[I", true)
  | 45 => ("TabledGoalsModel", "alike", "[I", true)
  | 46 => ("TabledGoalsModel", "tables", "I", false)
  | 47 => ("TabledGoalsModel", "made", "I", false)
  | 48 => ("TabledGoalsModel", "hits", "I", false)
  | 49 => ("TabledGoalsModel", "goalOf", "[I", true)
  | 50 => ("TabledGoalsModel", "tableOf", "[I", true)
  | 51 => ("TabledGoalsModel", "went", "[I", true)
  | 52 => ("TabledGoalsModel", "hitsOf", "[I", true)
  | 53 => ("TabledGoalsModel", "madeOf", "[I", true)
  | 54 => ("TabledGoalsModel", "isFresh", "[Z", true)
  | 55 => ("TabledGoalsModel", "callRow", "[S", true)
  | 56 => ("TabledGoalsModel", "callHow", "[B", true)
  | 57 => ("TabledGoalsModel", "callMany", "[I", true)
  | 58 => ("TabledGoalsModel", "answers", "[B", true)
  | 59 => ("TabledGoalsModel", "open", "[I", true)
  | 60 => ("TabledGoalsModel", "done", "[I", true)
  | 61 => ("TabledGoalsModel", "left", "[I", true)
  | 62 => ("TabledGoalsModel", "leftAt", "[I", true)
  | 63 => ("TabledGoalsModel", "finished", "[I", true)
  | 64 => ("TabledGoalsModel", "opened", "I", false)
  | 65 => ("TabledGoalsModel", "leftMany", "I", false)
  | 66 => ("TabledGoalsModel", "completedMany", "I", false)
  | 67 => ("TabledGoalsModel", "comeTo", "[Z", true)
  | 68 => ("TabledGoalsModel", "row", "[I", true)
  | 69 => ("TabledGoalsModel", "leader", "[I", true)
  | 70 => ("TabledGoalsModel", "hither", "[Z", true)
  | 71 => ("TabledGoalsModel", "conditions", "I", false)
  | 72 => ("TabledGoalsModel", "delayed", "I", false)
  | 73 => ("TabledGoalsModel", "conditionClause", "I", false)
  | 74 => ("TabledGoalsModel", "delays", "[I", true)
  | 75 => ("TabledGoalsModel", "reached", "[I", true)
  | _ => ("TabledGoalsModel", "isReached", "[Z", true)
def tyX10 : Nat → FieldType := fun k => match k with
  | 0 => .int
  | 1 => .array .int
  | 2 => .int
  | 3 => .int
  | 4 => .int
  | 5 => .array .int
  | 6 => .array .int
  | 7 => .array .long
  | 8 => .array .long
  | 9 => .array .int
  | 10 => .array .boolean
  | 11 => .array .boolean
  | 12 => .array .boolean
  | 13 => .array .int
  | 14 => .array .int
  | 15 => .int
  | 16 => .boolean
  | 17 => .array .int
  | 18 => .array .byte
  | 19 => .array .byte
  | 20 => .int
  | 21 => .int
  | 22 => .int
  | 23 => .int
  | 24 => .int
  | 25 => .int
  | 26 => .int
  | 27 => .long
  | 28 => .int
  | 29 => .int
  | 30 => .int
  | 31 => .int
  | 32 => .int
  | 33 => .array .int
  | 34 => .array .int
  | 35 => .array .long
  | 36 => .array .long
  | 37 => .array .int
  | 38 => .array .boolean
  | 39 => .array .int
  | 40 => .array .int
  | 41 => .array .int
  | 42 => .array .int
  | 43 => .int
  | 44 => .array .int
  | 45 => .array .int
  | 46 => .int
  | 47 => .int
  | 48 => .int
  | 49 => .array .int
  | 50 => .array .int
  | 51 => .array .int
  | 52 => .array .int
  | 53 => .array .int
  | 54 => .array .boolean
  | 55 => .array .short
  | 56 => .array .byte
  | 57 => .array .int
  | 58 => .array .byte
  | 59 => .array .int
  | 60 => .array .int
  | 61 => .array .int
  | 62 => .array .int
  | 63 => .array .int
  | 64 => .int
  | 65 => .int
  | 66 => .int
  | 67 => .array .boolean
  | 68 => .array .int
  | 69 => .array .int
  | 70 => .array .boolean
  | 71 => .int
  | 72 => .int
  | 73 => .int
  | 74 => .array .int
  | 75 => .array .int
  | _ => .array .boolean
abbrev wsX100 : List Cond := u_ws RX10 TX10 77
theorem nmX10 : ∀ a, a < 77 → ∀ b, b < 77 → a ≠ b → (TX10 a).2.1 ≠ (TX10 b).2.1 := by decide +kernel
theorem tyX10_ok : ∀ k, k < 77 → parseFieldDescriptor (TX10 k).2.2.1 = some (tyX10 k) := by decide +kernel
abbrev cX10_init : ByteArray := prog_12_method_1_code
def yX10_init : MethodName := ⟨RX10, "<init>", "()V"⟩
abbrev cX10_thrown : ByteArray := prog_12_method_2_code
def yX10_thrown : MethodName := ⟨RX10, "thrown", "()I"⟩
abbrev cX10_isFine : ByteArray := prog_12_method_3_code
def yX10_isFine : MethodName := ⟨RX10, "isFine", "(ZII)Z"⟩
abbrev cX10_within : ByteArray := prog_12_method_4_code
def yX10_within : MethodName := ⟨RX10, "within", "(III)Z"⟩
abbrev cX10_part : ByteArray := prog_12_method_5_code
def yX10_part : MethodName := ⟨RX10, "part", "(III)I"⟩
abbrev cX10_literalsOf : ByteArray := prog_12_method_6_code
def yX10_literalsOf : MethodName := ⟨RX10, "literalsOf", "(I)I"⟩
abbrev cX10_variablesOf : ByteArray := prog_12_method_7_code
def yX10_variablesOf : MethodName := ⟨RX10, "variablesOf", "(I)I"⟩
abbrev cX10_atomAt : ByteArray := prog_12_method_8_code
def yX10_atomAt : MethodName := ⟨RX10, "atomAt", "(III)I"⟩
abbrev cX10_term : ByteArray := prog_12_method_9_code
def yX10_term : MethodName := ⟨RX10, "term", "(I)I"⟩
abbrev cX10_atomOf : ByteArray := prog_12_method_10_code
def yX10_atomOf : MethodName := ⟨RX10, "atomOf", "(II)I"⟩
abbrev cX10_firstInstance : ByteArray := prog_12_method_11_code
def yX10_firstInstance : MethodName := ⟨RX10, "firstInstance", "(I)Z"⟩
abbrev cX10_nextInstance : ByteArray := prog_12_method_12_code
def yX10_nextInstance : MethodName := ⟨RX10, "nextInstance", "(I)Z"⟩
abbrev cX10_holds : ByteArray := prog_12_method_13_code
def yX10_holds : MethodName := ⟨RX10, "holds", "(I[Z[Z)Z"⟩
abbrev cX10_follows : ByteArray := prog_12_method_14_code
def yX10_follows : MethodName := ⟨RX10, "follows", "([Z[Z)V"⟩
abbrev cX10_marks : ByteArray := prog_12_method_15_code
def yX10_marks : MethodName := ⟨RX10, "marks", "(I)V"⟩
abbrev cX10_makes : ByteArray := prog_12_method_16_code
def yX10_makes : MethodName := ⟨RX10, "makes", "()V"⟩
abbrev cX10_valueAt : ByteArray := prog_12_method_17_code
def yX10_valueAt : MethodName := ⟨RX10, "valueAt", "(I)I"⟩
abbrev cX10_valueOf : ByteArray := prog_12_method_18_code
def yX10_valueOf : MethodName := ⟨RX10, "valueOf", "(II)I"⟩
abbrev cX10_layers : ByteArray := prog_12_method_19_code
def yX10_layers : MethodName := ⟨RX10, "layers", "()V"⟩
abbrev cX10_feed : ByteArray := prog_12_method_20_code
def yX10_feed : MethodName := ⟨RX10, "feed", "(IIIII)I"⟩
abbrev cX10_puts : ByteArray := prog_12_method_21_code
def yX10_puts : MethodName := ⟨RX10, "puts", "(I)V"⟩
abbrev cX10_wrong : ByteArray := prog_12_method_22_code
def yX10_wrong : MethodName := ⟨RX10, "wrong", "(II)V"⟩
abbrev cX10_sign : ByteArray := prog_12_method_23_code
def yX10_sign : MethodName := ⟨RX10, "sign", "()I"⟩
abbrev cX10_isSmall : ByteArray := prog_12_method_24_code
def yX10_isSmall : MethodName := ⟨RX10, "isSmall", "(I)Z"⟩
abbrev cX10_isGreat : ByteArray := prog_12_method_25_code
def yX10_isGreat : MethodName := ⟨RX10, "isGreat", "(I)Z"⟩
abbrev cX10_at : ByteArray := prog_12_method_26_code
def yX10_at : MethodName := ⟨RX10, "at", "(I)I"⟩
abbrev cX10_reads : ByteArray := prog_12_method_27_code
def yX10_reads : MethodName := ⟨RX10, "reads", "()V"⟩
abbrev cX10_isNot : ByteArray := prog_12_method_28_code
def yX10_isNot : MethodName := ⟨RX10, "isNot", "()Z"⟩
abbrev cX10_named : ByteArray := prog_12_method_29_code
def yX10_named : MethodName := ⟨RX10, "named", "()V"⟩
abbrev cX10_passes : ByteArray := prog_12_method_30_code
def yX10_passes : MethodName := ⟨RX10, "passes", "(I)Z"⟩
abbrev cX10_needs : ByteArray := prog_12_method_31_code
def yX10_needs : MethodName := ⟨RX10, "needs", "(I)V"⟩
abbrev cX10_constant : ByteArray := prog_12_method_32_code
def yX10_constant : MethodName := ⟨RX10, "constant", "()I"⟩
abbrev cX10_variable : ByteArray := prog_12_method_33_code
def yX10_variable : MethodName := ⟨RX10, "variable", "()I"⟩
abbrev cX10_termRead : ByteArray := prog_12_method_34_code
def yX10_termRead : MethodName := ⟨RX10, "termRead", "(Z)I"⟩
abbrev cX10_predicateRead : ByteArray := prog_12_method_35_code
def yX10_predicateRead : MethodName := ⟨RX10, "predicateRead", "()I"⟩
abbrev cX10_atomRead : ByteArray := prog_12_method_36_code
def yX10_atomRead : MethodName := ⟨RX10, "atomRead", "(IZZ)V"⟩
abbrev cX10_literalRead : ByteArray := prog_12_method_37_code
def yX10_literalRead : MethodName := ⟨RX10, "literalRead", "(I)V"⟩
abbrev cX10_clauseRead : ByteArray := prog_12_method_38_code
def yX10_clauseRead : MethodName := ⟨RX10, "clauseRead", "()V"⟩
abbrev cX10_text : ByteArray := prog_12_method_39_code
def yX10_text : MethodName := ⟨RX10, "text", "(I)I"⟩
abbrev cX10_stands : ByteArray := prog_12_method_40_code
def yX10_stands : MethodName := ⟨RX10, "stands", "()V"⟩
abbrev cX10_fault : ByteArray := prog_12_method_41_code
def yX10_fault : MethodName := ⟨RX10, "fault", "()I"⟩
abbrev cX10_goalAt : ByteArray := prog_12_method_42_code
def yX10_goalAt : MethodName := ⟨RX10, "goalAt", "(III)I"⟩
abbrev cX10_predicateOf : ByteArray := prog_12_method_43_code
def yX10_predicateOf : MethodName := ⟨RX10, "predicateOf", "(I)I"⟩
abbrev cX10_termOf : ByteArray := prog_12_method_44_code
def yX10_termOf : MethodName := ⟨RX10, "termOf", "(II)I"⟩
abbrev cX10_variant : ByteArray := prog_12_method_45_code
def yX10_variant : MethodName := ⟨RX10, "variant", "(III)I"⟩
abbrev cX10_isLike : ByteArray := prog_12_method_46_code
def yX10_isLike : MethodName := ⟨RX10, "isLike", "(III)Z"⟩
abbrev cX10_comes : ByteArray := prog_12_method_47_code
def yX10_comes : MethodName := ⟨RX10, "comes", "(IZ)V"⟩
abbrev cX10_root : ByteArray := prog_12_method_48_code
def yX10_root : MethodName := ⟨RX10, "root", "(I)I"⟩
abbrev cX10_joins : ByteArray := prog_12_method_49_code
def yX10_joins : MethodName := ⟨RX10, "joins", "(II)Z"⟩
abbrev cX10_becomes : ByteArray := prog_12_method_50_code
def yX10_becomes : MethodName := ⟨RX10, "becomes", "(II)Z"⟩
abbrev cX10_meets : ByteArray := prog_12_method_51_code
def yX10_meets : MethodName := ⟨RX10, "meets", "(II)Z"⟩
abbrev cX10_now : ByteArray := prog_12_method_52_code
def yX10_now : MethodName := ⟨RX10, "now", "(I)I"⟩
abbrev cX10_goesOn : ByteArray := prog_12_method_53_code
def yX10_goesOn : MethodName := ⟨RX10, "goesOn", "(II)V"⟩
abbrev cX10_laysCalls : ByteArray := prog_12_method_54_code
def yX10_laysCalls : MethodName := ⟨RX10, "laysCalls", "(I)V"⟩
abbrev cX10_tableFor : ByteArray := prog_12_method_55_code
def yX10_tableFor : MethodName := ⟨RX10, "tableFor", "(I)I"⟩
abbrev cX10_noTables : ByteArray := prog_12_method_56_code
def yX10_noTables : MethodName := ⟨RX10, "noTables", "()V"⟩
abbrev cX10_tableMade : ByteArray := prog_12_method_57_code
def yX10_tableMade : MethodName := ⟨RX10, "tableMade", "(II)I"⟩
abbrev cX10_isAtom : ByteArray := prog_12_method_58_code
def yX10_isAtom : MethodName := ⟨RX10, "isAtom", "(III)Z"⟩
abbrev cX10_callAt : ByteArray := prog_12_method_59_code
def yX10_callAt : MethodName := ⟨RX10, "callAt", "(II)I"⟩
abbrev cX10_goesInto : ByteArray := prog_12_method_60_code
def yX10_goesInto : MethodName := ⟨RX10, "goesInto", "(II)V"⟩
abbrev cX10_goesThrough : ByteArray := prog_12_method_61_code
def yX10_goesThrough : MethodName := ⟨RX10, "goesThrough", "()V"⟩
abbrev cX10_spreads : ByteArray := prog_12_method_62_code
def yX10_spreads : MethodName := ⟨RX10, "spreads", "(I)V"⟩
abbrev cX10_leads : ByteArray := prog_12_method_63_code
def yX10_leads : MethodName := ⟨RX10, "leads", "()V"⟩
abbrev cX10_completes : ByteArray := prog_12_method_64_code
def yX10_completes : MethodName := ⟨RX10, "completes", "()V"⟩
abbrev cX10_wasLeft : ByteArray := prog_12_method_65_code
def yX10_wasLeft : MethodName := ⟨RX10, "wasLeft", "(I)Z"⟩
abbrev cX10_isConstant : ByteArray := prog_12_method_66_code
def yX10_isConstant : MethodName := ⟨RX10, "isConstant", "(I)Z"⟩
abbrev cX10_isTerm : ByteArray := prog_12_method_67_code
def yX10_isTerm : MethodName := ⟨RX10, "isTerm", "(IIIZ)Z"⟩
abbrev cX10_isGiven : ByteArray := prog_12_method_68_code
def yX10_isGiven : MethodName := ⟨RX10, "isGiven", "(IIIZI)Z"⟩
abbrev cX10_factAt : ByteArray := prog_12_method_69_code
def yX10_factAt : MethodName := ⟨RX10, "factAt", "(III)I"⟩
abbrev cX10_stales : ByteArray := prog_12_method_70_code
def yX10_stales : MethodName := ⟨RX10, "stales", "(III)I"⟩
abbrev cX10_callsStale : ByteArray := prog_12_method_71_code
def yX10_callsStale : MethodName := ⟨RX10, "callsStale", "(I)Z"⟩
abbrev cX10_assume : ByteArray := prog_12_method_72_code
def yX10_assume : MethodName := ⟨RX10, "assume", "(III)I"⟩
abbrev cX10_retract : ByteArray := prog_12_method_73_code
def yX10_retract : MethodName := ⟨RX10, "retract", "(III)I"⟩
abbrev cX10_ask : ByteArray := prog_12_method_74_code
def yX10_ask : MethodName := ⟨RX10, "ask", "(III)I"⟩
abbrev cX10_abolish : ByteArray := prog_12_method_75_code
def yX10_abolish : MethodName := ⟨RX10, "abolish", "()I"⟩
abbrev cX10_factMany : ByteArray := prog_12_method_76_code
def yX10_factMany : MethodName := ⟨RX10, "factMany", "()I"⟩
abbrev cX10_freshMany : ByteArray := prog_12_method_77_code
def yX10_freshMany : MethodName := ⟨RX10, "freshMany", "()I"⟩
abbrev cX10_atomsOf : ByteArray := prog_12_method_78_code
def yX10_atomsOf : MethodName := ⟨RX10, "atomsOf", "(II)I"⟩
abbrev cX10_allAtoms : ByteArray := prog_12_method_79_code
def yX10_allAtoms : MethodName := ⟨RX10, "allAtoms", "(I)I"⟩
abbrev cX10_told : ByteArray := prog_12_method_80_code
def yX10_told : MethodName := ⟨RX10, "told", "(I)I"⟩
abbrev cX10_lettersOf : ByteArray := prog_12_method_81_code
def yX10_lettersOf : MethodName := ⟨RX10, "lettersOf", "(J)I"⟩
abbrev cX10_headMany : ByteArray := prog_12_method_82_code
def yX10_headMany : MethodName := ⟨RX10, "headMany", "(I)I"⟩
abbrev cX10_predicate : ByteArray := prog_12_method_83_code
def yX10_predicate : MethodName := ⟨RX10, "predicate", "(II)I"⟩
abbrev cX10_nameAt : ByteArray := prog_12_method_84_code
def yX10_nameAt : MethodName := ⟨RX10, "nameAt", "(III)I"⟩
abbrev cX10_clause : ByteArray := prog_12_method_85_code
def yX10_clause : MethodName := ⟨RX10, "clause", "(III)I"⟩
abbrev cX10_literals : ByteArray := prog_12_method_86_code
def yX10_literals : MethodName := ⟨RX10, "literals", "(I)I"⟩
abbrev cX10_value : ByteArray := prog_12_method_87_code
def yX10_value : MethodName := ⟨RX10, "value", "(III)I"⟩
abbrev cX10_stage : ByteArray := prog_12_method_88_code
def yX10_stage : MethodName := ⟨RX10, "stage", "(III)I"⟩
abbrev cX10_find : ByteArray := prog_12_method_89_code
def yX10_find : MethodName := ⟨RX10, "find", "(III)I"⟩
abbrev cX10_isTable : ByteArray := prog_12_method_90_code
def yX10_isTable : MethodName := ⟨RX10, "isTable", "(I)Z"⟩
abbrev cX10_answersOf : ByteArray := prog_12_method_91_code
def yX10_answersOf : MethodName := ⟨RX10, "answersOf", "(II)I"⟩
abbrev cX10_nodes : ByteArray := prog_12_method_92_code
def yX10_nodes : MethodName := ⟨RX10, "nodes", "(I)I"⟩
abbrev cX10_callers : ByteArray := prog_12_method_93_code
def yX10_callers : MethodName := ⟨RX10, "callers", "(I)I"⟩
abbrev cX10_leaderOf : ByteArray := prog_12_method_94_code
def yX10_leaderOf : MethodName := ⟨RX10, "leaderOf", "(I)I"⟩
abbrev cX10_table : ByteArray := prog_12_method_95_code
def yX10_table : MethodName := ⟨RX10, "table", "(II)I"⟩
abbrev cX10_calls : ByteArray := prog_12_method_96_code
def yX10_calls : MethodName := ⟨RX10, "calls", "(III)I"⟩
abbrev cX10_answer : ByteArray := prog_12_method_97_code
def yX10_answer : MethodName := ⟨RX10, "answer", "(III)I"⟩
abbrev cX10_completed : ByteArray := prog_12_method_98_code
def yX10_completed : MethodName := ⟨RX10, "completed", "(I)I"⟩
abbrev cX10_isCondition : ByteArray := prog_12_method_99_code
def yX10_isCondition : MethodName := ⟨RX10, "isCondition", "(I)Z"⟩
abbrev cX10_seeks : ByteArray := prog_12_method_100_code
def yX10_seeks : MethodName := ⟨RX10, "seeks", "(II)V"⟩
abbrev cX10_lays : ByteArray := prog_12_method_101_code
def yX10_lays : MethodName := ⟨RX10, "lays", "(I)V"⟩
abbrev cX10_condition : ByteArray := prog_12_method_102_code
def yX10_condition : MethodName := ⟨RX10, "condition", "(IIIII)I"⟩
abbrev cX10_reach : ByteArray := prog_12_method_103_code
def yX10_reach : MethodName := ⟨RX10, "reach", "(III)I"⟩
abbrev cX10_print : ByteArray := prog_12_method_104_code
def yX10_print : MethodName := ⟨RX10, "print", "()J"⟩
abbrev cX10_status : ByteArray := prog_12_method_105_code
def yX10_status : MethodName := ⟨RX10, "status", "(I)I"⟩
def RJx145de : String := "java/io/Serializable"
def RJ13 : String := "java/lang/Long"
abbrev cJ13_bitCount_95d88 : ByteArray := prog_17_method_50_code
def yJ13_bitCount_95d88 : MethodName := ⟨RJ13, "bitCount", "(J)I"⟩
def RJ9 : String := "java/lang/Math"
abbrev cJ9_max_7cf53 : ByteArray := prog_18_method_65_code
def yJ9_max_7cf53 : MethodName := ⟨RJ9, "max", "(II)I"⟩
abbrev cJ9_min_7cf53 : ByteArray := prog_18_method_69_code
def yJ9_min_7cf53 : MethodName := ⟨RJ9, "min", "(II)I"⟩
def RJ0 : String := "java/lang/String"
def RJ10 : String := "java/lang/System"
def RJ7 : String := "java/util/Arrays"
abbrev cJ7_fill_d0a16 : ByteArray := prog_23_method_101_code
def yJ7_fill_d0a16 : MethodName := ⟨RJ7, "fill", "([JJ)V"⟩
abbrev cJ7_fill_53178 : ByteArray := prog_23_method_103_code
def yJ7_fill_53178 : MethodName := ⟨RJ7, "fill", "([II)V"⟩
def RL : String := "TabledGoalsLaw"
abbrev cL_text : ByteArray := method_3_code
def yL_text : MethodName := ⟨RL, "text", "(LTabledGoals;I[J)I"⟩
abbrev cL_assume : ByteArray := method_4_code
def yL_assume : MethodName := ⟨RL, "assume", "(LTabledGoals;III[J)I"⟩
abbrev cL_retract : ByteArray := method_5_code
def yL_retract : MethodName := ⟨RL, "retract", "(LTabledGoals;III[J)I"⟩
abbrev cL_ask : ByteArray := method_6_code
def yL_ask : MethodName := ⟨RL, "ask", "(LTabledGoals;III[J)I"⟩
abbrev cL_told : ByteArray := method_7_code
def yL_told : MethodName := ⟨RL, "told", "(LTabledGoals;I[J)I"⟩
abbrev cL_predicate : ByteArray := method_8_code
def yL_predicate : MethodName := ⟨RL, "predicate", "(LTabledGoals;II[J)I"⟩
abbrev cL_nameAt : ByteArray := method_9_code
def yL_nameAt : MethodName := ⟨RL, "nameAt", "(LTabledGoals;III[J)I"⟩
abbrev cL_clause : ByteArray := method_10_code
def yL_clause : MethodName := ⟨RL, "clause", "(LTabledGoals;III[J)I"⟩
abbrev cL_literals : ByteArray := method_11_code
def yL_literals : MethodName := ⟨RL, "literals", "(LTabledGoals;I[J)I"⟩
abbrev cL_value : ByteArray := method_12_code
def yL_value : MethodName := ⟨RL, "value", "(LTabledGoals;III[J)I"⟩
abbrev cL_stage : ByteArray := method_13_code
def yL_stage : MethodName := ⟨RL, "stage", "(LTabledGoals;III[J)I"⟩
abbrev cL_find : ByteArray := method_14_code
def yL_find : MethodName := ⟨RL, "find", "(LTabledGoals;III[J)I"⟩
abbrev cL_table : ByteArray := method_15_code
def yL_table : MethodName := ⟨RL, "table", "(LTabledGoals;II[J)I"⟩
abbrev cL_calls : ByteArray := method_16_code
def yL_calls : MethodName := ⟨RL, "calls", "(LTabledGoals;III[J)I"⟩
abbrev cL_answer : ByteArray := method_17_code
def yL_answer : MethodName := ⟨RL, "answer", "(LTabledGoals;III[J)I"⟩
abbrev cL_condition : ByteArray := method_18_code
def yL_condition : MethodName := ⟨RL, "condition", "(LTabledGoals;IIIII[J)I"⟩
abbrev cL_reach : ByteArray := method_19_code
def yL_reach : MethodName := ⟨RL, "reach", "(LTabledGoals;III[J)I"⟩
abbrev cL_law : ByteArray := code
def yL_law : MethodName := ⟨RL, "law", "([I)Z"⟩
abbrev vwCl : List vw_C := [(RX0, TX0, 9), (RX1, TX1, 7), (RX2, TX2, 7), (RX3, TX3, 9), (RX4, TX4, 10), (RX5, TX5, 18), (RX6, TX6, 14), (RX8, TX8, 12), (RX9, TX9, 9), (RX10, TX10, 77)]
end
section
abbrev nse : String := "java/util/NoSuchElementException"
abbrev iae : String := "java/lang/IllegalArgumentException"
def wsE : List Cond := [Cond.constantLong RJ13 314 (6148914691236517205), Cond.constantLong RJ13 316 (3689348814741910323), Cond.constantLong RJ13 318 (1085102592571150095), Cond.fieldLink RX9 55 "TabledGoals" "tapeBytes" "I", Cond.fieldLink RX9 9 "TabledGoals" "tape" "[I", Cond.code yX9_putBytes cX9_putBytes 3 none, Cond.initialized RX9, Cond.methodLink RX9 58 yX9_putBytes, Cond.instanceMethod yX9_putBytes, Cond.selects RX9 yX9_putBytes yX9_putBytes, Cond.fieldLink RX9 13 "TabledGoals" "faultPlace" "I", Cond.fieldLink RX9 17 "TabledGoals" "refused" "[I", Cond.classLink RX9 285 nse, Cond.initialized nse, Cond.classLink RX9 292 iae, Cond.initialized iae, Cond.code yX9_refuseMissing cX9_refuseMissing 1 none, Cond.methodLink RX9 262 yX9_refuseMissing, Cond.instanceMethod yX9_refuseMissing, Cond.selects RX9 yX9_refuseMissing yX9_refuseMissing, Cond.fieldLink RX9 23 "TabledGoals" "program" "LTabledGoals$Program;", Cond.fieldLink RX9 138 "TabledGoals$Program" "predicates" "I", Cond.code yX9_needIndex cX9_needIndex 3 none, Cond.methodLink RX9 199 yX9_needIndex, Cond.instanceMethod yX9_needIndex, Cond.selects RX9 yX9_needIndex yX9_needIndex, Cond.fieldLink RX9 141 "TabledGoals$Program" "constants" "I", Cond.code yX9_needPredicate cX9_needPredicate 2 none, Cond.methodLink RX9 166 yX9_needPredicate, Cond.instanceMethod yX9_needPredicate, Cond.selects RX9 yX9_needPredicate yX9_needPredicate, Cond.code yX9_needAtom cX9_needAtom 5 none, Cond.methodLink RX9 90 yX9_needAtom, Cond.instanceMethod yX9_needAtom, Cond.selects RX9 yX9_needAtom yX9_needAtom, Cond.code yX9_needGoal cX9_needGoal 5 none, Cond.methodLink RX9 115 yX9_needGoal, Cond.instanceMethod yX9_needGoal, Cond.selects RX9 yX9_needGoal yX9_needGoal, Cond.fieldLink RX9 87 "TabledGoals$Program" "clauses" "I"]
def wsY : List Cond := wsX00 ++ wsX10 ++ wsX20 ++ wsX30 ++ wsX40 ++ wsX50 ++ wsX60 ++ wsX80 ++ wsX90 ++ wsX100
def wsT1 : List Cond := (vx_atS RX9 289 nse ["java/lang/RuntimeException", "java/lang/Exception"]).filter goodWord
def wsT2 : List Cond := (vx_atS RX9 296 iae ["java/lang/RuntimeException", "java/lang/Exception"]).filter goodWord
def WS : List Cond := wsE ++ (wsY ++ (wsT1 ++ wsT2))
theorem WS_g1 : wsE.all goodWord = true := by decide +kernel
theorem WS_g2 : wsY.all goodWord = true := by decide +kernel
theorem WS_good : ∀ w ∈ WS, goodWord w = true := fun w h => (List.mem_append.mp h).elim (fun h => List.all_eq_true.mp WS_g1 w h) (fun h => (List.mem_append.mp h).elim (fun h => List.all_eq_true.mp WS_g2 w h) (fun h => (List.mem_append.mp h).elim (fun h => (List.mem_filter.mp h).2) (fun h => (List.mem_filter.mp h).2)))
theorem WS_e1 : ∀ w ∈ (vx_atS RX9 289 nse ["java/lang/RuntimeException", "java/lang/Exception"]).filter goodWord, w ∈ WS := fun w h => List.mem_append_right _ (List.mem_append_right _ (List.mem_append_left _ h))
theorem WS_e2 : ∀ w ∈ (vx_atS RX9 296 iae ["java/lang/RuntimeException", "java/lang/Exception"]).filter goodWord, w ∈ WS := fun w h => List.mem_append_right _ (List.mem_append_right _ (List.mem_append_right _ h))
theorem iwX0 : ∀ w ∈ u_ws RX0 TX0 9, w ∈ WS := fun w h => List.mem_append_right _ (List.mem_append_left _ (List.mem_append_left _ (List.mem_append_left _ (List.mem_append_left _ (List.mem_append_left _ (List.mem_append_left _ (List.mem_append_left _ (List.mem_append_left _ (List.mem_append_left _ (List.mem_append_left _ h))))))))))
theorem iwX1 : ∀ w ∈ u_ws RX1 TX1 7, w ∈ WS := fun w h => List.mem_append_right _ (List.mem_append_left _ (List.mem_append_left _ (List.mem_append_left _ (List.mem_append_left _ (List.mem_append_left _ (List.mem_append_left _ (List.mem_append_left _ (List.mem_append_left _ (List.mem_append_left _ (List.mem_append_right _ h))))))))))
theorem iwX2 : ∀ w ∈ u_ws RX2 TX2 7, w ∈ WS := fun w h => List.mem_append_right _ (List.mem_append_left _ (List.mem_append_left _ (List.mem_append_left _ (List.mem_append_left _ (List.mem_append_left _ (List.mem_append_left _ (List.mem_append_left _ (List.mem_append_left _ (List.mem_append_right _ h)))))))))
theorem iwX3 : ∀ w ∈ u_ws RX3 TX3 9, w ∈ WS := fun w h => List.mem_append_right _ (List.mem_append_left _ (List.mem_append_left _ (List.mem_append_left _ (List.mem_append_left _ (List.mem_append_left _ (List.mem_append_left _ (List.mem_append_left _ (List.mem_append_right _ h))))))))
theorem iwX4 : ∀ w ∈ u_ws RX4 TX4 10, w ∈ WS := fun w h => List.mem_append_right _ (List.mem_append_left _ (List.mem_append_left _ (List.mem_append_left _ (List.mem_append_left _ (List.mem_append_left _ (List.mem_append_left _ (List.mem_append_right _ h)))))))
theorem iwX5 : ∀ w ∈ u_ws RX5 TX5 18, w ∈ WS := fun w h => List.mem_append_right _ (List.mem_append_left _ (List.mem_append_left _ (List.mem_append_left _ (List.mem_append_left _ (List.mem_append_left _ (List.mem_append_right _ h))))))
theorem iwX6 : ∀ w ∈ u_ws RX6 TX6 14, w ∈ WS := fun w h => List.mem_append_right _ (List.mem_append_left _ (List.mem_append_left _ (List.mem_append_left _ (List.mem_append_left _ (List.mem_append_right _ h)))))
theorem iwX8 : ∀ w ∈ u_ws RX8 TX8 12, w ∈ WS := fun w h => List.mem_append_right _ (List.mem_append_left _ (List.mem_append_left _ (List.mem_append_left _ (List.mem_append_right _ h))))
theorem iwX9 : ∀ w ∈ u_ws RX9 TX9 9, w ∈ WS := fun w h => List.mem_append_right _ (List.mem_append_left _ (List.mem_append_left _ (List.mem_append_right _ h)))
theorem iwX10 : ∀ w ∈ u_ws RX10 TX10 77, w ∈ WS := fun w h => List.mem_append_right _ (List.mem_append_left _ (List.mem_append_right _ h))
theorem m_0 : Cond.constantLong RJ13 314 (6148914691236517205) ∈ WS := List.mem_append_left _ (List.mem_of_getElem? (i := 0) rfl)
theorem m_1 : Cond.constantLong RJ13 316 (3689348814741910323) ∈ WS := List.mem_append_left _ (List.mem_of_getElem? (i := 1) rfl)
theorem m_2 : Cond.constantLong RJ13 318 (1085102592571150095) ∈ WS := List.mem_append_left _ (List.mem_of_getElem? (i := 2) rfl)
theorem m_3 : Cond.fieldLink RX9 55 "TabledGoals" "tapeBytes" "I" ∈ WS := List.mem_append_left _ (List.mem_of_getElem? (i := 3) rfl)
theorem m_4 : Cond.fieldLink RX9 9 "TabledGoals" "tape" "[I" ∈ WS := List.mem_append_left _ (List.mem_of_getElem? (i := 4) rfl)
theorem m_5 : Cond.code yX9_putBytes cX9_putBytes 3 none ∈ WS := List.mem_append_left _ (List.mem_of_getElem? (i := 5) rfl)
theorem m_6 : Cond.initialized RX9 ∈ WS := List.mem_append_left _ (List.mem_of_getElem? (i := 6) rfl)
theorem m_7 : Cond.methodLink RX9 58 yX9_putBytes ∈ WS := List.mem_append_left _ (List.mem_of_getElem? (i := 7) rfl)
theorem m_8 : Cond.instanceMethod yX9_putBytes ∈ WS := List.mem_append_left _ (List.mem_of_getElem? (i := 8) rfl)
theorem m_9 : Cond.selects RX9 yX9_putBytes yX9_putBytes ∈ WS := List.mem_append_left _ (List.mem_of_getElem? (i := 9) rfl)
theorem m_10 : Cond.fieldLink RX9 13 "TabledGoals" "faultPlace" "I" ∈ WS := List.mem_append_left _ (List.mem_of_getElem? (i := 10) rfl)
theorem m_11 : Cond.fieldLink RX9 17 "TabledGoals" "refused" "[I" ∈ WS := List.mem_append_left _ (List.mem_of_getElem? (i := 11) rfl)
theorem m_12 : Cond.classLink RX9 285 nse ∈ WS := List.mem_append_left _ (List.mem_of_getElem? (i := 12) rfl)
theorem m_13 : Cond.initialized nse ∈ WS := List.mem_append_left _ (List.mem_of_getElem? (i := 13) rfl)
theorem m_14 : Cond.classLink RX9 292 iae ∈ WS := List.mem_append_left _ (List.mem_of_getElem? (i := 14) rfl)
theorem m_15 : Cond.initialized iae ∈ WS := List.mem_append_left _ (List.mem_of_getElem? (i := 15) rfl)
theorem m_16 : Cond.code yX9_refuseMissing cX9_refuseMissing 1 none ∈ WS := List.mem_append_left _ (List.mem_of_getElem? (i := 16) rfl)
theorem m_17 : Cond.methodLink RX9 262 yX9_refuseMissing ∈ WS := List.mem_append_left _ (List.mem_of_getElem? (i := 17) rfl)
theorem m_18 : Cond.instanceMethod yX9_refuseMissing ∈ WS := List.mem_append_left _ (List.mem_of_getElem? (i := 18) rfl)
theorem m_19 : Cond.selects RX9 yX9_refuseMissing yX9_refuseMissing ∈ WS := List.mem_append_left _ (List.mem_of_getElem? (i := 19) rfl)
theorem m_20 : Cond.fieldLink RX9 23 "TabledGoals" "program" "LTabledGoals$Program;" ∈ WS := List.mem_append_left _ (List.mem_of_getElem? (i := 20) rfl)
theorem m_21 : Cond.fieldLink RX9 138 "TabledGoals$Program" "predicates" "I" ∈ WS := List.mem_append_left _ (List.mem_of_getElem? (i := 21) rfl)
theorem m_22 : Cond.code yX9_needIndex cX9_needIndex 3 none ∈ WS := List.mem_append_left _ (List.mem_of_getElem? (i := 22) rfl)
theorem m_23 : Cond.methodLink RX9 199 yX9_needIndex ∈ WS := List.mem_append_left _ (List.mem_of_getElem? (i := 23) rfl)
theorem m_24 : Cond.instanceMethod yX9_needIndex ∈ WS := List.mem_append_left _ (List.mem_of_getElem? (i := 24) rfl)
theorem m_25 : Cond.selects RX9 yX9_needIndex yX9_needIndex ∈ WS := List.mem_append_left _ (List.mem_of_getElem? (i := 25) rfl)
theorem m_26 : Cond.fieldLink RX9 141 "TabledGoals$Program" "constants" "I" ∈ WS := List.mem_append_left _ (List.mem_of_getElem? (i := 26) rfl)
theorem m_27 : Cond.code yX9_needPredicate cX9_needPredicate 2 none ∈ WS := List.mem_append_left _ (List.mem_of_getElem? (i := 27) rfl)
theorem m_28 : Cond.methodLink RX9 166 yX9_needPredicate ∈ WS := List.mem_append_left _ (List.mem_of_getElem? (i := 28) rfl)
theorem m_29 : Cond.instanceMethod yX9_needPredicate ∈ WS := List.mem_append_left _ (List.mem_of_getElem? (i := 29) rfl)
theorem m_30 : Cond.selects RX9 yX9_needPredicate yX9_needPredicate ∈ WS := List.mem_append_left _ (List.mem_of_getElem? (i := 30) rfl)
theorem m_31 : Cond.code yX9_needAtom cX9_needAtom 5 none ∈ WS := List.mem_append_left _ (List.mem_of_getElem? (i := 31) rfl)
theorem m_32 : Cond.methodLink RX9 90 yX9_needAtom ∈ WS := List.mem_append_left _ (List.mem_of_getElem? (i := 32) rfl)
theorem m_33 : Cond.instanceMethod yX9_needAtom ∈ WS := List.mem_append_left _ (List.mem_of_getElem? (i := 33) rfl)
theorem m_34 : Cond.selects RX9 yX9_needAtom yX9_needAtom ∈ WS := List.mem_append_left _ (List.mem_of_getElem? (i := 34) rfl)
theorem m_35 : Cond.code yX9_needGoal cX9_needGoal 5 none ∈ WS := List.mem_append_left _ (List.mem_of_getElem? (i := 35) rfl)
theorem m_36 : Cond.methodLink RX9 115 yX9_needGoal ∈ WS := List.mem_append_left _ (List.mem_of_getElem? (i := 36) rfl)
theorem m_37 : Cond.instanceMethod yX9_needGoal ∈ WS := List.mem_append_left _ (List.mem_of_getElem? (i := 37) rfl)
theorem m_38 : Cond.selects RX9 yX9_needGoal yX9_needGoal ∈ WS := List.mem_append_left _ (List.mem_of_getElem? (i := 38) rfl)
theorem m_39 : Cond.fieldLink RX9 87 "TabledGoals$Program" "clauses" "I" ∈ WS := List.mem_append_left _ (List.mem_of_getElem? (i := 39) rfl)
end
section
def fl (N : Nat) (g : Nat → Value) : List Value := (List.range N).map g
theorem fl_get {N k : Nat} {g : Nat → Value} {v : Value} (hk : k < N) (h : g k = v) : (fl N g)[k]? = some v := by
  simp [fl, hk, h]
theorem fl_set {N k : Nat} (g : Nat → Value) (v : Value) : (fl N g).set k v = fl N (va_up g k v) := by
  apply List.ext_getElem?
  intro i
  by_cases hi : i < N
  · by_cases hk : k = i
    · subst hk
      simp [fl, hi, va_up]
    · simp [fl, hi, va_up, List.getElem?_set, hk, Ne.symm hk]
  · simp [fl, hi, List.getElem?_set]
theorem fl_len (N : Nat) (g : Nat → Value) : (fl N g).length = N := by simp [fl]
theorem fl_V {N k : Nat} {g : Nat → Value} (hk : k < N) : vp_V (fl N g) k = g k := by simp [vp_V, fl, hk]
def rm (d mc ms : Nat) : Room := { frames := 10 * d, cells := mc, slots := ms, locals := 200 * d }
def TT (Y : Nat → ClassId) : List (ClassId × FieldType) := [(Y 0, .int), (Y 1, .long), (Y 2, .boolean), (Y 3, .byte), (Y 4, .short)]
def KD (U : State) : Prop := va_Nw (.declares (Bundle.initS "java/lang/RuntimeException")) U ∧ va_Nw (.declares (Bundle.initS "java/lang/Exception")) U ∧ va_Nw (.declares (Bundle.initS Bundle.tN)) U
theorem KD.warm {s U : State} (hW : s.WarmedH U.vm) (h : KD s) : KD U := ⟨va_Nw.warmD hW h.1, va_Nw.warmD hW h.2.1, va_Nw.warmD hW h.2.2⟩
theorem KD.call {U : State} {g : JFrame} {mk : MethodId} {a : Array Value} (h : KD U) : KD (U.calling g mk a) := ⟨va_Nw.same (u := U) rfl rfl h.1, va_Nw.same (u := U) rfl rfl h.2.1, va_Nw.same (u := U) rfl rfl h.2.2⟩
def KV (D : va_G) (Y : Nat → ClassId) (U : State) : Prop :=
  va_K D vwCl (TT Y) U ∧ (∃ a, vk_R RX9 287 "there is none of that number" a U) ∧ (∃ a, vk_R RX9 294 "a number that has no meaning here" a U) ∧ va_Nw (.methodLinkNest RX9 22 yX3_init RX9) U ∧ va_AO RX5 U ∧ va_Nw (.castable nse nse) U ∧ va_Nw (.castable iae iae) U ∧ va_Nc iae nse U ∧ KD U
theorem KV.warm {D : va_G} {Y : Nat → ClassId} {s U : State} (hW : s.WarmedH U.vm) (h : KV D Y s) : KV D Y U := by
  obtain ⟨h1, ⟨a, h2⟩, ⟨b, h3⟩, h4, h5, h6, h7, h8, h9⟩ := h
  exact ⟨va_K.moved hW.alike h1, ⟨a, vk_R.warm hW h2⟩, ⟨b, vk_R.warm hW h3⟩, va_Nw.warmM hW h4, va_AO.moved hW.alike h5, va_Nw.warmC hW h6, va_Nw.warmC hW h7, va_Nc.moved hW.alike h8, h9.warm hW⟩
theorem KV.call {D : va_G} {Y : Nat → ClassId} {U : State} {g : JFrame} {mk : MethodId} {a : Array Value} (h : KV D Y U) : KV D Y (U.calling g mk a) := by
  obtain ⟨h1, ⟨a, h2⟩, ⟨b, h3⟩, h4, h5, h6, h7, h8, h9⟩ := h
  exact ⟨va_K.moved (u := U) (Vm.Alike.refl U.vm) h1, ⟨a, vk_R.same (u := U) rfl h2⟩, ⟨b, vk_R.same (u := U) rfl h3⟩, va_Nw.same (u := U) rfl rfl h4, va_AO.moved (u := U) (Vm.Alike.refl U.vm) h5, va_Nw.same (u := U) rfl rfl h6, va_Nw.same (u := U) rfl rfl h7, va_Nc.moved (u := U) (Vm.Alike.refl U.vm) h8, h9.call⟩
def ZZ (A : Nat → Prop) (U : State) (H : Heap) : Prop := vx_Zq Bundle.tN "UNASSIGNED_STACK" Bundle.steD A U H ∧ vx_Zq Bundle.tN "SUPPRESSED_SENTINEL" Bundle.listD A U H
theorem ZZ.moved {A : Nat → Prop} {u U : State} {H : Heap} (hvm : u.vm.Alike U.vm) (h : ZZ A u H) : ZZ A U H := ⟨h.1.moved hvm, h.2.moved hvm⟩
theorem ZZ.kept {A : Nat → Prop} {U : State} {H H1 : Heap} (h : ZZ A U H) (hq : ∀ a : Nat, a < H.size → ¬ A a → H1[a]? = H[a]?) : ZZ A U H1 := ⟨h.1.kept hq, h.2.kept hq⟩
theorem ZZ.narrow {A B : Nat → Prop} {U : State} {H : Heap} (h : ZZ A U H) (hAB : ∀ q, B q → A q) : ZZ B U H := ⟨h.1.narrow hAB, h.2.narrow hAB⟩
def pre (D : va_G) (Y : Nat → ClassId) (Wd : va_W) (sz : Nat) (U : State) : Prop := U.heap.size = sz ∧ KV D Y U ∧ va_P D vwCl Wd U.heap ∧ va_D (fun _ => True) Wd ∧ ZZ (va_A Wd sz) U U.heap
theorem pre_blind {D : va_G} {Y : Nat → ClassId} {Wd : va_W} {sz : Nat} {av : List Value} : FrameBlind (va_Pc av (pre D Y Wd sz)) := by
  intro a U g mk q
  obtain ⟨q0, q1, q2, q3, q4, q5⟩ := q
  exact ⟨q0, q1, q2.call, q3, q4, ZZ.moved (u := U) (U := U.calling g mk a) (H := U.heap) (Vm.Alike.refl U.vm) q5⟩
theorem pre_of {D : va_G} {Y : Nat → ClassId} {A : Nat → Prop} {ws Wc : va_W} {s : State} {H : Heap} {locs : List Loc} (hK : KV D Y s) (hZ : ZZ A s s.heap) (hP : va_P D vwCl ws H) (hD : va_D A ws) (hS : va_S A s.heap H locs) (hA : ∀ q, s.heap.size ≤ q → A q) (isC : List Nat) (hC : isC.map (fun i => ws[i]?) = Wc.map some) (hn : va_nd isC = true) :
    ∀ U : State, U.heap = H → s.WarmedH U.vm → pre D Y Wc H.size U := by
  intro U hU hW
  subst hU
  have hPc : va_P D vwCl Wc U.heap := hP.sub isC (by
    have h := congrArg (fun l => List.filterMap id l) hC
    simpa [List.filterMap_map, Function.comp_def] using h)
  exact ⟨rfl, hK.warm hW, hPc, (hD.sub isC hn hC).weaken (fun _ _ _ _ => trivial), ((hZ.kept hS.2.1).narrow (va_free hD hS hA isC hC)).moved hW.alike⟩
theorem WS_all : ∀ w ∈ WS, (w.onTables && w.keeps) = true ∨ ∃ ty, w = .arrayClass ty := fun w h => good_of_word (WS_good w h)
theorem gAll {a b : Cond} (hb : b ∈ WS) : GoodIn (a :: WS) (b :: WS) := fun w h => (List.mem_cons.mp h).elim (fun e => e ▸ ⟨List.mem_cons_of_mem _ hb, WS_all b hb⟩) (fun h => ⟨List.mem_cons_of_mem _ h, WS_all w h⟩)
theorem gIn {b : Cond} (hb : b ∈ WS) : GoodIn WS (b :: WS) := fun w h => (List.mem_cons.mp h).elim (fun e => e ▸ ⟨hb, WS_all b hb⟩) (fun h => ⟨h, WS_all w h⟩)
def bp (D : va_G) (A : Nat → Prop) {S : Type} (W1 : S → va_W) : S → State → Prop := fun u t => va_P D vwCl (W1 u) t.heap ∧ va_D A (W1 u)
abbrev QT : Type := (Nat → Prop) → Array Value → State → Outcome → State → Prop
def qI (D : va_G) {S : Type} (post : Int32 → S → Prop) (W1 : S → va_W) : QT := fun A => va_Qi post (bp D A W1) A
def qL (D : va_G) {S : Type} (post : Int64 → S → Prop) (W1 : S → va_W) : QT := fun A => va_Ql post (bp D A W1) A
def qV (D : va_G) {S : Type} (post : S → Prop) (W1 : S → va_W) : QT := fun A => va_Qv post (bp D A W1) A
abbrev XT : Type := (Nat → Prop) → String → State → State → Prop
def qX (px : String → Prop) : XT := fun A => vx_X (fun _ : Unit => True) (fun E _ _ => px E) A
def cM (l : Launch) (D : va_G) (Y : Nat → ClassId) (y : MethodName) (cc : ByteArray) (mL : Nat) (rt : Option FieldType) (d mc ms : Nat) (av : List Value) (Wd : va_W) (Qc : QT) : Prop :=
  ∀ sz : Nat, Met l y (Cond.code y cc mL rt :: WS) (rm d mc ms) (va_Pc av (pre D Y Wd sz)) (Qc (va_A Wd sz)) mc ms (va_A Wd sz)
def xM (l : Launch) (D : va_G) (Y : Nat → ClassId) (y : MethodName) (cc : ByteArray) (mL : Nat) (rt : Option FieldType) (d mc ms : Nat) (av : List Value) (Wd : va_W) (Qc : QT) (px : String → Prop) : Prop :=
  ∀ sz : Nat, vx_Met l y (Cond.code y cc mL rt :: WS) (rm d mc ms) (va_Pc av (pre D Y Wd sz)) (Qc (va_A Wd sz)) (qX px (va_A Wd sz)) mc ms (va_A Wd sz)
/-- a wrapper with an exception table, that returns -/
def hM (l : Launch) (D : va_G) (Y : Nat → ClassId) (y : MethodName) (cc : ByteArray) (mL : Nat) (rt : Option FieldType) (hh : List (Nat × Nat × Nat × Nat)) (d mc ms : Nat) (av : List Value) (Wd : va_W) (Qc : QT) : Prop :=
  ∀ sz : Nat, Met l y (Cond.codeWith y cc mL rt hh :: WS) (rm d mc ms) (va_Pc av (pre D Y Wd sz)) (Qc (va_A Wd sz)) mc ms (va_A Wd sz)
theorem cM.mk {l : Launch} {D : va_G} {Y : Nat → ClassId} {y : MethodName} {cc : ByteArray} {mL : Nat} {rt : Option FieldType} {d mc ms : Nat} {av : List Value} {Wd : va_W} {Qc : QT} (own : String) (hw : y.cls = own) (hy : plainName y.cls = true) (hn : (lg_sl av).length ≤ mL)
    (body : ∀ (p : Program) (e : Env) (s : State) (m : MethodId) (below : List Frame) (meth : Method) (c : Code) (A : Nat → Prop), CallFix p m c cc mL s av.toArray WS own → meth.sig.returnType = rt → meth.locks = false → meth.name = y.name → KV D Y s → ZZ A s s.heap → va_P D vwCl Wd s.heap → va_D A Wd → (∀ q, s.heap.size ≤ q → A q) → va_S A s.heap s.heap [] → ∀ ls : Array Slot, lv_has ls mL (lv_args 0 av) →
      W p l e (rm d mc ms) s m av.toArray below meth c s.heap [] 0 0 (MQ below (Qc A) av.toArray s mc ms A) (F0 m 0 ls [])) : cM l D Y y cc mL rt d mc ms av Wd Qc := by
  intro sz
  refine Met.ofW (cc := cc) (maxL := mL) (ret := rt) hy rfl ?_
  intro p e s m args below meth c s₁ B hml hv
  obtain ⟨rfl, hsz, hK, hP, hD0, hZ⟩ := hv
  have hts := atoms_spec (ws := Cond.code y cc mL rt :: WS) B.pre
  subst hsz
  have hl := lv_entry av (n := mL) hn
  rw [lg_entry_eq]
  exact body p e s m below meth c (va_A Wd s.heap.size) ⟨B.exec, B.bytes, hml, by rw [← hw]; exact findClass_of_methodNamed B.named, fun w h => hts w (List.mem_cons_of_mem _ h)⟩ B.returns B.notSynchronized (name_of_methodNamed B.named B.method).1 hK hZ hP hD0.self (fun q h => Or.inr h) va_S.rf _ hl
theorem xM.mk {l : Launch} {D : va_G} {Y : Nat → ClassId} {y : MethodName} {cc : ByteArray} {mL : Nat} {rt : Option FieldType} {d mc ms : Nat} {av : List Value} {Wd : va_W} {Qc : QT} {px : String → Prop} (own : String) (hw : y.cls = own) (hy : plainName y.cls = true) (hn : (lg_sl av).length ≤ mL)
    (body : ∀ (p : Program) (e : Env) (s : State) (m : MethodId) (below : List Frame) (meth : Method) (c : Code) (A : Nat → Prop), CallFix p m c cc mL s av.toArray WS own → meth.sig.returnType = rt → meth.locks = false → (∀ x ∈ c.exceptionTable.toList, False) → KV D Y s → ZZ A s s.heap → va_P D vwCl Wd s.heap → va_D A Wd → (∀ q, s.heap.size ≤ q → A q) → va_S A s.heap s.heap [] → ∀ ls : Array Slot, lv_has ls mL (lv_args 0 av) →
      W p l e (rm d mc ms) s m av.toArray below meth c s.heap [] 0 0 (vx_MQ below (Qc A) (qX px A) av.toArray s mc ms A) (F0 m 0 ls [])) : xM l D Y y cc mL rt d mc ms av Wd Qc px := by
  intro sz
  refine vx_ofW (cc := cc) (maxL := mL) (ret := rt) hy rfl ?_
  intro p e s m args below meth c s₁ B hml hno hv
  obtain ⟨rfl, hsz, hK, hP, hD0, hZ⟩ := hv
  have hts := atoms_spec (ws := Cond.code y cc mL rt :: WS) B.pre
  subst hsz
  have hl := lv_entry av (n := mL) hn
  rw [lg_entry_eq]
  exact body p e s m below meth c (va_A Wd s.heap.size) ⟨B.exec, B.bytes, hml, by rw [← hw]; exact findClass_of_methodNamed B.named, fun w h => hts w (List.mem_cons_of_mem _ h)⟩ B.returns B.notSynchronized hno hK hZ hP hD0.self (fun q h => Or.inr h) va_S.rf _ hl
section
variable {p : Program} {l : Launch} {e : Env} {R : Room} {s : State} {m : MethodId} {args : Array Value} {below : List Frame} {meth : Method} {c : Code} {H : Heap} {locs : List Loc} {cells slots : Nat} {Q : State → Prop}
variable {cc : ByteArray} {nL : Nat} {own : String} {D : va_G} {Y : Nat → ClassId} {A : Nat → Prop} {ws wr Wc : va_W} {pc : Nat} {ls : Array Slot} {rest st0 : List Value} {index : Nat}
theorem lv_toc {x v : Int32} (h : x = v) (k : W p l e R s m args below meth c H locs cells slots Q (F0 m pc ls (.int v :: rest))) : W p l e R s m args below meth c H locs cells slots Q (F0 m pc ls (.int x :: rest)) := h ▸ k
theorem lv_tol {x v : Int64} (h : x = v) (k : W p l e R s m args below meth c H locs cells slots Q (F0 m pc ls (.long v :: rest))) : W p l e R s m args below meth c H locs cells slots Q (F0 m pc ls (.long x :: rest)) := h ▸ k
theorem gF {C ref : String} {T : u_T} {N ci : Nat} (F : CallFix p m c cc nL s args WS own) (hK : KV D Y s) (hP : va_P D vwCl ws H) {a : Nat} {g : Nat → Value} (q0 : Nat) (he : ws[q0]? = some (a, .inr (ci, fl N g))) (hc : vwCl[ci]? = some (C, T, N)) (hin : ∀ w ∈ u_ws C T N, w ∈ WS) (k : Nat) (hk : k < N) (hlink : Cond.fieldLink own index ref (T k).2.1 (T k).2.2.1 ∈ WS) (hsame : ∀ x, s.fieldFound? (T k).1 (T k).2.1 (T k).2.2.1 = some x → s.fieldFound? ref (T k).2.1 (T k).2.2.1 = some x) {v : Value} (hv : g k = v) (hdg : decode cc pc = .ok (.getfield index, 3))
    (kk : W p l e R s m args below meth c H locs cells slots Q (F0 m (pc + 3) ls (v :: rest))) : W p l e R s m args below meth c H locs cells slots Q (F0 m pc ls (.ref a :: rest)) :=
  va_get F.1 F.2.1 F.2.2.2.2 hin F.2.2.2.1 hK.1 hP q0 he hc k hk (F.2.2.2.2 _ hlink) hsame (fl_get hk hv) hdg kk
theorem pF {C ref : String} {T : u_T} {N ci : Nat} (F : CallFix p m c cc nL s args WS own) (hK : KV D Y s) (hP : va_P D vwCl ws H) (hD : va_D A ws) (hS : va_S A s.heap H locs) {a : Nat} {g : Nat → Value} (q0 : Nat) (he : ws[q0]? = some (a, .inr (ci, fl N g))) (hc : vwCl[ci]? = some (C, T, N)) (hin : ∀ w ∈ u_ws C T N, w ∈ WS) (ty0 : Nat → FieldType) (hty : ∀ k, k < N → parseFieldDescriptor (T k).2.2.1 = some (ty0 k)) (hnm : ∀ a, a < N → ∀ b, b < N → a ≠ b → (T a).2.1 ≠ (T b).2.1) (k : Nat) (hk : k < N) (hlink : Cond.fieldLink own index ref (T k).2.1 (T k).2.2.1 ∈ WS) (hsame : ∀ x, s.fieldFound? (T k).1 (T k).2.1 (T k).2.2.1 = some x → s.fieldFound? ref (T k).2.1 (T k).2.2.1 = some x) (hfin : (T k).2.2.2 = false) {v : Value} (hn : narrow (ty0 k) v = v) (hfit : fits (ty0 k) v = true) (hdg : decode cc pc = .ok (.putfield index, 3))
    (kk : ∀ (H1 : Heap) (locs1 : List Loc), va_P D vwCl (ws.set q0 (a, .inr (ci, fl N (va_up g k v)))) H1 → va_D A (ws.set q0 (a, .inr (ci, fl N (va_up g k v)))) → va_S A s.heap H1 locs1 → W p l e R s m args below meth c H1 locs1 cells slots Q (F0 m (pc + 3) ls rest)) : W p l e R s m args below meth c H locs cells slots Q (F0 m pc ls (v :: .ref a :: rest)) :=
  va_put F.1 F.2.1 F.2.2.2.2 hin ty0 hty hnm F.2.2.2.1 hK.1 hP hD hS q0 he hc k hk (F.2.2.2.2 _ hlink) hsame hfin (hty k hk) hn hfit (by rw [fl_len]; exact hk) hdg (by rw [fl_set]; exact kk)
theorem pFF {C ref : String} {T : u_T} {N ci : Nat} (F : CallFix p m c cc nL s args WS own) (hin2 : meth.name = "<init>") (hK : KV D Y s) (hP : va_P D vwCl ws H) (hD : va_D A ws) (hS : va_S A s.heap H locs) {a : Nat} {g : Nat → Value} (q0 : Nat) (he : ws[q0]? = some (a, .inr (ci, fl N g))) (hc : vwCl[ci]? = some (C, T, N)) (hin : ∀ w ∈ u_ws C T N, w ∈ WS) (ty0 : Nat → FieldType) (hty : ∀ k, k < N → parseFieldDescriptor (T k).2.2.1 = some (ty0 k)) (hnm : ∀ a, a < N → ∀ b, b < N → a ≠ b → (T a).2.1 ≠ (T b).2.1) (k : Nat) (hk : k < N) (hlink : Cond.fieldLink own index ref (T k).2.1 (T k).2.2.1 ∈ WS) (hsame : ∀ x, s.fieldFound? (T k).1 (T k).2.1 (T k).2.2.1 = some x → s.fieldFound? ref (T k).2.1 (T k).2.2.1 = some x) (hfin : (T k).2.2.2 = true) (hdecl : (T k).1 = own) {v : Value} (hn : narrow (ty0 k) v = v) (hfit : fits (ty0 k) v = true) (hdg : decode cc pc = .ok (.putfield index, 3))
    (kk : ∀ (H1 : Heap) (locs1 : List Loc), va_P D vwCl (ws.set q0 (a, .inr (ci, fl N (va_up g k v)))) H1 → va_D A (ws.set q0 (a, .inr (ci, fl N (va_up g k v)))) → va_S A s.heap H1 locs1 → W p l e R s m args below meth c H1 locs1 cells slots Q (F0 m (pc + 3) ls rest)) : W p l e R s m args below meth c H locs cells slots Q (F0 m pc ls (v :: .ref a :: rest)) :=
  va_putF F.1 F.2.1 F.2.2.2.2 hin ty0 hty hnm F.2.2.2.1 hK.1 hP hD hS q0 he hc k hk (F.2.2.2.2 _ hlink) hsame hfin hin2 hdecl (hty k hk) hn hfit (by rw [fl_len]; exact hk) hdg (by rw [fl_set]; exact kk)
theorem nO {C : String} {T : u_T} {N ci : Nat} (F : CallFix p m c cc nL s args WS own) (hK : KV D Y s) (hP : va_P D vwCl ws H) (hD : va_D A ws) (hS : va_S A s.heap H locs) (hA : ∀ q, s.heap.size ≤ q → A q) (hc : vwCl[ci]? = some (C, T, N)) (hin : ∀ w ∈ u_ws C T N, w ∈ WS) (ty0 : Nat → FieldType) (hty : ∀ k, k < N → parseFieldDescriptor (T k).2.2.1 = some (ty0 k)) (h1 : Cond.classLink own index C ∈ WS) (h2 : Cond.instantiable C N ∈ WS) (h3 : Cond.initialized C ∈ WS) (hcells : cells + 1 ≤ R.cells) (hslots : slots + N ≤ R.slots) (hdg : decode cc pc = .ok (.new index, 3))
    (kk : ∀ (q : Nat) (H1 : Heap), va_P D vwCl (ws ++ [(q, .inr (ci, fl N (fun k => defaultValue (ty0 k))))]) H1 → va_D A (ws ++ [(q, .inr (ci, fl N (fun k => defaultValue (ty0 k))))]) → va_S A s.heap H1 locs → W p l e R s m args below meth c H1 locs (cells + 1) (slots + N) Q (F0 m (pc + 3) ls (.ref q :: rest))) : W p l e R s m args below meth c H locs cells slots Q (F0 m pc ls rest) :=
  va_new F.1 F.2.1 F.2.2.2.2 hin ty0 hty F.2.2.2.1 (F.2.2.2.2 _ h1) (F.2.2.2.2 _ h2) (F.2.2.2.2 _ h3) hK.1 hP hD hS hA hc (fun j hj => (fl_V (g := fun k => defaultValue (ty0 k)) hj).symm) hcells hslots hdg kk
theorem nA {atype : ArrayType} {ty : FieldType} {a0 : vp_A} {n : Int32} {N' : Nat} {cA0 : ClassId} (F : CallFix p m c cc nL s args WS own) (hK : KV D Y s) (hP : va_P D vwCl ws H) (hD : va_D A ws) (hS : va_S A s.heap H locs) (hA : ∀ q, s.heap.size ≤ q → A q) (t0 : Nat) (ht : (TT Y)[t0]? = some (cA0, ty)) (hra : ∀ c : ClassId, va_RA s c ty → s.vm.findClass ("[" ++ ty.toString) = some c) (h1 : Cond.arrayClass ty ∈ WS) (hty : newarray.typeOf atype = ty) (ha : ∀ cA : ClassId, vp_cell cA a0 = arrV cA N' (fun _ => defaultValue ty)) (hn : ¬ n < 0) (hN : n.toNatClampNeg = N') (hbytes : N' * componentBytes ty ≤ 536870912) (hcells : cells + 1 ≤ R.cells) (hslots : slots + N' ≤ R.slots) (hdg : decode cc pc = .ok (.newarray atype, 2))
    (kk : ∀ (q : Nat) (H1 : Heap), va_P D vwCl (ws ++ [(q, .inl (cA0, a0))]) H1 → va_D A (ws ++ [(q, .inl (cA0, a0))]) → va_S A s.heap H1 locs → W p l e R s m args below meth c H1 locs (cells + 1) (slots + N') Q (F0 m (pc + 2) ls (.ref q :: rest))) : W p l e R s m args below meth c H locs cells slots Q (F0 m pc ls (.int n :: rest)) := by
  refine va_newa F.1 F.2.1 (by rw [hty]; exact F.2.2.2.2 _ h1) hty hK.1 hP hD hS hA ha hn hN hbytes hcells hslots hdg (fun q cA H1 hK1 hP1 hD1 hS1 => ?_)
  have e1 := hra _ (hK1.2 (TT Y).length (cA, ty) (by simp)).2
  have e2 := hra _ (hK.1.2 t0 (cA0, ty) ht).2
  have e3 : cA = cA0 := Option.some.inj (e1.symm.trans e2)
  subst e3
  exact kk q H1 hP1 hD1 hS1
theorem cbOf (F : CallFix p m c cc nL s args WS own) {y : MethodName} {bytes : ByteArray} {mL : Nat} {rt : Option FieldType} {d mc ms n : Nat} (h1 : Cond.methodLink own index y ∈ WS) (h4 : Cond.initialized y.cls ∈ WS) (h5 : Cond.code y bytes mL rt ∈ WS) (hd : y.cls ≠ "java/lang/invoke/MethodHandle" ∧ y.cls ≠ "java/lang/invoke/VarHandle" ∧ (parseMethodDescriptor y.desc).map (fun d => d.parameters.length) = some n) (hR : 10 * d + 1 ≤ R.frames ∧ 8 + (mL + 11) + 200 * d ≤ R.locals) :
    CallB R s args own index y bytes mL rt (Cond.code y bytes mL rt :: WS) (rm d mc ms) mc ms n :=
  callB_of n F.2.2.2.2 (gIn h5) rfl rfl rfl (F.2.2.2.2 _ h4) (F.2.2.2.2 _ h1) hd hR
theorem runV {n : Nat} {y : MethodName} {bytes : ByteArray} {mL : Nat} {rt : Option FieldType} {d mc ms : Nat} {b : Nat} {As : List Value} {Qc : QT} {ci : Nat} {C : String} {T : u_T} {N : Nat} {fs : List Value} (F : CallFix p m c cc nL s args WS own) (hK : KV D Y s) (hZ : ZZ A s s.heap) (hP : va_P D vwCl ws H) (hD : va_D A ws) (hS : va_S A s.heap H locs) (hA : ∀ q, s.heap.size ≤ q → A q) (hM : cM l D Y y bytes mL rt d mc ms (.ref b :: As) Wc Qc) (q0 : Nat) (he : ws[q0]? = some (b, .inr (ci, fs))) (hc : vwCl[ci]? = some (C, T, N)) (isC : List Nat) (hC : isC.map (fun i => ws[i]?) = Wc.map some) (hn : va_nd isC = true) (h1 : Cond.methodLink own index y ∈ WS) (h2 : Cond.instanceMethod y ∈ WS) (h3 : Cond.selects C y y ∈ WS) (h4 : Cond.initialized y.cls ∈ WS) (h5 : Cond.code y bytes mL rt ∈ WS) (hd : y.cls ≠ "java/lang/invoke/MethodHandle" ∧ y.cls ≠ "java/lang/invoke/VarHandle" ∧ (parseMethodDescriptor y.desc).map (fun d => d.parameters.length) = some n) (hna : As.length = n) (hR : 10 * d + 1 ≤ R.frames ∧ 8 + (mL + 11) + 200 * d ≤ R.locals) (hsize : ls.size = nL) (hst : st0 = As.reverse ++ .ref b :: rest) (hW : (rest.map fun v => v.category).sum ≤ 8) (hdg : decode cc pc = .ok (.invokevirtual index, 3)) (hf : cells + mc ≤ R.cells ∧ slots + ms ≤ R.slots) :
    va_Run p l e R s m args below meth c H locs cells slots mc ms (F0 m pc ls st0) rest (Qc (va_A Wc H.size) (Value.ref b :: As).toArray) (va_A Wc H.size) :=
  va_runV F (hM H.size) ⟨cbOf F h1 h4 h5 hd hR, F.2.2.2.2 _ h2, F.2.2.2.2 _ h3⟩ ⟨pre_blind, va_recv hK.1 hP hc he, fun U hU hW => ⟨rfl, pre_of hK hZ hP hD hS hA isC hC hn U hU hW⟩⟩ rfl hna hsize hst (lv_room hW) hdg hf
theorem runS {n : Nat} {y : MethodName} {bytes : ByteArray} {mL : Nat} {rt : Option FieldType} {d mc ms : Nat} {As : List Value} {Qc : QT} (F : CallFix p m c cc nL s args WS own) (hK : KV D Y s) (hZ : ZZ A s s.heap) (hP : va_P D vwCl ws H) (hD : va_D A ws) (hS : va_S A s.heap H locs) (hA : ∀ q, s.heap.size ≤ q → A q) (hM : cM l D Y y bytes mL rt d mc ms As Wc Qc) (isC : List Nat) (hC : isC.map (fun i => ws[i]?) = Wc.map some) (hn : va_nd isC = true) (h1 : Cond.methodLink own index y ∈ WS) (h2 : Cond.static y ∈ WS) (h4 : Cond.initialized y.cls ∈ WS) (h5 : Cond.code y bytes mL rt ∈ WS) (hd : y.cls ≠ "java/lang/invoke/MethodHandle" ∧ y.cls ≠ "java/lang/invoke/VarHandle" ∧ (parseMethodDescriptor y.desc).map (fun d => d.parameters.length) = some n) (hna : As.length = n) (hR : 10 * d + 1 ≤ R.frames ∧ 8 + (mL + 11) + 200 * d ≤ R.locals) (hsize : ls.size = nL) (hst : st0 = As.reverse ++ rest) (hW : (rest.map fun v => v.category).sum ≤ 8) (hdg : decode cc pc = .ok (.invokestatic index, 3)) (hf : cells + mc ≤ R.cells ∧ slots + ms ≤ R.slots) :
    va_Run p l e R s m args below meth c H locs cells slots mc ms (F0 m pc ls st0) rest (Qc (va_A Wc H.size) As.toArray) (va_A Wc H.size) :=
  va_runS F (hM H.size) ⟨cbOf F h1 h4 h5 hd hR, F.2.2.2.2 _ h2⟩ ⟨pre_blind, fun U hU hW => ⟨rfl, pre_of hK hZ hP hD hS hA isC hC hn U hU hW⟩⟩ rfl hna hsize hst (lv_room hW) hdg hf
theorem runI {n : Nat} {y : MethodName} {bytes : ByteArray} {mL : Nat} {d mc ms : Nat} {b : Nat} {As : List Value} {Qc : QT} (F : CallFix p m c cc nL s args WS own) (hK : KV D Y s) (hZ : ZZ A s s.heap) (hP : va_P D vwCl ws H) (hD : va_D A ws) (hS : va_S A s.heap H locs) (hA : ∀ q, s.heap.size ≤ q → A q) (hM : cM l D Y y bytes mL none d mc ms (.ref b :: As) Wc Qc) (isC : List Nat) (hC : isC.map (fun i => ws[i]?) = Wc.map some) (hn : va_nd isC = true) (h1 : Cond.methodLink own index y ∈ WS) (h2 : Cond.instanceMethod y ∈ WS) (h4 : Cond.initialized y.cls ∈ WS) (h5 : Cond.code y bytes mL none ∈ WS) (hy1 : y.name = "<init>") (hd : y.cls ≠ "java/lang/invoke/MethodHandle" ∧ y.cls ≠ "java/lang/invoke/VarHandle" ∧ (parseMethodDescriptor y.desc).map (fun d => d.parameters.length) = some n) (hna : As.length = n) (hR : 10 * d + 1 ≤ R.frames ∧ 8 + (mL + 11) + 200 * d ≤ R.locals) (hsize : ls.size = nL) (hst : st0 = As.reverse ++ .ref b :: rest) (hW : (rest.map fun v => v.category).sum ≤ 8) (hdg : decode cc pc = .ok (.invokespecial index, 3)) (hf : cells + mc ≤ R.cells ∧ slots + ms ≤ R.slots) :
    va_Run p l e R s m args below meth c H locs cells slots mc ms (F0 m pc ls st0) rest (Qc (va_A Wc H.size) (Value.ref b :: As).toArray) (va_A Wc H.size) :=
  va_runI F (hM H.size) ⟨cbOf F h1 h4 h5 hd hR, hy1, F.2.2.2.2 _ h2⟩ ⟨pre_blind, fun U hU hW => ⟨rfl, pre_of hK hZ hP hD hS hA isC hC hn U hU hW⟩⟩ rfl hna hsize hst (lv_room hW) hdg hf
theorem runIN {n : Nat} {y : MethodName} {bytes : ByteArray} {mL : Nat} {host : String} {d mc ms : Nat} {b : Nat} {As : List Value} {Qc : QT} (F : CallFix p m c cc nL s args WS own) (hK : KV D Y s) (hZ : ZZ A s s.heap) (hP : va_P D vwCl ws H) (hD : va_D A ws) (hS : va_S A s.heap H locs) (hA : ∀ q, s.heap.size ≤ q → A q) (hM : cM l D Y y bytes mL none d mc ms (.ref b :: As) Wc Qc) (isC : List Nat) (hC : isC.map (fun i => ws[i]?) = Wc.map some) (hn : va_nd isC = true) (h1 : va_Nw (.methodLinkNest own index y host) s) (h2 : Cond.instanceMethod y ∈ WS) (h4 : Cond.initialized y.cls ∈ WS) (h5 : Cond.code y bytes mL none ∈ WS) (hy1 : y.name = "<init>") (hd : y.cls ≠ "java/lang/invoke/MethodHandle" ∧ y.cls ≠ "java/lang/invoke/VarHandle" ∧ (parseMethodDescriptor y.desc).map (fun d => d.parameters.length) = some n) (hna : As.length = n) (hR : 10 * d + 1 ≤ R.frames ∧ 8 + (mL + 11) + 200 * d ≤ R.locals) (hsize : ls.size = nL) (hst : st0 = As.reverse ++ .ref b :: rest) (hW : (rest.map fun v => v.category).sum ≤ 8) (hdg : decode cc pc = .ok (.invokespecial index, 3)) (hf : cells + mc ≤ R.cells ∧ slots + ms ≤ R.slots) :
    va_Run p l e R s m args below meth c H locs cells slots mc ms (F0 m pc ls st0) rest (Qc (va_A Wc H.size) (Value.ref b :: As).toArray) (va_A Wc H.size) :=
  va_runIN F (hM H.size) ⟨va_cnB n F.2.2.2.2 (gIn h5) rfl rfl rfl h1 (F.2.2.2.2 _ h4) hd hR, hy1, F.2.2.2.2 _ h2⟩ ⟨pre_blind, fun U hU hW => ⟨rfl, pre_of hK hZ hP hD hS hA isC hC hn U hU hW⟩⟩ rfl hna hsize hst (lv_room hW) hdg hf
theorem xrunV {n : Nat} {y : MethodName} {bytes : ByteArray} {mL : Nat} {rt : Option FieldType} {d mc ms : Nat} {b : Nat} {As : List Value} {Qc : QT} {px : String → Prop} {ci : Nat} {C : String} {T : u_T} {N : Nat} {fs : List Value} (F : CallFix p m c cc nL s args WS own) (hK : KV D Y s) (hZ : ZZ A s s.heap) (hP : va_P D vwCl ws H) (hD : va_D A ws) (hS : va_S A s.heap H locs) (hA : ∀ q, s.heap.size ≤ q → A q) (hM : xM l D Y y bytes mL rt d mc ms (.ref b :: As) Wc Qc px) (q0 : Nat) (he : ws[q0]? = some (b, .inr (ci, fs))) (hc : vwCl[ci]? = some (C, T, N)) (isC : List Nat) (hC : isC.map (fun i => ws[i]?) = Wc.map some) (hn : va_nd isC = true) (h1 : Cond.methodLink own index y ∈ WS) (h2 : Cond.instanceMethod y ∈ WS) (h3 : Cond.selects C y y ∈ WS) (h4 : Cond.initialized y.cls ∈ WS) (h5 : Cond.code y bytes mL rt ∈ WS) (hd : y.cls ≠ "java/lang/invoke/MethodHandle" ∧ y.cls ≠ "java/lang/invoke/VarHandle" ∧ (parseMethodDescriptor y.desc).map (fun d => d.parameters.length) = some n) (hna : As.length = n) (hR : 10 * d + 1 ≤ R.frames ∧ 8 + (mL + 11) + 200 * d ≤ R.locals) (hsize : ls.size = nL) (hst : st0 = As.reverse ++ .ref b :: rest) (hW : (rest.map fun v => v.category).sum ≤ 8) (hdg : decode cc pc = .ok (.invokevirtual index, 3)) (hf : cells + mc ≤ R.cells ∧ slots + ms ≤ R.slots) :
    vx_Run p l e R s m args below meth c H locs cells slots mc ms (F0 m pc ls st0) rest (Qc (va_A Wc H.size) (Value.ref b :: As).toArray) (qX px (va_A Wc H.size)) (va_A Wc H.size) :=
  vx_runV F (hM H.size) ⟨cbOf F h1 h4 h5 hd hR, F.2.2.2.2 _ h2, F.2.2.2.2 _ h3⟩ ⟨pre_blind, va_recv hK.1 hP hc he, fun U hU hW => ⟨rfl, pre_of hK hZ hP hD hS hA isC hC hn U hU hW⟩⟩ rfl hna hsize hst (lv_room hW) hdg hf
theorem goI {S : Type} {post : Int32 → S → Prop} {W1 : S → va_W} {mc ms : Nat} {a : Array Value} (hr : va_Run p l e R s m args below meth c H locs cells slots mc ms (F0 m pc ls st0) rest (qI D post W1 (va_A Wc H.size) a) (va_A Wc H.size)) (hP : va_P D vwCl ws H) (hD : va_D A ws) (hS : va_S A s.heap H locs) (hA : ∀ q, s.heap.size ≤ q → A q) (isC isR : List Nat) (hC : isC.map (fun i => ws[i]?) = Wc.map some) (hR : isR.map (fun i => ws[i]?) = wr.map some) (hn : va_nd isR = true) (hdis : ∀ i ∈ isR, i ∉ isC)
    (kk : ∀ (r : Int32) (u : S) (H1 : Heap) (locs1 : List Loc), post r u → va_P D vwCl (wr ++ W1 u) H1 → va_D A (wr ++ W1 u) → va_S A s.heap H1 locs1 → W p l e R s m args below meth c H1 locs1 (cells + mc) (slots + ms) Q (F0 m (pc + 3) ls (.int r :: rest))) : W p l e R s m args below meth c H locs cells slots Q (F0 m pc ls st0) := by
  have hFc := va_free hD hS hA isC hC
  refine va_calli hr hS (fun q _ h => hFc q h) hFc (fun r u t H1 locs1 ht hvm hw hB hz1 hk1 hS1 => ?_)
  obtain ⟨hP1, hD1⟩ := hB
  rw [ht] at hP1
  obtain ⟨hP2, hD2⟩ := va_join hP hD isC isR hC hR hn hdis hk1 hFc hP1 hD1
  exact kk r u H1 locs1 hw hP2 hD2 hS1
theorem goL {S : Type} {post : Int64 → S → Prop} {W1 : S → va_W} {mc ms : Nat} {a : Array Value} (hr : va_Run p l e R s m args below meth c H locs cells slots mc ms (F0 m pc ls st0) rest (qL D post W1 (va_A Wc H.size) a) (va_A Wc H.size)) (hP : va_P D vwCl ws H) (hD : va_D A ws) (hS : va_S A s.heap H locs) (hA : ∀ q, s.heap.size ≤ q → A q) (isC isR : List Nat) (hC : isC.map (fun i => ws[i]?) = Wc.map some) (hR : isR.map (fun i => ws[i]?) = wr.map some) (hn : va_nd isR = true) (hdis : ∀ i ∈ isR, i ∉ isC)
    (kk : ∀ (r : Int64) (u : S) (H1 : Heap) (locs1 : List Loc), post r u → va_P D vwCl (wr ++ W1 u) H1 → va_D A (wr ++ W1 u) → va_S A s.heap H1 locs1 → W p l e R s m args below meth c H1 locs1 (cells + mc) (slots + ms) Q (F0 m (pc + 3) ls (.long r :: rest))) : W p l e R s m args below meth c H locs cells slots Q (F0 m pc ls st0) := by
  have hFc := va_free hD hS hA isC hC
  refine va_calll hr hS (fun q _ h => hFc q h) hFc (fun r u t H1 locs1 ht hvm hw hB hz1 hk1 hS1 => ?_)
  obtain ⟨hP1, hD1⟩ := hB
  rw [ht] at hP1
  obtain ⟨hP2, hD2⟩ := va_join hP hD isC isR hC hR hn hdis hk1 hFc hP1 hD1
  exact kk r u H1 locs1 hw hP2 hD2 hS1
theorem goV {S : Type} {post : S → Prop} {W1 : S → va_W} {mc ms : Nat} {a : Array Value} (hr : va_Run p l e R s m args below meth c H locs cells slots mc ms (F0 m pc ls st0) rest (qV D post W1 (va_A Wc H.size) a) (va_A Wc H.size)) (hP : va_P D vwCl ws H) (hD : va_D A ws) (hS : va_S A s.heap H locs) (hA : ∀ q, s.heap.size ≤ q → A q) (isC isR : List Nat) (hC : isC.map (fun i => ws[i]?) = Wc.map some) (hR : isR.map (fun i => ws[i]?) = wr.map some) (hn : va_nd isR = true) (hdis : ∀ i ∈ isR, i ∉ isC)
    (kk : ∀ (u : S) (H1 : Heap) (locs1 : List Loc), post u → va_P D vwCl (wr ++ W1 u) H1 → va_D A (wr ++ W1 u) → va_S A s.heap H1 locs1 → W p l e R s m args below meth c H1 locs1 (cells + mc) (slots + ms) Q (F0 m (pc + 3) ls rest)) : W p l e R s m args below meth c H locs cells slots Q (F0 m pc ls st0) := by
  have hFc := va_free hD hS hA isC hC
  refine va_callv hr hS (fun q _ h => hFc q h) hFc (fun u t H1 locs1 ht hvm hw hB hz1 hk1 hS1 => ?_)
  obtain ⟨hP1, hD1⟩ := hB
  rw [ht] at hP1
  obtain ⟨hP2, hD2⟩ := va_join hP hD isC isR hC hR hn hdis hk1 hFc hP1 hD1
  exact kk u H1 locs1 hw hP2 hD2 hS1
theorem restP (hP : va_P D vwCl ws H) (hD : va_D A ws) (isC isR : List Nat) (hC : isC.map (fun i => ws[i]?) = Wc.map some) (hR : isR.map (fun i => ws[i]?) = wr.map some) (hn : va_nd isR = true) (hdis : ∀ i ∈ isR, i ∉ isC) {H1 : Heap} (hk : ∀ q : Nat, q < H.size → ¬ va_A Wc H.size q → H1[q]? = H[q]?) (hF : ∀ q, va_A Wc H.size q → A q) : va_P D vwCl wr H1 ∧ va_D A wr := by
  obtain ⟨h1, h2⟩ := va_join (w1 := []) hP hD isC isR hC hR hn hdis hk hF (fun k q h => by simp at h) ⟨fun i j p q h => by simp at h, fun k q h => by simp at h⟩
  rw [List.append_nil] at h1 h2
  exact ⟨h1, h2⟩
theorem xgoI {S : Type} {post : Int32 → S → Prop} {W1 : S → va_W} {px : String → Prop} {mc ms : Nat} {a : Array Value} (hr : vx_Run p l e R s m args below meth c H locs cells slots mc ms (F0 m pc ls st0) rest (qI D post W1 (va_A Wc H.size) a) (qX px (va_A Wc H.size)) (va_A Wc H.size)) (hP : va_P D vwCl ws H) (hD : va_D A ws) (hS : va_S A s.heap H locs) (hA : ∀ q, s.heap.size ≤ q → A q) (isC isR : List Nat) (hC : isC.map (fun i => ws[i]?) = Wc.map some) (hR : isR.map (fun i => ws[i]?) = wr.map some) (hn : va_nd isR = true) (hdis : ∀ i ∈ isR, i ∉ isC)
    (kx : ∀ (E : String) (ce : Cell) (q9 : Addr) (H1 : Heap) (locs1 : List Loc), px E → va_P D vwCl wr H1 → va_D A wr → va_S A s.heap H1 locs1 → H1[q9]? = some ce → ce.vm = .none → s.vm.findClass E = some ce.cls → vx_W p l e R s m args below meth c H1 locs1 (cells + mc) (slots + ms) Q (F0 m pc ls rest) q9)
    (kk : ∀ (r : Int32) (u : S) (H1 : Heap) (locs1 : List Loc), post r u → va_P D vwCl (wr ++ W1 u) H1 → va_D A (wr ++ W1 u) → va_S A s.heap H1 locs1 → W p l e R s m args below meth c H1 locs1 (cells + mc) (slots + ms) Q (F0 m (pc + 3) ls (.int r :: rest))) : W p l e R s m args below meth c H locs cells slots Q (F0 m pc ls st0) := by
  have hFc := va_free hD hS hA isC hC
  refine vx_calli hr hS (fun q _ h => hFc q h) hFc (fun q _ h => hFc q h) (fun E ce q9 u t H1 locs1 ht hvm _ hE hz1 hk1 hS1 h1 h2 h3 => ?_) (fun r u t H1 locs1 ht hvm hw hB hz1 hk1 hS1 => ?_)
  · obtain ⟨hP2, hD2⟩ := restP hP hD isC isR hC hR hn hdis hk1 hFc
    exact kx E ce q9 H1 locs1 hE hP2 hD2 hS1 h1 h2 h3
  · obtain ⟨hP1, hD1⟩ := hB
    rw [ht] at hP1
    obtain ⟨hP2, hD2⟩ := va_join hP hD isC isR hC hR hn hdis hk1 hFc hP1 hD1
    exact kk r u H1 locs1 hw hP2 hD2 hS1
theorem xgoV {S : Type} {post : S → Prop} {W1 : S → va_W} {px : String → Prop} {mc ms : Nat} {a : Array Value} (hr : vx_Run p l e R s m args below meth c H locs cells slots mc ms (F0 m pc ls st0) rest (qV D post W1 (va_A Wc H.size) a) (qX px (va_A Wc H.size)) (va_A Wc H.size)) (hP : va_P D vwCl ws H) (hD : va_D A ws) (hS : va_S A s.heap H locs) (hA : ∀ q, s.heap.size ≤ q → A q) (isC isR : List Nat) (hC : isC.map (fun i => ws[i]?) = Wc.map some) (hR : isR.map (fun i => ws[i]?) = wr.map some) (hn : va_nd isR = true) (hdis : ∀ i ∈ isR, i ∉ isC)
    (kx : ∀ (E : String) (ce : Cell) (q9 : Addr) (H1 : Heap) (locs1 : List Loc), px E → va_P D vwCl wr H1 → va_D A wr → va_S A s.heap H1 locs1 → H1[q9]? = some ce → ce.vm = .none → s.vm.findClass E = some ce.cls → vx_W p l e R s m args below meth c H1 locs1 (cells + mc) (slots + ms) Q (F0 m pc ls rest) q9)
    (kk : ∀ (u : S) (H1 : Heap) (locs1 : List Loc), post u → va_P D vwCl (wr ++ W1 u) H1 → va_D A (wr ++ W1 u) → va_S A s.heap H1 locs1 → W p l e R s m args below meth c H1 locs1 (cells + mc) (slots + ms) Q (F0 m (pc + 3) ls rest)) : W p l e R s m args below meth c H locs cells slots Q (F0 m pc ls st0) := by
  have hFc := va_free hD hS hA isC hC
  refine vx_callv hr hS (fun q _ h => hFc q h) hFc (fun q _ h => hFc q h) (fun E ce q9 u t H1 locs1 ht hvm _ hE hz1 hk1 hS1 h1 h2 h3 => ?_) (fun u t H1 locs1 ht hvm hw hB hz1 hk1 hS1 => ?_)
  · obtain ⟨hP2, hD2⟩ := restP hP hD isC isR hC hR hn hdis hk1 hFc
    exact kx E ce q9 H1 locs1 hE hP2 hD2 hS1 h1 h2 h3
  · obtain ⟨hP1, hD1⟩ := hB
    rw [ht] at hP1
    obtain ⟨hP2, hD2⟩ := va_join hP hD isC isR hC hR hn hdis hk1 hFc hP1 hD1
    exact kk u H1 locs1 hw hP2 hD2 hS1
theorem xOut {Qc : Array Value → State → Outcome → State → Prop} {px : String → Prop} {E : String} {ce : Cell} {q9 : Addr} {mc ms : Nat} (hno : ∀ x ∈ c.exceptionTable.toList, False) (hlocks : meth.locks = false) (hE : px E) (hS : va_S A s.heap H locs) (h1 : H[q9]? = some ce) (h2 : ce.vm = .none) (h3 : s.vm.findClass E = some ce.cls) (hc : cells ≤ mc) (hs : slots ≤ ms) :
    vx_W p l e R s m args below meth c H locs cells slots (vx_MQ below Qc (qX px A) args s mc ms A) (F0 m pc ls rest) q9 :=
  vx_out (fun x hx => (hno x hx).elim) hlocks h1 h2 h3 (fun t ht _ => ⟨(), trivial, hE, hS.F ht⟩) hS.2.2 hc hs
theorem retI {S : Type} {post : Int32 → S → Prop} {W1 : S → va_W} {mc ms : Nat} {v : Int32} (F : CallFix p m c cc nL s args WS own) {ty : FieldType} (hr : meth.sig.returnType = some ty) (hlocks : meth.locks = false) (hnar : narrow ty (.int v) = .int v) (hP : va_P D vwCl ws H) (hD : va_D A ws) (hS : va_S A s.heap H locs) (u : S) (is : List Nat) (hn : va_nd is = true) (hi : is.map (fun i => ws[i]?) = (W1 u).map some) (hc : cells ≤ mc) (hs : slots ≤ ms) (hdg : decode cc pc = .ok (.ireturn, 1)) (hp : post v u) :
    W p l e R s m args below meth c H locs cells slots (MQ below (qI D post W1 A) args s mc ms A) (F0 m pc ls [.int v]) := by
  refine W.widen (k := mc) (n := ms) hc hs ?_
  refine W.zret (v := v) F.1 F.2.1 hr hnar (fun t ht hW => ⟨⟨v, u, rfl, hp, ?_, hD.sub is hn hi⟩, hS.F ht⟩) hS.2.2 hdg hlocks
  rw [ht]
  exact hP.sub is (by
    have h := congrArg (fun l => List.filterMap id l) hi
    simpa [List.filterMap_map, Function.comp_def] using h)
theorem retL {S : Type} {post : Int64 → S → Prop} {W1 : S → va_W} {mc ms : Nat} {v : Int64} (F : CallFix p m c cc nL s args WS own) (hr : meth.sig.returnType = some .long) (hlocks : meth.locks = false) (hP : va_P D vwCl ws H) (hD : va_D A ws) (hS : va_S A s.heap H locs) (u : S) (is : List Nat) (hn : va_nd is = true) (hi : is.map (fun i => ws[i]?) = (W1 u).map some) (hc : cells ≤ mc) (hs : slots ≤ ms) (hdg : decode cc pc = .ok (.lreturn, 1)) (hp : post v u) :
    W p l e R s m args below meth c H locs cells slots (MQ below (qL D post W1 A) args s mc ms A) (F0 m pc ls [.long v]) := by
  refine W.widen (k := mc) (n := ms) hc hs ?_
  refine W.lret (v := v) F.1 F.2.1 hr (fun t ht hW => ⟨⟨v, u, rfl, hp, ?_, hD.sub is hn hi⟩, hS.F ht⟩) hS.2.2 hdg hlocks
  rw [ht]
  exact hP.sub is (by
    have h := congrArg (fun l => List.filterMap id l) hi
    simpa [List.filterMap_map, Function.comp_def] using h)
theorem retV {S : Type} {post : S → Prop} {W1 : S → va_W} {mc ms : Nat} (F : CallFix p m c cc nL s args WS own) (hr : meth.sig.returnType = none) (hlocks : meth.locks = false) (hP : va_P D vwCl ws H) (hD : va_D A ws) (hS : va_S A s.heap H locs) (u : S) (is : List Nat) (hn : va_nd is = true) (hi : is.map (fun i => ws[i]?) = (W1 u).map some) (hc : cells ≤ mc) (hs : slots ≤ ms) (hdg : decode cc pc = .ok (.return_, 1)) (hp : post u) :
    W p l e R s m args below meth c H locs cells slots (MQ below (qV D post W1 A) args s mc ms A) (F0 m pc ls []) := by
  refine W.widen (k := mc) (n := ms) hc hs ?_
  refine W.vret F.1 F.2.1 hr (fun t ht hW => ⟨⟨u, rfl, hp, ?_, hD.sub is hn hi⟩, hS.F ht⟩) hS.2.2 hdg hlocks
  rw [ht]
  exact hP.sub is (by
    have h := congrArg (fun l => List.filterMap id l) hi
    simpa [List.filterMap_map, Function.comp_def] using h)
theorem dropW (hP : va_P D vwCl ws H) (hD : va_D A ws) (is : List Nat) (hn : va_nd is = true) (hi : is.map (fun i => ws[i]?) = wr.map some) : va_P D vwCl wr H ∧ va_D A wr :=
  ⟨hP.sub is (by
    have h := congrArg (fun l => List.filterMap id l) hi
    simpa [List.filterMap_map, Function.comp_def] using h), hD.sub is hn hi⟩
theorem nTop {C : String} {T : u_T} {N : Nat} {x : Nat} (hin : ∀ w ∈ u_ws C T N, w ∈ WS) (hx : x = x) : True := trivial
theorem oInit (F : CallFix p m c cc nL s args WS own) (h1 : Cond.methodLink own index objectInit ∈ WS) (h2 : Cond.instanceMethod objectInit ∈ WS) (h3 : Cond.code objectInit ⟨#[0xb1]⟩ 1 none ∈ WS) {a : Nat} (hsize : ls.size = nL) (hdg : decode cc pc = .ok (.invokespecial index, 3)) (hf : 1 ≤ R.frames) (hlo : (rest.map fun v => v.category).sum + 12 ≤ R.locals)
    (kk : W p l e R s m args below meth c H locs cells slots Q (F0 m (pc + 3) ls rest)) : W p l e R s m args below meth c H locs cells slots Q (F0 m pc ls (.ref a :: rest)) := by
  refine W.objInit F.1 F.2.1 F.2.2.2.1 (F.2.2.2.2 _ h1) (F.2.2.2.2 _ h2) (F.2.2.2.2 _ h3) rfl (by rw [F.2.2.1]; exact hsize) rfl hdg hf (by simpa [JFrame.monitorRoom] using hlo) ?_
  exact W.eq (g2 := F0 m (pc + 3) ls rest) rfl kk
end
section
variable {p : Program} {l : Launch} {e : Env} {R : Room} {s : State} {m : MethodId} {args : Array Value} {below : List Frame} {meth : Method} {c : Code} {H : Heap} {locs : List Loc} {cells slots : Nat} {Q : State → Prop}
variable {cc : ByteArray} {nL : Nat} {own : String} {D : va_G} {Y : Nat → ClassId} {A : Nat → Prop} {pc : Nat} {ls : Array Slot} {rest st0 : List Value} {index : Nat}
abbrev nmsE : List String := ["java/lang/RuntimeException", "java/lang/Exception"]
theorem hat_nse (F : CallFix p m c cc nL s args WS own) (hc : va_Nw (.castable nse nse) s) (hd : KD s) : ∀ w ∈ vx_atS RX9 289 nse nmsE, w.before args s = true :=
  vx_hat (B := [.castable nse nse, .declares (Bundle.initS "java/lang/RuntimeException"), .declares (Bundle.initS "java/lang/Exception"), .declares (Bundle.initS Bundle.tN)]) (fun w h => F.2.2.2.2 w (WS_e1 w h)) (by decide +kernel) (vx_c (va_Nw.use rfl hc) (vx_c (va_Nw.use rfl hd.1) (vx_c (va_Nw.use rfl hd.2.1) (vx_c (va_Nw.use rfl hd.2.2) vx_n))))
theorem hat_iae (F : CallFix p m c cc nL s args WS own) (hc : va_Nw (.castable iae iae) s) (hd : KD s) : ∀ w ∈ vx_atS RX9 296 iae nmsE, w.before args s = true :=
  vx_hat (B := [.castable iae iae, .declares (Bundle.initS "java/lang/RuntimeException"), .declares (Bundle.initS "java/lang/Exception"), .declares (Bundle.initS Bundle.tN)]) (fun w h => F.2.2.2.2 w (WS_e2 w h)) (by decide +kernel) (vx_c (va_Nw.use rfl hc) (vx_c (va_Nw.use rfl hd.1) (vx_c (va_Nw.use rfl hd.2.1) (vx_c (va_Nw.use rfl hd.2.2) vx_n))))
theorem hgo_nse : ∀ w ∈ Cond.classLink RX9 285 nse :: Cond.initialized nse :: vx_atS RX9 289 nse nmsE, vx_ot w = true := by decide +kernel
theorem hgo_iae : ∀ w ∈ Cond.classLink RX9 292 iae :: Cond.initialized iae :: vx_atS RX9 296 iae nmsE, vx_ot w = true := by decide +kernel
theorem xF {t : State} (hS : va_S A s.heap H locs) (h1 : H.size ≤ t.heap.size) (h2 : ∀ q : Nat, q < H.size → t.heap[q]? = H[q]?) : va_F A s t :=
  ⟨Nat.le_trans hS.1 h1, fun q hq hn => (h2 q (Nat.lt_of_lt_of_le hq hS.1)).trans (hS.2.1 q hq hn)⟩
theorem thrN {px : String → Prop} {Qc : Array Value → State → Outcome → State → Prop} {mc ms : Nat} (F : CallFix p m c cc nL s args WS RX9) (hfl : l.stackTraces = false) (hK : KV D Y s) (hZ : ZZ A s s.heap) (hS : va_S A s.heap H locs) (hno : ∀ x ∈ c.exceptionTable.toList, False) (hlocks : meth.locks = false) (hsize : ls.size = nL) (h1 : Cond.classLink RX9 285 nse ∈ WS) (h2 : Cond.initialized nse ∈ WS) (d0 : decode cc pc = .ok (.new 285, 3)) (d3 : decode cc (pc + 3) = .ok (.dup, 1)) (d4 : decode cc (pc + 4) = .ok (.ldc_w 287, 3)) (d7 : decode cc (pc + 7) = .ok (.invokespecial 289, 3)) (d10 : decode cc (pc + 10) = .ok (.athrow, 1)) (hE : px nse) (hRf : 5 < R.frames) (hRl : 82 ≤ R.locals) (hRc : cells + 1 ≤ R.cells) (hRs : slots + 6 ≤ R.slots) (hc : cells + 1 ≤ mc) (hs : slots + 6 ≤ ms) :
    W p l e R s m args below meth c H locs cells slots (vx_MQ below Qc (qX px A) args s mc ms A) (F0 m pc ls []) := by
  obtain ⟨sa, hstr⟩ := hK.2.1
  exact vx_throwSW (names := nmsE) F.1 F.2.1 hfl F.2.2.2.1 (by decide) (by decide) (F.2.2.2.2 _ h1) (F.2.2.2.2 _ h2) hstr (hat_nse F hK.2.2.2.2.2.1 hK.2.2.2.2.2.2.2.2) hgo_nse hZ.1 hZ.2 hS (by rw [F.2.2.1]; exact hsize) d0 d3 d4 d7 d10 (fun x hx => (hno x hx).elim) hRf hRl hRc hRs hlocks (fun t _ h1 h2 => ⟨(), trivial, hE, xF hS h1 h2⟩) hS.2.2 hc hs
theorem thrI {px : String → Prop} {Qc : Array Value → State → Outcome → State → Prop} {mc ms : Nat} (F : CallFix p m c cc nL s args WS RX9) (hfl : l.stackTraces = false) (hK : KV D Y s) (hZ : ZZ A s s.heap) (hS : va_S A s.heap H locs) (hno : ∀ x ∈ c.exceptionTable.toList, False) (hlocks : meth.locks = false) (hsize : ls.size = nL) (h1 : Cond.classLink RX9 292 iae ∈ WS) (h2 : Cond.initialized iae ∈ WS) (d0 : decode cc pc = .ok (.new 292, 3)) (d3 : decode cc (pc + 3) = .ok (.dup, 1)) (d4 : decode cc (pc + 4) = .ok (.ldc_w 294, 3)) (d7 : decode cc (pc + 7) = .ok (.invokespecial 296, 3)) (d10 : decode cc (pc + 10) = .ok (.athrow, 1)) (hE : px iae) (hRf : 5 < R.frames) (hRl : 82 ≤ R.locals) (hRc : cells + 1 ≤ R.cells) (hRs : slots + 6 ≤ R.slots) (hc : cells + 1 ≤ mc) (hs : slots + 6 ≤ ms) :
    W p l e R s m args below meth c H locs cells slots (vx_MQ below Qc (qX px A) args s mc ms A) (F0 m pc ls []) := by
  obtain ⟨sa, hstr⟩ := hK.2.2.1
  exact vx_throwSW (names := nmsE) F.1 F.2.1 hfl F.2.2.2.1 (by decide) (by decide) (F.2.2.2.2 _ h1) (F.2.2.2.2 _ h2) hstr (hat_iae F hK.2.2.2.2.2.2.1 hK.2.2.2.2.2.2.2.2) hgo_iae hZ.1 hZ.2 hS (by rw [F.2.2.1]; exact hsize) d0 d3 d4 d7 d10 (fun x hx => (hno x hx).elim) hRf hRl hRc hRs hlocks (fun t _ h1 h2 => ⟨(), trivial, hE, xF hS h1 h2⟩) hS.2.2 hc hs
end
theorem loopN {p : Program} {l : Launch} {e : Env} {R : Room} {s : State} {m : MethodId} {args : Array Value} {below : List Frame} {meth : Method} {c : Code} {H : Heap} {locs : List Loc} {cells slots : Nat} {Q : State → Prop} {ls : Array Slot} {X : Type} (N : Nat) (I : Nat → X → Heap → List Loc → Array Slot → Prop) (hd : Nat)
    (h0 : ∀ (x : X) (H : Heap) (locs : List Loc) (ls : Array Slot), I N x H locs ls → W p l e R s m args below meth c H locs cells slots Q (F0 m hd ls []))
    (hs : ∀ (i : Nat) (x : X) (H : Heap) (locs : List Loc) (ls : Array Slot), i < N → I i x H locs ls → (∀ (x' : X) (H' : Heap) (locs' : List Loc) (ls' : Array Slot), I (i + 1) x' H' locs' ls' → W p l e R s m args below meth c H' locs' cells slots Q (F0 m hd ls' [])) → W p l e R s m args below meth c H locs cells slots Q (F0 m hd ls []))
    (i : Nat) (x : X) (hi : i ≤ N) (hI : I i x H locs ls) : W p l e R s m args below meth c H locs cells slots Q (F0 m hd ls []) := by
  have key : ∀ (k i : Nat) (x : X) (H : Heap) (locs : List Loc) (ls : Array Slot), i + k = N → I i x H locs ls → W p l e R s m args below meth c H locs cells slots Q (F0 m hd ls []) := by
    intro k
    induction k with
    | zero =>
      intro i x H locs ls hk hI
      have : i = N := by omega
      subst this
      exact h0 x H locs ls hI
    | succ k ih =>
      intro i x H locs ls hk hI
      exact hs i x H locs ls (by omega) hI (fun x' H' locs' ls' hI' => ih (i + 1) x' H' locs' ls' (by omega) hI')
  exact key (N - i) i x H locs ls (by omega) hI
end
section
theorem updL0 (k : Nat) : vp_updL (fun _ => 0) k 0 = (fun _ => 0) := by
  funext j
  unfold vp_updL
  split <;> rfl
theorem updB0 (k : Nat) : upd (fun _ => 0) k (vp_nar .boolean 0) = (fun _ => 0) := by
  funext j
  unfold upd
  split <;> rfl
end
section
theorem dJ7_fill_53178_0 : decode cJ7_fill_53178 0 = .ok (.iconst 0, 1) := by decide +kernel
theorem dJ7_fill_53178_1 : decode cJ7_fill_53178 1 = .ok (.istore_n 2, 1) := by decide +kernel
theorem dJ7_fill_53178_2 : decode cJ7_fill_53178 2 = .ok (.aload_n 0, 1) := by decide +kernel
theorem dJ7_fill_53178_3 : decode cJ7_fill_53178 3 = .ok (.arraylength, 1) := by decide +kernel
theorem dJ7_fill_53178_4 : decode cJ7_fill_53178 4 = .ok (.istore_n 3, 1) := by decide +kernel
theorem dJ7_fill_53178_5 : decode cJ7_fill_53178 5 = .ok (.iload_n 2, 1) := by decide +kernel
theorem dJ7_fill_53178_6 : decode cJ7_fill_53178 6 = .ok (.iload_n 3, 1) := by decide +kernel
theorem dJ7_fill_53178_7 : decode cJ7_fill_53178 7 = .ok (.if_icmp .ge 13, 3) := by decide +kernel
theorem dJ7_fill_53178_10 : decode cJ7_fill_53178 10 = .ok (.aload_n 0, 1) := by decide +kernel
theorem dJ7_fill_53178_11 : decode cJ7_fill_53178 11 = .ok (.iload_n 2, 1) := by decide +kernel
theorem dJ7_fill_53178_12 : decode cJ7_fill_53178 12 = .ok (.iload_n 1, 1) := by decide +kernel
theorem dJ7_fill_53178_13 : decode cJ7_fill_53178 13 = .ok (.iastore, 1) := by decide +kernel
theorem dJ7_fill_53178_14 : decode cJ7_fill_53178 14 = .ok (.iinc 2 1, 3) := by decide +kernel
theorem dJ7_fill_53178_17 : decode cJ7_fill_53178 17 = .ok (.goto (-12), 3) := by decide +kernel
theorem dJ7_fill_53178_20 : decode cJ7_fill_53178 20 = .ok (.return_, 1) := by decide +kernel
theorem dJ7_fill_d0a16_0 : decode cJ7_fill_d0a16 0 = .ok (.iconst 0, 1) := by decide +kernel
theorem dJ7_fill_d0a16_1 : decode cJ7_fill_d0a16 1 = .ok (.istore_n 3, 1) := by decide +kernel
theorem dJ7_fill_d0a16_2 : decode cJ7_fill_d0a16 2 = .ok (.aload_n 0, 1) := by decide +kernel
theorem dJ7_fill_d0a16_3 : decode cJ7_fill_d0a16 3 = .ok (.arraylength, 1) := by decide +kernel
theorem dJ7_fill_d0a16_4 : decode cJ7_fill_d0a16 4 = .ok (.istore 4, 2) := by decide +kernel
theorem dJ7_fill_d0a16_6 : decode cJ7_fill_d0a16 6 = .ok (.iload_n 3, 1) := by decide +kernel
theorem dJ7_fill_d0a16_7 : decode cJ7_fill_d0a16 7 = .ok (.iload 4, 2) := by decide +kernel
theorem dJ7_fill_d0a16_9 : decode cJ7_fill_d0a16 9 = .ok (.if_icmp .ge 13, 3) := by decide +kernel
theorem dJ7_fill_d0a16_12 : decode cJ7_fill_d0a16 12 = .ok (.aload_n 0, 1) := by decide +kernel
theorem dJ7_fill_d0a16_13 : decode cJ7_fill_d0a16 13 = .ok (.iload_n 3, 1) := by decide +kernel
theorem dJ7_fill_d0a16_14 : decode cJ7_fill_d0a16 14 = .ok (.lload_n 1, 1) := by decide +kernel
theorem dJ7_fill_d0a16_15 : decode cJ7_fill_d0a16 15 = .ok (.lastore, 1) := by decide +kernel
theorem dJ7_fill_d0a16_16 : decode cJ7_fill_d0a16 16 = .ok (.iinc 3 1, 3) := by decide +kernel
theorem dJ7_fill_d0a16_19 : decode cJ7_fill_d0a16 19 = .ok (.goto (-13), 3) := by decide +kernel
theorem dJ7_fill_d0a16_22 : decode cJ7_fill_d0a16 22 = .ok (.return_, 1) := by decide +kernel
theorem dJ13_bitCount_95d88_0 : decode cJ13_bitCount_95d88 0 = .ok (.lload_n 0, 1) := by decide +kernel
theorem dJ13_bitCount_95d88_1 : decode cJ13_bitCount_95d88 1 = .ok (.lload_n 0, 1) := by decide +kernel
theorem dJ13_bitCount_95d88_2 : decode cJ13_bitCount_95d88 2 = .ok (.iconst 1, 1) := by decide +kernel
theorem dJ13_bitCount_95d88_3 : decode cJ13_bitCount_95d88 3 = .ok (.lushr, 1) := by decide +kernel
theorem dJ13_bitCount_95d88_4 : decode cJ13_bitCount_95d88 4 = .ok (.ldc2_w 314, 3) := by decide +kernel
theorem dJ13_bitCount_95d88_7 : decode cJ13_bitCount_95d88 7 = .ok (.land, 1) := by decide +kernel
theorem dJ13_bitCount_95d88_8 : decode cJ13_bitCount_95d88 8 = .ok (.lsub, 1) := by decide +kernel
theorem dJ13_bitCount_95d88_9 : decode cJ13_bitCount_95d88 9 = .ok (.lstore_n 0, 1) := by decide +kernel
theorem dJ13_bitCount_95d88_10 : decode cJ13_bitCount_95d88 10 = .ok (.lload_n 0, 1) := by decide +kernel
theorem dJ13_bitCount_95d88_11 : decode cJ13_bitCount_95d88 11 = .ok (.ldc2_w 316, 3) := by decide +kernel
theorem dJ13_bitCount_95d88_14 : decode cJ13_bitCount_95d88 14 = .ok (.land, 1) := by decide +kernel
theorem dJ13_bitCount_95d88_15 : decode cJ13_bitCount_95d88 15 = .ok (.lload_n 0, 1) := by decide +kernel
theorem dJ13_bitCount_95d88_16 : decode cJ13_bitCount_95d88 16 = .ok (.iconst 2, 1) := by decide +kernel
theorem dJ13_bitCount_95d88_17 : decode cJ13_bitCount_95d88 17 = .ok (.lushr, 1) := by decide +kernel
theorem dJ13_bitCount_95d88_18 : decode cJ13_bitCount_95d88 18 = .ok (.ldc2_w 316, 3) := by decide +kernel
theorem dJ13_bitCount_95d88_21 : decode cJ13_bitCount_95d88 21 = .ok (.land, 1) := by decide +kernel
theorem dJ13_bitCount_95d88_22 : decode cJ13_bitCount_95d88 22 = .ok (.ladd, 1) := by decide +kernel
theorem dJ13_bitCount_95d88_23 : decode cJ13_bitCount_95d88 23 = .ok (.lstore_n 0, 1) := by decide +kernel
theorem dJ13_bitCount_95d88_24 : decode cJ13_bitCount_95d88 24 = .ok (.lload_n 0, 1) := by decide +kernel
theorem dJ13_bitCount_95d88_25 : decode cJ13_bitCount_95d88 25 = .ok (.lload_n 0, 1) := by decide +kernel
theorem dJ13_bitCount_95d88_26 : decode cJ13_bitCount_95d88 26 = .ok (.iconst 4, 1) := by decide +kernel
theorem dJ13_bitCount_95d88_27 : decode cJ13_bitCount_95d88 27 = .ok (.lushr, 1) := by decide +kernel
theorem dJ13_bitCount_95d88_28 : decode cJ13_bitCount_95d88 28 = .ok (.ladd, 1) := by decide +kernel
theorem dJ13_bitCount_95d88_29 : decode cJ13_bitCount_95d88 29 = .ok (.ldc2_w 318, 3) := by decide +kernel
theorem dJ13_bitCount_95d88_32 : decode cJ13_bitCount_95d88 32 = .ok (.land, 1) := by decide +kernel
theorem dJ13_bitCount_95d88_33 : decode cJ13_bitCount_95d88 33 = .ok (.lstore_n 0, 1) := by decide +kernel
theorem dJ13_bitCount_95d88_34 : decode cJ13_bitCount_95d88 34 = .ok (.lload_n 0, 1) := by decide +kernel
theorem dJ13_bitCount_95d88_35 : decode cJ13_bitCount_95d88 35 = .ok (.lload_n 0, 1) := by decide +kernel
theorem dJ13_bitCount_95d88_36 : decode cJ13_bitCount_95d88 36 = .ok (.bipush 8, 2) := by decide +kernel
theorem dJ13_bitCount_95d88_38 : decode cJ13_bitCount_95d88 38 = .ok (.lushr, 1) := by decide +kernel
theorem dJ13_bitCount_95d88_39 : decode cJ13_bitCount_95d88 39 = .ok (.ladd, 1) := by decide +kernel
theorem dJ13_bitCount_95d88_40 : decode cJ13_bitCount_95d88 40 = .ok (.lstore_n 0, 1) := by decide +kernel
theorem dJ13_bitCount_95d88_41 : decode cJ13_bitCount_95d88 41 = .ok (.lload_n 0, 1) := by decide +kernel
theorem dJ13_bitCount_95d88_42 : decode cJ13_bitCount_95d88 42 = .ok (.lload_n 0, 1) := by decide +kernel
theorem dJ13_bitCount_95d88_43 : decode cJ13_bitCount_95d88 43 = .ok (.bipush 16, 2) := by decide +kernel
theorem dJ13_bitCount_95d88_45 : decode cJ13_bitCount_95d88 45 = .ok (.lushr, 1) := by decide +kernel
theorem dJ13_bitCount_95d88_46 : decode cJ13_bitCount_95d88 46 = .ok (.ladd, 1) := by decide +kernel
theorem dJ13_bitCount_95d88_47 : decode cJ13_bitCount_95d88 47 = .ok (.lstore_n 0, 1) := by decide +kernel
theorem dJ13_bitCount_95d88_48 : decode cJ13_bitCount_95d88 48 = .ok (.lload_n 0, 1) := by decide +kernel
theorem dJ13_bitCount_95d88_49 : decode cJ13_bitCount_95d88 49 = .ok (.lload_n 0, 1) := by decide +kernel
theorem dJ13_bitCount_95d88_50 : decode cJ13_bitCount_95d88 50 = .ok (.bipush 32, 2) := by decide +kernel
theorem dJ13_bitCount_95d88_52 : decode cJ13_bitCount_95d88 52 = .ok (.lushr, 1) := by decide +kernel
theorem dJ13_bitCount_95d88_53 : decode cJ13_bitCount_95d88 53 = .ok (.ladd, 1) := by decide +kernel
theorem dJ13_bitCount_95d88_54 : decode cJ13_bitCount_95d88 54 = .ok (.lstore_n 0, 1) := by decide +kernel
theorem dJ13_bitCount_95d88_55 : decode cJ13_bitCount_95d88 55 = .ok (.lload_n 0, 1) := by decide +kernel
theorem dJ13_bitCount_95d88_56 : decode cJ13_bitCount_95d88 56 = .ok (.l2i, 1) := by decide +kernel
theorem dJ13_bitCount_95d88_57 : decode cJ13_bitCount_95d88 57 = .ok (.bipush 127, 2) := by decide +kernel
theorem dJ13_bitCount_95d88_59 : decode cJ13_bitCount_95d88 59 = .ok (.iand, 1) := by decide +kernel
theorem dJ13_bitCount_95d88_60 : decode cJ13_bitCount_95d88 60 = .ok (.ireturn, 1) := by decide +kernel
theorem dX9_putBytes_0 : decode cX9_putBytes 0 = .ok (.bipush 24, 2) := by decide +kernel
theorem dX9_putBytes_2 : decode cX9_putBytes 2 = .ok (.istore_n 2, 1) := by decide +kernel
theorem dX9_putBytes_3 : decode cX9_putBytes 3 = .ok (.iload_n 2, 1) := by decide +kernel
theorem dX9_putBytes_4 : decode cX9_putBytes 4 = .ok (.ifCond .lt 45, 3) := by decide +kernel
theorem dX9_putBytes_7 : decode cX9_putBytes 7 = .ok (.aload_n 0, 1) := by decide +kernel
theorem dX9_putBytes_8 : decode cX9_putBytes 8 = .ok (.getfield 55, 3) := by decide +kernel
theorem dX9_putBytes_11 : decode cX9_putBytes 11 = .ok (.sipush 400, 3) := by decide +kernel
theorem dX9_putBytes_14 : decode cX9_putBytes 14 = .ok (.if_icmp .ge 35, 3) := by decide +kernel
theorem dX9_putBytes_17 : decode cX9_putBytes 17 = .ok (.aload_n 0, 1) := by decide +kernel
theorem dX9_putBytes_18 : decode cX9_putBytes 18 = .ok (.getfield 9, 3) := by decide +kernel
theorem dX9_putBytes_21 : decode cX9_putBytes 21 = .ok (.aload_n 0, 1) := by decide +kernel
theorem dX9_putBytes_22 : decode cX9_putBytes 22 = .ok (.getfield 55, 3) := by decide +kernel
theorem dX9_putBytes_25 : decode cX9_putBytes 25 = .ok (.iload_n 1, 1) := by decide +kernel
theorem dX9_putBytes_26 : decode cX9_putBytes 26 = .ok (.iload_n 2, 1) := by decide +kernel
theorem dX9_putBytes_27 : decode cX9_putBytes 27 = .ok (.ishr, 1) := by decide +kernel
theorem dX9_putBytes_28 : decode cX9_putBytes 28 = .ok (.sipush 255, 3) := by decide +kernel
theorem dX9_putBytes_31 : decode cX9_putBytes 31 = .ok (.iand, 1) := by decide +kernel
theorem dX9_putBytes_32 : decode cX9_putBytes 32 = .ok (.iastore, 1) := by decide +kernel
theorem dX9_putBytes_33 : decode cX9_putBytes 33 = .ok (.aload_n 0, 1) := by decide +kernel
theorem dX9_putBytes_34 : decode cX9_putBytes 34 = .ok (.dup, 1) := by decide +kernel
theorem dX9_putBytes_35 : decode cX9_putBytes 35 = .ok (.getfield 55, 3) := by decide +kernel
theorem dX9_putBytes_38 : decode cX9_putBytes 38 = .ok (.iconst 1, 1) := by decide +kernel
theorem dX9_putBytes_39 : decode cX9_putBytes 39 = .ok (.iadd, 1) := by decide +kernel
theorem dX9_putBytes_40 : decode cX9_putBytes 40 = .ok (.putfield 55, 3) := by decide +kernel
theorem dX9_putBytes_43 : decode cX9_putBytes 43 = .ok (.iinc 2 (-8), 3) := by decide +kernel
theorem dX9_putBytes_46 : decode cX9_putBytes 46 = .ok (.goto (-43), 3) := by decide +kernel
theorem dX9_putBytes_49 : decode cX9_putBytes 49 = .ok (.return_, 1) := by decide +kernel
theorem dX9_feed_0 : decode cX9_feed 0 = .ok (.aload_n 0, 1) := by decide +kernel
theorem dX9_feed_1 : decode cX9_feed 1 = .ok (.getfield 55, 3) := by decide +kernel
theorem dX9_feed_4 : decode cX9_feed 4 = .ok (.bipush 20, 2) := by decide +kernel
theorem dX9_feed_6 : decode cX9_feed 6 = .ok (.iadd, 1) := by decide +kernel
theorem dX9_feed_7 : decode cX9_feed 7 = .ok (.sipush 400, 3) := by decide +kernel
theorem dX9_feed_10 : decode cX9_feed 10 = .ok (.if_icmp .le 5, 3) := by decide +kernel
theorem dX9_feed_15 : decode cX9_feed 15 = .ok (.aload_n 0, 1) := by decide +kernel
theorem dX9_feed_16 : decode cX9_feed 16 = .ok (.iload_n 1, 1) := by decide +kernel
theorem dX9_feed_17 : decode cX9_feed 17 = .ok (.invokevirtual 58, 3) := by decide +kernel
theorem dX9_feed_20 : decode cX9_feed 20 = .ok (.aload_n 0, 1) := by decide +kernel
theorem dX9_feed_21 : decode cX9_feed 21 = .ok (.iload_n 2, 1) := by decide +kernel
theorem dX9_feed_22 : decode cX9_feed 22 = .ok (.invokevirtual 58, 3) := by decide +kernel
theorem dX9_feed_25 : decode cX9_feed 25 = .ok (.aload_n 0, 1) := by decide +kernel
theorem dX9_feed_26 : decode cX9_feed 26 = .ok (.iload_n 3, 1) := by decide +kernel
theorem dX9_feed_27 : decode cX9_feed 27 = .ok (.invokevirtual 58, 3) := by decide +kernel
theorem dX9_feed_30 : decode cX9_feed 30 = .ok (.aload_n 0, 1) := by decide +kernel
theorem dX9_feed_31 : decode cX9_feed 31 = .ok (.iload 4, 2) := by decide +kernel
theorem dX9_feed_33 : decode cX9_feed 33 = .ok (.invokevirtual 58, 3) := by decide +kernel
theorem dX9_feed_36 : decode cX9_feed 36 = .ok (.aload_n 0, 1) := by decide +kernel
theorem dX9_feed_37 : decode cX9_feed 37 = .ok (.iload 5, 2) := by decide +kernel
theorem dX9_feed_39 : decode cX9_feed 39 = .ok (.invokevirtual 58, 3) := by decide +kernel
theorem dX9_feed_42 : decode cX9_feed 42 = .ok (.aload_n 0, 1) := by decide +kernel
theorem dX9_feed_43 : decode cX9_feed 43 = .ok (.getfield 55, 3) := by decide +kernel
theorem dX9_feed_46 : decode cX9_feed 46 = .ok (.ireturn, 1) := by decide +kernel
theorem dX9_fault_0 : decode cX9_fault 0 = .ok (.aload_n 0, 1) := by decide +kernel
theorem dX9_fault_1 : decode cX9_fault 1 = .ok (.getfield 13, 3) := by decide +kernel
theorem dX9_fault_4 : decode cX9_fault 4 = .ok (.ireturn, 1) := by decide +kernel
set_option maxRecDepth 100000 in
set_option maxHeartbeats 4000000 in
theorem c_fillI (l : Launch) (D : va_G) (Y : Nat → ClassId) (a : Nat) (v : Int32) (n : Nat) (f : Nat → Int32)  (hn : n < 2 ^ 31) : cM l D Y yJ7_fill_53178 cJ7_fill_53178 4 none 1 0 0 [.ref a, .int v] [(a, .inl (Y 0, n, .inl f))] (qV D (fun (u : Nat → Int32) => True) (fun (u : Nat → Int32) => [(a, .inl (Y 0, n, .inl u))])) := by
  refine cM.mk RJ7 rfl (by decide) (Nat.le_of_ble_eq_true rfl) ?_
  intro p e s m below meth c A F hr hlocks hin hK hZ hP hD hA hS ls hl
  have hx := F.1
  have hb := F.2.1
  have hl : lv_has ls 4 [(0, .ref a), (1, .int v)] := hl
  refine lv_iconst (v := 0) hx hb dJ7_fill_53178_0 (by decide) ?_
  refine lv_istore_n (lv' := [(2, .int 0), (0, .ref a), (1, .int v)]) hx hb dJ7_fill_53178_1 rfl hl (by decide) rfl (fun ls hl => ?_)
  refine lv_aload_n hx hb dJ7_fill_53178_2 rfl (lv_at hl 1 rfl) ?_
  refine va_alen (v := (nI n)) hx hb hK.1 hP 0 0 rfl rfl rfl dJ7_fill_53178_3 ?_
  refine lv_istore_n (lv' := [(3, .int (nI n)), (2, .int 0), (0, .ref a), (1, .int v)]) hx hb dJ7_fill_53178_4 rfl hl (by decide) rfl (fun ls hl => ?_)
  refine loopN (X := Nat → Int32) n (fun i x H locs ls => va_P D vwCl [(a, .inl (Y 0, n, .inl x))] H ∧ va_D A [(a, .inl (Y 0, n, .inl x))] ∧ va_S A s.heap H locs ∧ lv_has ls 4 [(0, .ref a), (1, .int v), (2, .int (nI i)), (3, .int (nI n))]) 5 ?_ ?_ 0 f (by omega) ⟨hP, hD, hS, lv_sub hl [2, 3, 1, 0] rfl⟩
  · rintro g H locs ls ⟨hP, hD, hS, hl⟩
    have hP : va_P D vwCl [(a, .inl (Y 0, n, .inl g))] H := hP
    have hD : va_D A [(a, .inl (Y 0, n, .inl g))] := hD
    have hl : lv_has ls 4 [(0, .ref a), (1, .int v), (2, .int (nI n)), (3, .int (nI n))] := hl
    refine lv_iload_n hx hb dJ7_fill_53178_5 rfl (lv_at hl 2 rfl) ?_
    refine lv_iload_n hx hb dJ7_fill_53178_6 rfl (lv_at hl 3 rfl) ?_
    refine lv_icmp_ge (tgt := 20) hx hb dJ7_fill_53178_7 (by decide) (fun _ => ?_) (fun c9 => absurd (nI_le (Nat.le_refl n) hn) c9)
    exact retV F hr hlocks hP hD hS g [0] rfl rfl (Nat.le_of_ble_eq_true rfl) (Nat.le_of_ble_eq_true rfl) dJ7_fill_53178_20 trivial
  · rintro i g H locs ls hi ⟨hP, hD, hS, hl⟩ ih
    have hP : va_P D vwCl [(a, .inl (Y 0, n, .inl g))] H := hP
    have hD : va_D A [(a, .inl (Y 0, n, .inl g))] := hD
    refine lv_iload_n hx hb dJ7_fill_53178_5 rfl (lv_at hl 2 rfl) ?_
    refine lv_iload_n hx hb dJ7_fill_53178_6 rfl (lv_at hl 3 rfl) ?_
    refine lv_icmp_ge (tgt := 20) hx hb dJ7_fill_53178_7 (by decide) (fun c9 => absurd c9 (nI_ge hi hn)) (fun _ => ?_)
    refine lv_aload_n hx hb dJ7_fill_53178_10 rfl (lv_at hl 0 rfl) ?_
    refine lv_iload_n hx hb dJ7_fill_53178_11 rfl (lv_at hl 2 rfl) ?_
    refine lv_iload_n hx hb dJ7_fill_53178_12 rfl (lv_at hl 1 rfl) ?_
    refine va_iast hx hb hK.1 hP hD hS 0 0 rfl rfl (vp_in_nI hi hn) dJ7_fill_53178_13 (fun H locs hP hD hS => ?_)
    have hP : va_P D vwCl [(a, .inl (Y 0, n, .inl (upd g (nI i).toNatClampNeg v)))] H := hP
    have hD : va_D A [(a, .inl (Y 0, n, .inl (upd g (nI i).toNatClampNeg v)))] := hD
    generalize (upd g (nI i).toNatClampNeg v) = f_1 at hP hD
    refine lv_iinc (v := (nI (i + 1))) (lv' := [(2, .int (nI (i + 1))), (0, .ref a), (1, .int v), (3, .int (nI n))]) hx hb dJ7_fill_53178_14 hl (k := 2) rfl (nI_1 i) (by decide) rfl (fun ls hl => ?_)
    refine lv_goto (tgt := 5) hx hb dJ7_fill_53178_17 (by decide) ?_
    exact ih f_1 _ _ _ ⟨hP, hD, hS, lv_sub hl [1, 2, 0, 3] rfl⟩
set_option maxRecDepth 100000 in
set_option maxHeartbeats 4000000 in
theorem c_fillL (l : Launch) (D : va_G) (Y : Nat → ClassId) (a : Nat)   : cM l D Y yJ7_fill_d0a16 cJ7_fill_d0a16 5 none 1 0 0 [.ref a, .long 0] [(a, .inl (Y 1, 10, .inr (.inl (fun _ => 0))))] (qV D (fun (u : Unit) => True) (fun (u : Unit) => [(a, .inl (Y 1, 10, .inr (.inl (fun _ => 0))))])) := by
  refine cM.mk RJ7 rfl (by decide) (Nat.le_of_ble_eq_true rfl) ?_
  intro p e s m below meth c A F hr hlocks hin hK hZ hP hD hA hS ls hl
  have hx := F.1
  have hb := F.2.1
  have hl : lv_has ls 5 [(0, .ref a), (1, .long 0)] := hl
  refine lv_iconst (v := 0) hx hb dJ7_fill_d0a16_0 (by decide) ?_
  refine lv_istore_n (lv' := [(3, .int 0), (0, .ref a), (1, .long 0)]) hx hb dJ7_fill_d0a16_1 rfl hl (by decide) rfl (fun ls hl => ?_)
  refine lv_aload_n hx hb dJ7_fill_d0a16_2 rfl (lv_at hl 1 rfl) ?_
  refine va_alen (v := 10) hx hb hK.1 hP 0 1 rfl rfl (by decide) dJ7_fill_d0a16_3 ?_
  refine lv_istore (lv' := [(4, .int 10), (3, .int 0), (0, .ref a), (1, .long 0)]) hx hb dJ7_fill_d0a16_4 hl (by decide) rfl (fun ls hl => ?_)
  refine loopN (X := Unit) 10 (fun i x H locs ls => va_P D vwCl [(a, .inl (Y 1, 10, .inr (.inl (fun _ => 0))))] H ∧ va_D A [(a, .inl (Y 1, 10, .inr (.inl (fun _ => 0))))] ∧ va_S A s.heap H locs ∧ lv_has ls 5 [(0, .ref a), (1, .long 0), (3, .int (nI i)), (4, .int 10)]) 6 ?_ ?_ 0 () (by omega) ⟨hP, hD, hS, lv_sub hl [2, 3, 1, 0] rfl⟩
  · rintro _ H locs ls ⟨hP, hD, hS, hl⟩
    have hP : va_P D vwCl [(a, .inl (Y 1, 10, .inr (.inl (fun _ => 0))))] H := hP
    have hD : va_D A [(a, .inl (Y 1, 10, .inr (.inl (fun _ => 0))))] := hD
    have hl : lv_has ls 5 [(0, .ref a), (1, .long 0), (3, .int 10), (4, .int 10)] := hl
    refine lv_iload_n hx hb dJ7_fill_d0a16_6 rfl (lv_at hl 2 rfl) ?_
    refine lv_iload hx hb dJ7_fill_d0a16_7 (lv_at hl 3 rfl) ?_
    refine lv_icmp_ge (tgt := 22) hx hb dJ7_fill_d0a16_9 (by decide) (fun _ => ?_) (fun c9 => absurd (by decide) c9)
    exact retV F hr hlocks hP hD hS () [0] rfl rfl (Nat.le_of_ble_eq_true rfl) (Nat.le_of_ble_eq_true rfl) dJ7_fill_d0a16_22 trivial
  · rintro i _ H locs ls hi ⟨hP, hD, hS, hl⟩ ih
    have hP : va_P D vwCl [(a, .inl (Y 1, 10, .inr (.inl (fun _ => 0))))] H := hP
    have hD : va_D A [(a, .inl (Y 1, 10, .inr (.inl (fun _ => 0))))] := hD
    refine lv_iload_n hx hb dJ7_fill_d0a16_6 rfl (lv_at hl 2 rfl) ?_
    refine lv_iload hx hb dJ7_fill_d0a16_7 (lv_at hl 3 rfl) ?_
    refine lv_icmp_ge (tgt := 22) hx hb dJ7_fill_d0a16_9 (by decide) (fun c9 => absurd c9 (nI_ge (b := 10) hi (by decide))) (fun _ => ?_)
    refine lv_aload_n hx hb dJ7_fill_d0a16_12 rfl (lv_at hl 0 rfl) ?_
    refine lv_iload_n hx hb dJ7_fill_d0a16_13 rfl (lv_at hl 2 rfl) ?_
    refine lv_lload_n hx hb dJ7_fill_d0a16_14 rfl (lv_at hl 1 rfl) ?_
    refine va_last hx hb hK.1 hP hD hS 0 1 rfl rfl (vp_in_nI hi (by decide)) dJ7_fill_d0a16_15 (fun H locs hP hD hS => ?_)
    have hP : va_P D vwCl [(a, .inl (Y 1, 10, .inr (.inl (vp_updL (fun _ => 0) (nI i).toNatClampNeg 0))))] H := hP
    have hD : va_D A [(a, .inl (Y 1, 10, .inr (.inl (vp_updL (fun _ => 0) (nI i).toNatClampNeg 0))))] := hD
    have e_f : (vp_updL (fun _ => 0) (nI i).toNatClampNeg 0) = (fun _ => 0) := updL0 _
    rw [e_f] at hP hD
    clear e_f
    refine lv_iinc (v := (nI (i + 1))) (lv' := [(3, .int (nI (i + 1))), (0, .ref a), (1, .long 0), (4, .int 10)]) hx hb dJ7_fill_d0a16_16 hl (k := 2) rfl (nI_1 i) (by decide) rfl (fun ls hl => ?_)
    refine lv_goto (tgt := 6) hx hb dJ7_fill_d0a16_19 (by decide) ?_
    exact ih () _ _ _ ⟨hP, hD, hS, lv_sub hl [1, 2, 0, 3] rfl⟩
set_option maxRecDepth 100000 in
set_option maxHeartbeats 4000000 in
theorem c_bit0 (l : Launch) (D : va_G) (Y : Nat → ClassId)    : cM l D Y yJ13_bitCount_95d88 cJ13_bitCount_95d88 2 (some .int) 1 0 0 [.long 0] [] (qI D (fun (r : Int32) (u : Unit) => r = 0) (fun (u : Unit) => [])) := by
  refine cM.mk RJ13 rfl (by decide) (Nat.le_of_ble_eq_true rfl) ?_
  intro p e s m below meth c A F hr hlocks hin hK hZ hP hD hA hS ls hl
  have hx := F.1
  have hb := F.2.1
  have hl : lv_has ls 2 [(0, .long 0)] := hl
  refine lv_lload_n hx hb dJ13_bitCount_95d88_0 rfl (lv_at hl 0 rfl) ?_
  refine lv_lload_n hx hb dJ13_bitCount_95d88_1 rfl (lv_at hl 0 rfl) ?_
  refine lv_iconst (v := 1) hx hb dJ13_bitCount_95d88_2 (by decide) ?_
  refine lv_lushr (v := 0) hx hb dJ13_bitCount_95d88_3 (by decide) ?_
  refine lv_ldc2 hx hb F.2.2.2.1 (F.2.2.2.2 _ m_0) dJ13_bitCount_95d88_4 ?_
  refine lv_land hx hb dJ13_bitCount_95d88_7 ?_
  refine lv_tol (v := 0) (by decide) ?_
  refine lv_lsub hx hb dJ13_bitCount_95d88_8 ?_
  refine lv_tol (v := 0) (by decide) ?_
  refine lv_lstore_n (lv' := [(0, .long 0)]) hx hb dJ13_bitCount_95d88_9 rfl hl (by decide) rfl (fun ls hl => ?_)
  refine lv_lload_n hx hb dJ13_bitCount_95d88_10 rfl (lv_at hl 0 rfl) ?_
  refine lv_ldc2 hx hb F.2.2.2.1 (F.2.2.2.2 _ m_1) dJ13_bitCount_95d88_11 ?_
  refine lv_land hx hb dJ13_bitCount_95d88_14 ?_
  refine lv_tol (v := 0) (by decide) ?_
  refine lv_lload_n hx hb dJ13_bitCount_95d88_15 rfl (lv_at hl 0 rfl) ?_
  refine lv_iconst (v := 2) hx hb dJ13_bitCount_95d88_16 (by decide) ?_
  refine lv_lushr (v := 0) hx hb dJ13_bitCount_95d88_17 (by decide) ?_
  refine lv_ldc2 hx hb F.2.2.2.1 (F.2.2.2.2 _ m_1) dJ13_bitCount_95d88_18 ?_
  refine lv_land hx hb dJ13_bitCount_95d88_21 ?_
  refine lv_tol (v := 0) (by decide) ?_
  refine lv_ladd hx hb dJ13_bitCount_95d88_22 ?_
  refine lv_tol (v := 0) (by decide) ?_
  refine lv_lstore_n (lv' := [(0, .long 0)]) hx hb dJ13_bitCount_95d88_23 rfl hl (by decide) rfl (fun ls hl => ?_)
  refine lv_lload_n hx hb dJ13_bitCount_95d88_24 rfl (lv_at hl 0 rfl) ?_
  refine lv_lload_n hx hb dJ13_bitCount_95d88_25 rfl (lv_at hl 0 rfl) ?_
  refine lv_iconst (v := 4) hx hb dJ13_bitCount_95d88_26 (by decide) ?_
  refine lv_lushr (v := 0) hx hb dJ13_bitCount_95d88_27 (by decide) ?_
  refine lv_ladd hx hb dJ13_bitCount_95d88_28 ?_
  refine lv_tol (v := 0) (by decide) ?_
  refine lv_ldc2 hx hb F.2.2.2.1 (F.2.2.2.2 _ m_2) dJ13_bitCount_95d88_29 ?_
  refine lv_land hx hb dJ13_bitCount_95d88_32 ?_
  refine lv_tol (v := 0) (by decide) ?_
  refine lv_lstore_n (lv' := [(0, .long 0)]) hx hb dJ13_bitCount_95d88_33 rfl hl (by decide) rfl (fun ls hl => ?_)
  refine lv_lload_n hx hb dJ13_bitCount_95d88_34 rfl (lv_at hl 0 rfl) ?_
  refine lv_lload_n hx hb dJ13_bitCount_95d88_35 rfl (lv_at hl 0 rfl) ?_
  refine lv_bipush (v := 8) hx hb dJ13_bitCount_95d88_36 (by decide) ?_
  refine lv_lushr (v := 0) hx hb dJ13_bitCount_95d88_38 (by decide) ?_
  refine lv_ladd hx hb dJ13_bitCount_95d88_39 ?_
  refine lv_tol (v := 0) (by decide) ?_
  refine lv_lstore_n (lv' := [(0, .long 0)]) hx hb dJ13_bitCount_95d88_40 rfl hl (by decide) rfl (fun ls hl => ?_)
  refine lv_lload_n hx hb dJ13_bitCount_95d88_41 rfl (lv_at hl 0 rfl) ?_
  refine lv_lload_n hx hb dJ13_bitCount_95d88_42 rfl (lv_at hl 0 rfl) ?_
  refine lv_bipush (v := 16) hx hb dJ13_bitCount_95d88_43 (by decide) ?_
  refine lv_lushr (v := 0) hx hb dJ13_bitCount_95d88_45 (by decide) ?_
  refine lv_ladd hx hb dJ13_bitCount_95d88_46 ?_
  refine lv_tol (v := 0) (by decide) ?_
  refine lv_lstore_n (lv' := [(0, .long 0)]) hx hb dJ13_bitCount_95d88_47 rfl hl (by decide) rfl (fun ls hl => ?_)
  refine lv_lload_n hx hb dJ13_bitCount_95d88_48 rfl (lv_at hl 0 rfl) ?_
  refine lv_lload_n hx hb dJ13_bitCount_95d88_49 rfl (lv_at hl 0 rfl) ?_
  refine lv_bipush (v := 32) hx hb dJ13_bitCount_95d88_50 (by decide) ?_
  refine lv_lushr (v := 0) hx hb dJ13_bitCount_95d88_52 (by decide) ?_
  refine lv_ladd hx hb dJ13_bitCount_95d88_53 ?_
  refine lv_tol (v := 0) (by decide) ?_
  refine lv_lstore_n (lv' := [(0, .long 0)]) hx hb dJ13_bitCount_95d88_54 rfl hl (by decide) rfl (fun ls hl => ?_)
  refine lv_lload_n hx hb dJ13_bitCount_95d88_55 rfl (lv_at hl 0 rfl) ?_
  refine lv_l2i (v := 0) hx hb dJ13_bitCount_95d88_56 (by decide) ?_
  refine lv_bipush (v := 127) hx hb dJ13_bitCount_95d88_57 (by decide) ?_
  refine lv_iand hx hb dJ13_bitCount_95d88_59 ?_
  refine lv_toc (v := 0) (by decide) ?_
  exact retI F hr hlocks rfl hP hD hS () [] rfl rfl (Nat.le_of_ble_eq_true rfl) (Nat.le_of_ble_eq_true rfl) dJ13_bitCount_95d88_60 rfl
set_option maxRecDepth 100000 in
set_option maxHeartbeats 4000000 in
theorem c_putBytes (l : Launch) (D : va_G) (Y : Nat → ClassId) (h0 : Nat) (tp : Nat) (t : Nat) (v : Int32) (g : Nat → Value) (f : Nat → Int32) (g_0 : g 0 = .ref tp) (g_1 : g 1 = .int (nI t)) (ht : t + 4 ≤ 400) : cM l D Y yX9_putBytes cX9_putBytes 3 none 1 0 0 [.ref h0, .int v] [(h0, .inr (8, fl 9 g)), (tp, .inl (Y 0, 400, .inl f))] (qV D (fun (u : (Nat → Value) × (Nat → Int32)) => u.1 0 = .ref tp ∧ u.1 1 = .int (nI (t + 1 + 1 + 1 + 1))) (fun (u : (Nat → Value) × (Nat → Int32)) => [(h0, .inr (8, fl 9 u.1)), (tp, .inl (Y 0, 400, .inl u.2))])) := by
  refine cM.mk RX9 rfl (by decide) (Nat.le_of_ble_eq_true rfl) ?_
  intro p e s m below meth c A F hr hlocks hin hK hZ hP hD hA hS ls hl
  have hx := F.1
  have hb := F.2.1
  have hl : lv_has ls 3 [(0, .ref h0), (1, .int v)] := hl
  refine lv_bipush (v := 24) hx hb dX9_putBytes_0 (by decide) ?_
  refine lv_istore_n (lv' := [(2, .int 24), (0, .ref h0), (1, .int v)]) hx hb dX9_putBytes_2 rfl hl (by decide) rfl (fun ls hl => ?_)
  refine lv_iload_n hx hb dX9_putBytes_3 rfl (lv_at hl 0 rfl) ?_
  refine lv_if_lt (tgt := 49) hx hb dX9_putBytes_4 (by decide) (fun c9 => absurd c9 (by decide)) (fun _ => ?_)
  refine lv_aload_n hx hb dX9_putBytes_7 rfl (lv_at hl 1 rfl) ?_
  refine gF (C := RX9) (T := TX9) (ci := 8) (v := .int (nI t)) F hK hP 0 rfl rfl iwX9 1 (by decide) m_3 (fun _ h => h) g_1 dX9_putBytes_8 ?_
  refine lv_sipush (v := 400) hx hb dX9_putBytes_11 (by decide) ?_
  refine lv_icmp_ge (tgt := 49) hx hb dX9_putBytes_14 (by decide) (fun c9 => absurd c9 (nI_ge (b := 400) (by omega) (by decide))) (fun _ => ?_)
  refine lv_aload_n hx hb dX9_putBytes_17 rfl (lv_at hl 1 rfl) ?_
  refine gF (C := RX9) (T := TX9) (ci := 8) (v := .ref tp) F hK hP 0 rfl rfl iwX9 0 (by decide) m_4 (fun _ h => h) g_0 dX9_putBytes_18 ?_
  refine lv_aload_n hx hb dX9_putBytes_21 rfl (lv_at hl 1 rfl) ?_
  refine gF (C := RX9) (T := TX9) (ci := 8) (v := .int (nI t)) F hK hP 0 rfl rfl iwX9 1 (by decide) m_3 (fun _ h => h) g_1 dX9_putBytes_22 ?_
  refine lv_iload_n hx hb dX9_putBytes_25 rfl (lv_at hl 2 rfl) ?_
  refine lv_iload_n hx hb dX9_putBytes_26 rfl (lv_at hl 0 rfl) ?_
  refine lv_ishr hx hb dX9_putBytes_27 ?_
  refine lv_topi (fun z_1 e_z_1 => ?_)
  refine lv_sipush (v := 255) hx hb dX9_putBytes_28 (by decide) ?_
  refine lv_iand hx hb dX9_putBytes_31 ?_
  refine lv_topi (fun z_2 e_z_2 => ?_)
  refine va_iast hx hb hK.1 hP hD hS 1 0 rfl rfl (vp_in_nI (by omega) (by decide)) dX9_putBytes_32 (fun H locs hP hD hS => ?_)
  have hP : va_P D vwCl [(h0, .inr (8, fl 9 g)), (tp, .inl (Y 0, 400, .inl (upd f (nI t).toNatClampNeg z_2)))] H := hP
  have hD : va_D A [(h0, .inr (8, fl 9 g)), (tp, .inl (Y 0, 400, .inl (upd f (nI t).toNatClampNeg z_2)))] := hD
  generalize (upd f (nI t).toNatClampNeg z_2) = f_3 at hP hD
  refine lv_aload_n hx hb dX9_putBytes_33 rfl (lv_at hl 1 rfl) ?_
  refine lv_dup hx hb dX9_putBytes_34 rfl ?_
  refine gF (C := RX9) (T := TX9) (ci := 8) (v := .int (nI t)) F hK hP 0 rfl rfl iwX9 1 (by decide) m_3 (fun _ h => h) g_1 dX9_putBytes_35 ?_
  refine lv_iconst (v := 1) hx hb dX9_putBytes_38 (by decide) ?_
  refine lv_iadd hx hb dX9_putBytes_39 ?_
  refine lv_toc (v := nI (t + 1)) (nI_1 _) ?_
  refine pF (C := RX9) (T := TX9) (ci := 8) F hK hP hD hS 0 rfl rfl iwX9 tyX9 tyX9_ok nmX9 1 (by decide) m_3 (fun _ h => h) rfl rfl rfl dX9_putBytes_40 (fun H locs hP hD hS => ?_)
  have hP : va_P D vwCl [(h0, .inr (8, fl 9 (va_up g 1 (.int (nI (t + 1)))))), (tp, .inl (Y 0, 400, .inl f_3))] H := hP
  have hD : va_D A [(h0, .inr (8, fl 9 (va_up g 1 (.int (nI (t + 1)))))), (tp, .inl (Y 0, 400, .inl f_3))] := hD
  refine lv_iinc (v := 16) (lv' := [(2, .int 16), (0, .ref h0), (1, .int v)]) hx hb dX9_putBytes_43 hl (k := 0) rfl (by decide) (by decide) rfl (fun ls hl => ?_)
  refine lv_goto (tgt := 3) hx hb dX9_putBytes_46 (by decide) ?_
  refine lv_iload_n hx hb dX9_putBytes_3 rfl (lv_at hl 0 rfl) ?_
  refine lv_if_lt (tgt := 49) hx hb dX9_putBytes_4 (by decide) (fun c9 => absurd c9 (by decide)) (fun _ => ?_)
  refine lv_aload_n hx hb dX9_putBytes_7 rfl (lv_at hl 1 rfl) ?_
  refine gF (C := RX9) (T := TX9) (ci := 8) (v := .int (nI (t + 1))) F hK hP 0 rfl rfl iwX9 1 (by decide) m_3 (fun _ h => h) rfl dX9_putBytes_8 ?_
  refine lv_sipush (v := 400) hx hb dX9_putBytes_11 (by decide) ?_
  refine lv_icmp_ge (tgt := 49) hx hb dX9_putBytes_14 (by decide) (fun c9 => absurd c9 (nI_ge (b := 400) (by omega) (by decide))) (fun _ => ?_)
  refine lv_aload_n hx hb dX9_putBytes_17 rfl (lv_at hl 1 rfl) ?_
  refine gF (C := RX9) (T := TX9) (ci := 8) (v := .ref tp) F hK hP 0 rfl rfl iwX9 0 (by decide) m_4 (fun _ h => h) g_0 dX9_putBytes_18 ?_
  refine lv_aload_n hx hb dX9_putBytes_21 rfl (lv_at hl 1 rfl) ?_
  refine gF (C := RX9) (T := TX9) (ci := 8) (v := .int (nI (t + 1))) F hK hP 0 rfl rfl iwX9 1 (by decide) m_3 (fun _ h => h) rfl dX9_putBytes_22 ?_
  refine lv_iload_n hx hb dX9_putBytes_25 rfl (lv_at hl 2 rfl) ?_
  refine lv_iload_n hx hb dX9_putBytes_26 rfl (lv_at hl 0 rfl) ?_
  refine lv_ishr hx hb dX9_putBytes_27 ?_
  refine lv_topi (fun z_4 e_z_4 => ?_)
  refine lv_sipush (v := 255) hx hb dX9_putBytes_28 (by decide) ?_
  refine lv_iand hx hb dX9_putBytes_31 ?_
  refine lv_topi (fun z_5 e_z_5 => ?_)
  refine va_iast hx hb hK.1 hP hD hS 1 0 rfl rfl (vp_in_nI (by omega) (by decide)) dX9_putBytes_32 (fun H locs hP hD hS => ?_)
  have hP : va_P D vwCl [(h0, .inr (8, fl 9 (va_up g 1 (.int (nI (t + 1)))))), (tp, .inl (Y 0, 400, .inl (upd f_3 (nI (t + 1)).toNatClampNeg z_5)))] H := hP
  have hD : va_D A [(h0, .inr (8, fl 9 (va_up g 1 (.int (nI (t + 1)))))), (tp, .inl (Y 0, 400, .inl (upd f_3 (nI (t + 1)).toNatClampNeg z_5)))] := hD
  generalize (upd f_3 (nI (t + 1)).toNatClampNeg z_5) = f_6 at hP hD
  refine lv_aload_n hx hb dX9_putBytes_33 rfl (lv_at hl 1 rfl) ?_
  refine lv_dup hx hb dX9_putBytes_34 rfl ?_
  refine gF (C := RX9) (T := TX9) (ci := 8) (v := .int (nI (t + 1))) F hK hP 0 rfl rfl iwX9 1 (by decide) m_3 (fun _ h => h) rfl dX9_putBytes_35 ?_
  refine lv_iconst (v := 1) hx hb dX9_putBytes_38 (by decide) ?_
  refine lv_iadd hx hb dX9_putBytes_39 ?_
  refine lv_toc (v := nI (t + 1 + 1)) (nI_1 _) ?_
  refine pF (C := RX9) (T := TX9) (ci := 8) F hK hP hD hS 0 rfl rfl iwX9 tyX9 tyX9_ok nmX9 1 (by decide) m_3 (fun _ h => h) rfl rfl rfl dX9_putBytes_40 (fun H locs hP hD hS => ?_)
  have hP : va_P D vwCl [(h0, .inr (8, fl 9 (va_up (va_up g 1 (.int (nI (t + 1)))) 1 (.int (nI (t + 1 + 1)))))), (tp, .inl (Y 0, 400, .inl f_6))] H := hP
  have hD : va_D A [(h0, .inr (8, fl 9 (va_up (va_up g 1 (.int (nI (t + 1)))) 1 (.int (nI (t + 1 + 1)))))), (tp, .inl (Y 0, 400, .inl f_6))] := hD
  refine lv_iinc (v := 8) (lv' := [(2, .int 8), (0, .ref h0), (1, .int v)]) hx hb dX9_putBytes_43 hl (k := 0) rfl (by decide) (by decide) rfl (fun ls hl => ?_)
  refine lv_goto (tgt := 3) hx hb dX9_putBytes_46 (by decide) ?_
  refine lv_iload_n hx hb dX9_putBytes_3 rfl (lv_at hl 0 rfl) ?_
  refine lv_if_lt (tgt := 49) hx hb dX9_putBytes_4 (by decide) (fun c9 => absurd c9 (by decide)) (fun _ => ?_)
  refine lv_aload_n hx hb dX9_putBytes_7 rfl (lv_at hl 1 rfl) ?_
  refine gF (C := RX9) (T := TX9) (ci := 8) (v := .int (nI (t + 1 + 1))) F hK hP 0 rfl rfl iwX9 1 (by decide) m_3 (fun _ h => h) rfl dX9_putBytes_8 ?_
  refine lv_sipush (v := 400) hx hb dX9_putBytes_11 (by decide) ?_
  refine lv_icmp_ge (tgt := 49) hx hb dX9_putBytes_14 (by decide) (fun c9 => absurd c9 (nI_ge (b := 400) (by omega) (by decide))) (fun _ => ?_)
  refine lv_aload_n hx hb dX9_putBytes_17 rfl (lv_at hl 1 rfl) ?_
  refine gF (C := RX9) (T := TX9) (ci := 8) (v := .ref tp) F hK hP 0 rfl rfl iwX9 0 (by decide) m_4 (fun _ h => h) g_0 dX9_putBytes_18 ?_
  refine lv_aload_n hx hb dX9_putBytes_21 rfl (lv_at hl 1 rfl) ?_
  refine gF (C := RX9) (T := TX9) (ci := 8) (v := .int (nI (t + 1 + 1))) F hK hP 0 rfl rfl iwX9 1 (by decide) m_3 (fun _ h => h) rfl dX9_putBytes_22 ?_
  refine lv_iload_n hx hb dX9_putBytes_25 rfl (lv_at hl 2 rfl) ?_
  refine lv_iload_n hx hb dX9_putBytes_26 rfl (lv_at hl 0 rfl) ?_
  refine lv_ishr hx hb dX9_putBytes_27 ?_
  refine lv_topi (fun z_7 e_z_7 => ?_)
  refine lv_sipush (v := 255) hx hb dX9_putBytes_28 (by decide) ?_
  refine lv_iand hx hb dX9_putBytes_31 ?_
  refine lv_topi (fun z_8 e_z_8 => ?_)
  refine va_iast hx hb hK.1 hP hD hS 1 0 rfl rfl (vp_in_nI (by omega) (by decide)) dX9_putBytes_32 (fun H locs hP hD hS => ?_)
  have hP : va_P D vwCl [(h0, .inr (8, fl 9 (va_up (va_up g 1 (.int (nI (t + 1)))) 1 (.int (nI (t + 1 + 1)))))), (tp, .inl (Y 0, 400, .inl (upd f_6 (nI (t + 1 + 1)).toNatClampNeg z_8)))] H := hP
  have hD : va_D A [(h0, .inr (8, fl 9 (va_up (va_up g 1 (.int (nI (t + 1)))) 1 (.int (nI (t + 1 + 1)))))), (tp, .inl (Y 0, 400, .inl (upd f_6 (nI (t + 1 + 1)).toNatClampNeg z_8)))] := hD
  generalize (upd f_6 (nI (t + 1 + 1)).toNatClampNeg z_8) = f_9 at hP hD
  refine lv_aload_n hx hb dX9_putBytes_33 rfl (lv_at hl 1 rfl) ?_
  refine lv_dup hx hb dX9_putBytes_34 rfl ?_
  refine gF (C := RX9) (T := TX9) (ci := 8) (v := .int (nI (t + 1 + 1))) F hK hP 0 rfl rfl iwX9 1 (by decide) m_3 (fun _ h => h) rfl dX9_putBytes_35 ?_
  refine lv_iconst (v := 1) hx hb dX9_putBytes_38 (by decide) ?_
  refine lv_iadd hx hb dX9_putBytes_39 ?_
  refine lv_toc (v := nI (t + 1 + 1 + 1)) (nI_1 _) ?_
  refine pF (C := RX9) (T := TX9) (ci := 8) F hK hP hD hS 0 rfl rfl iwX9 tyX9 tyX9_ok nmX9 1 (by decide) m_3 (fun _ h => h) rfl rfl rfl dX9_putBytes_40 (fun H locs hP hD hS => ?_)
  have hP : va_P D vwCl [(h0, .inr (8, fl 9 (va_up (va_up (va_up g 1 (.int (nI (t + 1)))) 1 (.int (nI (t + 1 + 1)))) 1 (.int (nI (t + 1 + 1 + 1)))))), (tp, .inl (Y 0, 400, .inl f_9))] H := hP
  have hD : va_D A [(h0, .inr (8, fl 9 (va_up (va_up (va_up g 1 (.int (nI (t + 1)))) 1 (.int (nI (t + 1 + 1)))) 1 (.int (nI (t + 1 + 1 + 1)))))), (tp, .inl (Y 0, 400, .inl f_9))] := hD
  refine lv_iinc (v := 0) (lv' := [(2, .int 0), (0, .ref h0), (1, .int v)]) hx hb dX9_putBytes_43 hl (k := 0) rfl (by decide) (by decide) rfl (fun ls hl => ?_)
  refine lv_goto (tgt := 3) hx hb dX9_putBytes_46 (by decide) ?_
  refine lv_iload_n hx hb dX9_putBytes_3 rfl (lv_at hl 0 rfl) ?_
  refine lv_if_lt (tgt := 49) hx hb dX9_putBytes_4 (by decide) (fun c9 => absurd c9 (by decide)) (fun _ => ?_)
  refine lv_aload_n hx hb dX9_putBytes_7 rfl (lv_at hl 1 rfl) ?_
  refine gF (C := RX9) (T := TX9) (ci := 8) (v := .int (nI (t + 1 + 1 + 1))) F hK hP 0 rfl rfl iwX9 1 (by decide) m_3 (fun _ h => h) rfl dX9_putBytes_8 ?_
  refine lv_sipush (v := 400) hx hb dX9_putBytes_11 (by decide) ?_
  refine lv_icmp_ge (tgt := 49) hx hb dX9_putBytes_14 (by decide) (fun c9 => absurd c9 (nI_ge (b := 400) (by omega) (by decide))) (fun _ => ?_)
  refine lv_aload_n hx hb dX9_putBytes_17 rfl (lv_at hl 1 rfl) ?_
  refine gF (C := RX9) (T := TX9) (ci := 8) (v := .ref tp) F hK hP 0 rfl rfl iwX9 0 (by decide) m_4 (fun _ h => h) g_0 dX9_putBytes_18 ?_
  refine lv_aload_n hx hb dX9_putBytes_21 rfl (lv_at hl 1 rfl) ?_
  refine gF (C := RX9) (T := TX9) (ci := 8) (v := .int (nI (t + 1 + 1 + 1))) F hK hP 0 rfl rfl iwX9 1 (by decide) m_3 (fun _ h => h) rfl dX9_putBytes_22 ?_
  refine lv_iload_n hx hb dX9_putBytes_25 rfl (lv_at hl 2 rfl) ?_
  refine lv_iload_n hx hb dX9_putBytes_26 rfl (lv_at hl 0 rfl) ?_
  refine lv_ishr hx hb dX9_putBytes_27 ?_
  refine lv_topi (fun z_10 e_z_10 => ?_)
  refine lv_sipush (v := 255) hx hb dX9_putBytes_28 (by decide) ?_
  refine lv_iand hx hb dX9_putBytes_31 ?_
  refine lv_topi (fun z_11 e_z_11 => ?_)
  refine va_iast hx hb hK.1 hP hD hS 1 0 rfl rfl (vp_in_nI (by omega) (by decide)) dX9_putBytes_32 (fun H locs hP hD hS => ?_)
  have hP : va_P D vwCl [(h0, .inr (8, fl 9 (va_up (va_up (va_up g 1 (.int (nI (t + 1)))) 1 (.int (nI (t + 1 + 1)))) 1 (.int (nI (t + 1 + 1 + 1)))))), (tp, .inl (Y 0, 400, .inl (upd f_9 (nI (t + 1 + 1 + 1)).toNatClampNeg z_11)))] H := hP
  have hD : va_D A [(h0, .inr (8, fl 9 (va_up (va_up (va_up g 1 (.int (nI (t + 1)))) 1 (.int (nI (t + 1 + 1)))) 1 (.int (nI (t + 1 + 1 + 1)))))), (tp, .inl (Y 0, 400, .inl (upd f_9 (nI (t + 1 + 1 + 1)).toNatClampNeg z_11)))] := hD
  generalize (upd f_9 (nI (t + 1 + 1 + 1)).toNatClampNeg z_11) = f_12 at hP hD
  refine lv_aload_n hx hb dX9_putBytes_33 rfl (lv_at hl 1 rfl) ?_
  refine lv_dup hx hb dX9_putBytes_34 rfl ?_
  refine gF (C := RX9) (T := TX9) (ci := 8) (v := .int (nI (t + 1 + 1 + 1))) F hK hP 0 rfl rfl iwX9 1 (by decide) m_3 (fun _ h => h) rfl dX9_putBytes_35 ?_
  refine lv_iconst (v := 1) hx hb dX9_putBytes_38 (by decide) ?_
  refine lv_iadd hx hb dX9_putBytes_39 ?_
  refine lv_toc (v := nI (t + 1 + 1 + 1 + 1)) (nI_1 _) ?_
  refine pF (C := RX9) (T := TX9) (ci := 8) F hK hP hD hS 0 rfl rfl iwX9 tyX9 tyX9_ok nmX9 1 (by decide) m_3 (fun _ h => h) rfl rfl rfl dX9_putBytes_40 (fun H locs hP hD hS => ?_)
  have hP : va_P D vwCl [(h0, .inr (8, fl 9 (va_up (va_up (va_up (va_up g 1 (.int (nI (t + 1)))) 1 (.int (nI (t + 1 + 1)))) 1 (.int (nI (t + 1 + 1 + 1)))) 1 (.int (nI (t + 1 + 1 + 1 + 1)))))), (tp, .inl (Y 0, 400, .inl f_12))] H := hP
  have hD : va_D A [(h0, .inr (8, fl 9 (va_up (va_up (va_up (va_up g 1 (.int (nI (t + 1)))) 1 (.int (nI (t + 1 + 1)))) 1 (.int (nI (t + 1 + 1 + 1)))) 1 (.int (nI (t + 1 + 1 + 1 + 1)))))), (tp, .inl (Y 0, 400, .inl f_12))] := hD
  refine lv_iinc (v := (-8)) (lv' := [(2, .int (-8)), (0, .ref h0), (1, .int v)]) hx hb dX9_putBytes_43 hl (k := 0) rfl (by decide) (by decide) rfl (fun ls hl => ?_)
  refine lv_goto (tgt := 3) hx hb dX9_putBytes_46 (by decide) ?_
  refine lv_iload_n hx hb dX9_putBytes_3 rfl (lv_at hl 0 rfl) ?_
  refine lv_if_lt (tgt := 49) hx hb dX9_putBytes_4 (by decide) (fun _ => ?_) (fun c9 => absurd (by decide) c9)
  exact retV F hr hlocks hP hD hS ((va_up (va_up (va_up (va_up g 1 (.int (nI (t + 1)))) 1 (.int (nI (t + 1 + 1)))) 1 (.int (nI (t + 1 + 1 + 1)))) 1 (.int (nI (t + 1 + 1 + 1 + 1)))), f_12) [0, 1] rfl rfl (Nat.le_of_ble_eq_true rfl) (Nat.le_of_ble_eq_true rfl) dX9_putBytes_49 ⟨g_0, rfl⟩
set_option maxRecDepth 100000 in
set_option maxHeartbeats 4000000 in
theorem c_feed (l : Launch) (D : va_G) (Y : Nat → ClassId) (h0 : Nat) (tp : Nat) (v1 : Int32) (v2 : Int32) (v3 : Int32) (v4 : Int32) (v5 : Int32) (g : Nat → Value) (f : Nat → Int32) (g_0 : g 0 = .ref tp) (g_1 : g 1 = .int 0)  : cM l D Y yX9_feed cX9_feed 6 (some .int) 2 0 0 [.ref h0, .int v1, .int v2, .int v3, .int v4, .int v5] [(h0, .inr (8, fl 9 g)), (tp, .inl (Y 0, 400, .inl f))] (qI D (fun (r : Int32) (u : Unit) => r = 20) (fun (u : Unit) => [])) := by
  refine cM.mk RX9 rfl (by decide) (Nat.le_of_ble_eq_true rfl) ?_
  intro p e s m below meth c A F hr hlocks hin hK hZ hP hD hA hS ls hl
  have hx := F.1
  have hb := F.2.1
  have hl : lv_has ls 6 [(0, .ref h0), (1, .int v1), (2, .int v2), (3, .int v3), (4, .int v4), (5, .int v5)] := hl
  refine lv_aload_n hx hb dX9_feed_0 rfl (lv_at hl 0 rfl) ?_
  refine gF (C := RX9) (T := TX9) (ci := 8) (v := .int 0) F hK hP 0 rfl rfl iwX9 1 (by decide) m_3 (fun _ h => h) g_1 dX9_feed_1 ?_
  refine lv_bipush (v := 20) hx hb dX9_feed_4 (by decide) ?_
  refine lv_iadd hx hb dX9_feed_6 ?_
  refine lv_toc (v := 20) (by decide) ?_
  refine lv_sipush (v := 400) hx hb dX9_feed_7 (by decide) ?_
  refine lv_icmp_le (tgt := 15) hx hb dX9_feed_10 (by decide) (fun _ => ?_) (fun c9 => absurd (by decide) c9)
  refine lv_aload_n hx hb dX9_feed_15 rfl (lv_at hl 0 rfl) ?_
  refine lv_iload_n hx hb dX9_feed_16 rfl (lv_at hl 1 rfl) ?_
  refine goV (wr := []) (runV (n := 1) (As := [.int v1]) (rest := []) (C := RX9) (T := TX9) (N := 9) (ci := 8) F hK hZ hP hD hS hA (c_putBytes l D Y h0 tp 0 v1 g f g_0 g_1 (by decide)) 0 rfl rfl [0, 1] rfl rfl m_7 m_8 m_9 m_6 m_5 (by decide +kernel) rfl ⟨Nat.le_of_ble_eq_true rfl, Nat.le_of_ble_eq_true rfl⟩ hl.1 rfl (Nat.le_of_ble_eq_true rfl) dX9_feed_17 ⟨Nat.le_of_ble_eq_true rfl, Nat.le_of_ble_eq_true rfl⟩) hP hD hS hA [0, 1] [] rfl rfl rfl (by decide) (fun u H locs hw hP hD hS => ?_)
  obtain ⟨gn_1, fn_2⟩ := u
  obtain ⟨o_3, o_4⟩ := hw
  have hP : va_P D vwCl [(h0, .inr (8, fl 9 gn_1)), (tp, .inl (Y 0, 400, .inl fn_2))] H := hP
  have hD : va_D A [(h0, .inr (8, fl 9 gn_1)), (tp, .inl (Y 0, 400, .inl fn_2))] := hD
  refine W.widen (k := 0) (n := 0) (Nat.le_of_ble_eq_true rfl) (Nat.le_of_ble_eq_true rfl) ?_
  refine lv_aload_n hx hb dX9_feed_20 rfl (lv_at hl 0 rfl) ?_
  refine lv_iload_n hx hb dX9_feed_21 rfl (lv_at hl 2 rfl) ?_
  refine goV (wr := []) (runV (n := 1) (As := [.int v2]) (rest := []) (C := RX9) (T := TX9) (N := 9) (ci := 8) F hK hZ hP hD hS hA (c_putBytes l D Y h0 tp (0 + 1 + 1 + 1 + 1) v2 gn_1 fn_2 o_3 o_4 (by decide)) 0 rfl rfl [0, 1] rfl rfl m_7 m_8 m_9 m_6 m_5 (by decide +kernel) rfl ⟨Nat.le_of_ble_eq_true rfl, Nat.le_of_ble_eq_true rfl⟩ hl.1 rfl (Nat.le_of_ble_eq_true rfl) dX9_feed_22 ⟨Nat.le_of_ble_eq_true rfl, Nat.le_of_ble_eq_true rfl⟩) hP hD hS hA [0, 1] [] rfl rfl rfl (by decide) (fun u H locs hw hP hD hS => ?_)
  obtain ⟨gn_6, fn_7⟩ := u
  obtain ⟨o_8, o_9⟩ := hw
  have hP : va_P D vwCl [(h0, .inr (8, fl 9 gn_6)), (tp, .inl (Y 0, 400, .inl fn_7))] H := hP
  have hD : va_D A [(h0, .inr (8, fl 9 gn_6)), (tp, .inl (Y 0, 400, .inl fn_7))] := hD
  refine W.widen (k := 0) (n := 0) (Nat.le_of_ble_eq_true rfl) (Nat.le_of_ble_eq_true rfl) ?_
  refine lv_aload_n hx hb dX9_feed_25 rfl (lv_at hl 0 rfl) ?_
  refine lv_iload_n hx hb dX9_feed_26 rfl (lv_at hl 3 rfl) ?_
  refine goV (wr := []) (runV (n := 1) (As := [.int v3]) (rest := []) (C := RX9) (T := TX9) (N := 9) (ci := 8) F hK hZ hP hD hS hA (c_putBytes l D Y h0 tp ((0 + 1 + 1 + 1 + 1) + 1 + 1 + 1 + 1) v3 gn_6 fn_7 o_8 o_9 (by decide)) 0 rfl rfl [0, 1] rfl rfl m_7 m_8 m_9 m_6 m_5 (by decide +kernel) rfl ⟨Nat.le_of_ble_eq_true rfl, Nat.le_of_ble_eq_true rfl⟩ hl.1 rfl (Nat.le_of_ble_eq_true rfl) dX9_feed_27 ⟨Nat.le_of_ble_eq_true rfl, Nat.le_of_ble_eq_true rfl⟩) hP hD hS hA [0, 1] [] rfl rfl rfl (by decide) (fun u H locs hw hP hD hS => ?_)
  obtain ⟨gn_11, fn_12⟩ := u
  obtain ⟨o_13, o_14⟩ := hw
  have hP : va_P D vwCl [(h0, .inr (8, fl 9 gn_11)), (tp, .inl (Y 0, 400, .inl fn_12))] H := hP
  have hD : va_D A [(h0, .inr (8, fl 9 gn_11)), (tp, .inl (Y 0, 400, .inl fn_12))] := hD
  refine W.widen (k := 0) (n := 0) (Nat.le_of_ble_eq_true rfl) (Nat.le_of_ble_eq_true rfl) ?_
  refine lv_aload_n hx hb dX9_feed_30 rfl (lv_at hl 0 rfl) ?_
  refine lv_iload hx hb dX9_feed_31 (lv_at hl 4 rfl) ?_
  refine goV (wr := []) (runV (n := 1) (As := [.int v4]) (rest := []) (C := RX9) (T := TX9) (N := 9) (ci := 8) F hK hZ hP hD hS hA (c_putBytes l D Y h0 tp (((0 + 1 + 1 + 1 + 1) + 1 + 1 + 1 + 1) + 1 + 1 + 1 + 1) v4 gn_11 fn_12 o_13 o_14 (by decide)) 0 rfl rfl [0, 1] rfl rfl m_7 m_8 m_9 m_6 m_5 (by decide +kernel) rfl ⟨Nat.le_of_ble_eq_true rfl, Nat.le_of_ble_eq_true rfl⟩ hl.1 rfl (Nat.le_of_ble_eq_true rfl) dX9_feed_33 ⟨Nat.le_of_ble_eq_true rfl, Nat.le_of_ble_eq_true rfl⟩) hP hD hS hA [0, 1] [] rfl rfl rfl (by decide) (fun u H locs hw hP hD hS => ?_)
  obtain ⟨gn_16, fn_17⟩ := u
  obtain ⟨o_18, o_19⟩ := hw
  have hP : va_P D vwCl [(h0, .inr (8, fl 9 gn_16)), (tp, .inl (Y 0, 400, .inl fn_17))] H := hP
  have hD : va_D A [(h0, .inr (8, fl 9 gn_16)), (tp, .inl (Y 0, 400, .inl fn_17))] := hD
  refine W.widen (k := 0) (n := 0) (Nat.le_of_ble_eq_true rfl) (Nat.le_of_ble_eq_true rfl) ?_
  refine lv_aload_n hx hb dX9_feed_36 rfl (lv_at hl 0 rfl) ?_
  refine lv_iload hx hb dX9_feed_37 (lv_at hl 5 rfl) ?_
  refine goV (wr := []) (runV (n := 1) (As := [.int v5]) (rest := []) (C := RX9) (T := TX9) (N := 9) (ci := 8) F hK hZ hP hD hS hA (c_putBytes l D Y h0 tp ((((0 + 1 + 1 + 1 + 1) + 1 + 1 + 1 + 1) + 1 + 1 + 1 + 1) + 1 + 1 + 1 + 1) v5 gn_16 fn_17 o_18 o_19 (by decide)) 0 rfl rfl [0, 1] rfl rfl m_7 m_8 m_9 m_6 m_5 (by decide +kernel) rfl ⟨Nat.le_of_ble_eq_true rfl, Nat.le_of_ble_eq_true rfl⟩ hl.1 rfl (Nat.le_of_ble_eq_true rfl) dX9_feed_39 ⟨Nat.le_of_ble_eq_true rfl, Nat.le_of_ble_eq_true rfl⟩) hP hD hS hA [0, 1] [] rfl rfl rfl (by decide) (fun u H locs hw hP hD hS => ?_)
  obtain ⟨gn_21, fn_22⟩ := u
  obtain ⟨o_23, o_24⟩ := hw
  have hP : va_P D vwCl [(h0, .inr (8, fl 9 gn_21)), (tp, .inl (Y 0, 400, .inl fn_22))] H := hP
  have hD : va_D A [(h0, .inr (8, fl 9 gn_21)), (tp, .inl (Y 0, 400, .inl fn_22))] := hD
  refine W.widen (k := 0) (n := 0) (Nat.le_of_ble_eq_true rfl) (Nat.le_of_ble_eq_true rfl) ?_
  refine lv_aload_n hx hb dX9_feed_42 rfl (lv_at hl 0 rfl) ?_
  refine gF (C := RX9) (T := TX9) (ci := 8) (v := .int (nI (((((0 + 1 + 1 + 1 + 1) + 1 + 1 + 1 + 1) + 1 + 1 + 1 + 1) + 1 + 1 + 1 + 1) + 1 + 1 + 1 + 1))) F hK hP 0 rfl rfl iwX9 1 (by decide) m_3 (fun _ h => h) o_24 dX9_feed_43 ?_
  exact retI F hr hlocks rfl hP hD hS () [] rfl rfl (Nat.le_of_ble_eq_true rfl) (Nat.le_of_ble_eq_true rfl) dX9_feed_46 rfl
set_option maxRecDepth 100000 in
set_option maxHeartbeats 4000000 in
theorem c_fault (l : Launch) (D : va_G) (Y : Nat → ClassId) (h0 : Nat) (g : Nat → Value) (g_2 : g 2 = .int (-1))  : cM l D Y yX9_fault cX9_fault 1 (some .int) 1 0 0 [.ref h0] [(h0, .inr (8, fl 9 g))] (qI D (fun (r : Int32) (u : Unit) => r = (-1)) (fun (u : Unit) => [])) := by
  refine cM.mk RX9 rfl (by decide) (Nat.le_of_ble_eq_true rfl) ?_
  intro p e s m below meth c A F hr hlocks hin hK hZ hP hD hA hS ls hl
  have hx := F.1
  have hb := F.2.1
  have hl : lv_has ls 1 [(0, .ref h0)] := hl
  refine lv_aload_n hx hb dX9_fault_0 rfl (lv_at hl 0 rfl) ?_
  refine gF (C := RX9) (T := TX9) (ci := 8) (v := .int (-1)) F hK hP 0 rfl rfl iwX9 2 (by decide) m_10 (fun _ h => h) g_2 dX9_fault_1 ?_
  exact retI F hr hlocks rfl hP hD hS () [] rfl rfl (Nat.le_of_ble_eq_true rfl) (Nat.le_of_ble_eq_true rfl) dX9_fault_4 rfl
end
section
theorem dX9_refuseMissing_0 : decode cX9_refuseMissing 0 = .ok (.aload_n 0, 1) := by decide +kernel
theorem dX9_refuseMissing_1 : decode cX9_refuseMissing 1 = .ok (.getfield 17, 3) := by decide +kernel
theorem dX9_refuseMissing_4 : decode cX9_refuseMissing 4 = .ok (.iconst 0, 1) := by decide +kernel
theorem dX9_refuseMissing_5 : decode cX9_refuseMissing 5 = .ok (.dup2, 1) := by decide +kernel
theorem dX9_refuseMissing_6 : decode cX9_refuseMissing 6 = .ok (.iaload, 1) := by decide +kernel
theorem dX9_refuseMissing_7 : decode cX9_refuseMissing 7 = .ok (.iconst 1, 1) := by decide +kernel
theorem dX9_refuseMissing_8 : decode cX9_refuseMissing 8 = .ok (.iadd, 1) := by decide +kernel
theorem dX9_refuseMissing_9 : decode cX9_refuseMissing 9 = .ok (.iastore, 1) := by decide +kernel
theorem dX9_refuseMissing_10 : decode cX9_refuseMissing 10 = .ok (.new 285, 3) := by decide +kernel
theorem dX9_refuseMissing_13 : decode cX9_refuseMissing 13 = .ok (.dup, 1) := by decide +kernel
theorem dX9_refuseMissing_14 : decode cX9_refuseMissing 14 = .ok (.ldc_w 287, 3) := by decide +kernel
theorem dX9_refuseMissing_17 : decode cX9_refuseMissing 17 = .ok (.invokespecial 289, 3) := by decide +kernel
theorem dX9_refuseMissing_20 : decode cX9_refuseMissing 20 = .ok (.athrow, 1) := by decide +kernel
theorem dX9_refuseArgument_0 : decode cX9_refuseArgument 0 = .ok (.aload_n 0, 1) := by decide +kernel
theorem dX9_refuseArgument_1 : decode cX9_refuseArgument 1 = .ok (.getfield 17, 3) := by decide +kernel
theorem dX9_refuseArgument_4 : decode cX9_refuseArgument 4 = .ok (.iconst 1, 1) := by decide +kernel
theorem dX9_refuseArgument_5 : decode cX9_refuseArgument 5 = .ok (.dup2, 1) := by decide +kernel
theorem dX9_refuseArgument_6 : decode cX9_refuseArgument 6 = .ok (.iaload, 1) := by decide +kernel
theorem dX9_refuseArgument_7 : decode cX9_refuseArgument 7 = .ok (.iconst 1, 1) := by decide +kernel
theorem dX9_refuseArgument_8 : decode cX9_refuseArgument 8 = .ok (.iadd, 1) := by decide +kernel
theorem dX9_refuseArgument_9 : decode cX9_refuseArgument 9 = .ok (.iastore, 1) := by decide +kernel
theorem dX9_refuseArgument_10 : decode cX9_refuseArgument 10 = .ok (.new 292, 3) := by decide +kernel
theorem dX9_refuseArgument_13 : decode cX9_refuseArgument 13 = .ok (.dup, 1) := by decide +kernel
theorem dX9_refuseArgument_14 : decode cX9_refuseArgument 14 = .ok (.ldc_w 294, 3) := by decide +kernel
theorem dX9_refuseArgument_17 : decode cX9_refuseArgument 17 = .ok (.invokespecial 296, 3) := by decide +kernel
theorem dX9_refuseArgument_20 : decode cX9_refuseArgument 20 = .ok (.athrow, 1) := by decide +kernel
theorem dX9_needIndex_0 : decode cX9_needIndex 0 = .ok (.iload_n 1, 1) := by decide +kernel
theorem dX9_needIndex_1 : decode cX9_needIndex 1 = .ok (.ifCond .lt 8, 3) := by decide +kernel
theorem dX9_needIndex_4 : decode cX9_needIndex 4 = .ok (.iload_n 1, 1) := by decide +kernel
theorem dX9_needIndex_5 : decode cX9_needIndex 5 = .ok (.iload_n 2, 1) := by decide +kernel
theorem dX9_needIndex_6 : decode cX9_needIndex 6 = .ok (.if_icmp .lt 7, 3) := by decide +kernel
theorem dX9_needIndex_9 : decode cX9_needIndex 9 = .ok (.aload_n 0, 1) := by decide +kernel
theorem dX9_needIndex_10 : decode cX9_needIndex 10 = .ok (.invokevirtual 262, 3) := by decide +kernel
theorem dX9_needPredicate_0 : decode cX9_needPredicate 0 = .ok (.aload_n 0, 1) := by decide +kernel
theorem dX9_needPredicate_1 : decode cX9_needPredicate 1 = .ok (.iload_n 1, 1) := by decide +kernel
theorem dX9_needPredicate_2 : decode cX9_needPredicate 2 = .ok (.aload_n 0, 1) := by decide +kernel
theorem dX9_needPredicate_3 : decode cX9_needPredicate 3 = .ok (.getfield 23, 3) := by decide +kernel
theorem dX9_needPredicate_6 : decode cX9_needPredicate 6 = .ok (.getfield 138, 3) := by decide +kernel
theorem dX9_needPredicate_9 : decode cX9_needPredicate 9 = .ok (.invokevirtual 199, 3) := by decide +kernel
theorem dX9_needConstant_0 : decode cX9_needConstant 0 = .ok (.aload_n 0, 1) := by decide +kernel
theorem dX9_needConstant_1 : decode cX9_needConstant 1 = .ok (.iload_n 1, 1) := by decide +kernel
theorem dX9_needConstant_2 : decode cX9_needConstant 2 = .ok (.aload_n 0, 1) := by decide +kernel
theorem dX9_needConstant_3 : decode cX9_needConstant 3 = .ok (.getfield 23, 3) := by decide +kernel
theorem dX9_needConstant_6 : decode cX9_needConstant 6 = .ok (.getfield 141, 3) := by decide +kernel
theorem dX9_needConstant_9 : decode cX9_needConstant 9 = .ok (.invokevirtual 199, 3) := by decide +kernel
theorem dX9_needAtom_0 : decode cX9_needAtom 0 = .ok (.aload_n 0, 1) := by decide +kernel
theorem dX9_needAtom_1 : decode cX9_needAtom 1 = .ok (.iload_n 1, 1) := by decide +kernel
theorem dX9_needAtom_2 : decode cX9_needAtom 2 = .ok (.invokevirtual 166, 3) := by decide +kernel
theorem dX9_needGoal_0 : decode cX9_needGoal 0 = .ok (.aload_n 0, 1) := by decide +kernel
theorem dX9_needGoal_1 : decode cX9_needGoal 1 = .ok (.iload_n 1, 1) := by decide +kernel
theorem dX9_needGoal_2 : decode cX9_needGoal 2 = .ok (.invokevirtual 166, 3) := by decide +kernel
set_option maxRecDepth 100000 in
set_option maxHeartbeats 4000000 in
theorem c_refM (l : Launch) (hfl : l.stackTraces = false) (D : va_G) (Y : Nat → ClassId) (h0 : Nat) (rf : Nat) (g : Nat → Value) (f : Nat → Int32) (g_3 : g 3 = .ref rf)  : xM l D Y yX9_refuseMissing cX9_refuseMissing 1 none 1 1 6 [.ref h0] [(h0, .inr (8, fl 9 g)), (rf, .inl (Y 0, 3, .inl f))] (qV D (fun (u : Unit) => False) (fun (u : Unit) => [])) (fun E => E = nse) := by
  refine xM.mk RX9 rfl (by decide) (Nat.le_of_ble_eq_true rfl) ?_
  intro p e s m below meth c A F hr hlocks hno hK hZ hP hD hA hS ls hl
  have hx := F.1
  have hb := F.2.1
  have hl : lv_has ls 1 [(0, .ref h0)] := hl
  refine lv_aload_n hx hb dX9_refuseMissing_0 rfl (lv_at hl 0 rfl) ?_
  refine gF (C := RX9) (T := TX9) (ci := 8) (v := .ref rf) F hK hP 0 rfl rfl iwX9 3 (by decide) m_11 (fun _ h => h) g_3 dX9_refuseMissing_1 ?_
  refine lv_iconst (v := 0) hx hb dX9_refuseMissing_4 (by decide) ?_
  refine lv_dup2_11 hx hb dX9_refuseMissing_5 rfl rfl ?_
  refine va_iald hx hb hK.1 hP 1 0 rfl rfl (by unfold vp_in; decide) dX9_refuseMissing_6 ?_
  refine lv_topi (fun z_1 e_z_1 => ?_)
  refine lv_iconst (v := 1) hx hb dX9_refuseMissing_7 (by decide) ?_
  refine lv_iadd hx hb dX9_refuseMissing_8 ?_
  refine lv_topi (fun z_2 e_z_2 => ?_)
  refine va_iast hx hb hK.1 hP hD hS 1 0 rfl rfl (by unfold vp_in; decide) dX9_refuseMissing_9 (fun H locs hP hD hS => ?_)
  have hP : va_P D vwCl [(h0, .inr (8, fl 9 g)), (rf, .inl (Y 0, 3, .inl (upd f (0 : Int32).toNatClampNeg z_2)))] H := hP
  have hD : va_D A [(h0, .inr (8, fl 9 g)), (rf, .inl (Y 0, 3, .inl (upd f (0 : Int32).toNatClampNeg z_2)))] := hD
  generalize (upd f (0 : Int32).toNatClampNeg z_2) = f_3 at hP hD
  exact thrN F hfl hK hZ hS hno hlocks hl.1 m_12 m_13 dX9_refuseMissing_10 dX9_refuseMissing_13 dX9_refuseMissing_14 dX9_refuseMissing_17 dX9_refuseMissing_20 rfl (Nat.le_of_ble_eq_true rfl) (Nat.le_of_ble_eq_true rfl) (Nat.le_of_ble_eq_true rfl) (Nat.le_of_ble_eq_true rfl) (Nat.le_of_ble_eq_true rfl) (Nat.le_of_ble_eq_true rfl)
set_option maxRecDepth 100000 in
set_option maxHeartbeats 4000000 in
theorem c_refA (l : Launch) (hfl : l.stackTraces = false) (D : va_G) (Y : Nat → ClassId) (h0 : Nat) (rf : Nat) (g : Nat → Value) (f : Nat → Int32) (g_3 : g 3 = .ref rf)  : xM l D Y yX9_refuseArgument cX9_refuseArgument 1 none 1 1 6 [.ref h0] [(h0, .inr (8, fl 9 g)), (rf, .inl (Y 0, 3, .inl f))] (qV D (fun (u : Unit) => False) (fun (u : Unit) => [])) (fun E => E = iae) := by
  refine xM.mk RX9 rfl (by decide) (Nat.le_of_ble_eq_true rfl) ?_
  intro p e s m below meth c A F hr hlocks hno hK hZ hP hD hA hS ls hl
  have hx := F.1
  have hb := F.2.1
  have hl : lv_has ls 1 [(0, .ref h0)] := hl
  refine lv_aload_n hx hb dX9_refuseArgument_0 rfl (lv_at hl 0 rfl) ?_
  refine gF (C := RX9) (T := TX9) (ci := 8) (v := .ref rf) F hK hP 0 rfl rfl iwX9 3 (by decide) m_11 (fun _ h => h) g_3 dX9_refuseArgument_1 ?_
  refine lv_iconst (v := 1) hx hb dX9_refuseArgument_4 (by decide) ?_
  refine lv_dup2_11 hx hb dX9_refuseArgument_5 rfl rfl ?_
  refine va_iald hx hb hK.1 hP 1 0 rfl rfl (by unfold vp_in; decide) dX9_refuseArgument_6 ?_
  refine lv_topi (fun z_1 e_z_1 => ?_)
  refine lv_iconst (v := 1) hx hb dX9_refuseArgument_7 (by decide) ?_
  refine lv_iadd hx hb dX9_refuseArgument_8 ?_
  refine lv_topi (fun z_2 e_z_2 => ?_)
  refine va_iast hx hb hK.1 hP hD hS 1 0 rfl rfl (by unfold vp_in; decide) dX9_refuseArgument_9 (fun H locs hP hD hS => ?_)
  have hP : va_P D vwCl [(h0, .inr (8, fl 9 g)), (rf, .inl (Y 0, 3, .inl (upd f (1 : Int32).toNatClampNeg z_2)))] H := hP
  have hD : va_D A [(h0, .inr (8, fl 9 g)), (rf, .inl (Y 0, 3, .inl (upd f (1 : Int32).toNatClampNeg z_2)))] := hD
  generalize (upd f (1 : Int32).toNatClampNeg z_2) = f_3 at hP hD
  exact thrI F hfl hK hZ hS hno hlocks hl.1 m_14 m_15 dX9_refuseArgument_10 dX9_refuseArgument_13 dX9_refuseArgument_14 dX9_refuseArgument_17 dX9_refuseArgument_20 rfl (Nat.le_of_ble_eq_true rfl) (Nat.le_of_ble_eq_true rfl) (Nat.le_of_ble_eq_true rfl) (Nat.le_of_ble_eq_true rfl) (Nat.le_of_ble_eq_true rfl) (Nat.le_of_ble_eq_true rfl)
set_option maxRecDepth 100000 in
set_option maxHeartbeats 4000000 in
theorem c_needIx (l : Launch) (hfl : l.stackTraces = false) (D : va_G) (Y : Nat → ClassId) (h0 : Nat) (rf : Nat) (g : Nat → Value) (f : Nat → Int32) (j : Int32) (g_3 : g 3 = .ref rf)  : xM l D Y yX9_needIndex cX9_needIndex 3 none 2 1 6 [.ref h0, .int j, .int 0] [(h0, .inr (8, fl 9 g)), (rf, .inl (Y 0, 3, .inl f))] (qV D (fun (u : Unit) => False) (fun (u : Unit) => [])) (fun E => E = nse) := by
  refine xM.mk RX9 rfl (by decide) (Nat.le_of_ble_eq_true rfl) ?_
  intro p e s m below meth c A F hr hlocks hno hK hZ hP hD hA hS ls hl
  have hx := F.1
  have hb := F.2.1
  have hl : lv_has ls 3 [(0, .ref h0), (1, .int j), (2, .int 0)] := hl
  refine lv_iload_n hx hb dX9_needIndex_0 rfl (lv_at hl 1 rfl) ?_
  refine lv_if_lt (tgt := 9) hx hb dX9_needIndex_1 (by decide) (fun c9 => ?_) (fun c9 => ?_)
  · skip
    refine lv_aload_n hx hb dX9_needIndex_9 rfl (lv_at hl 0 rfl) ?_
    refine xgoV (wr := []) (xrunV (n := 0) (As := []) (rest := []) (C := RX9) (T := TX9) (N := 9) (ci := 8) F hK hZ hP hD hS hA (c_refM l hfl D Y h0 rf g f g_3 ) 0 rfl rfl [0, 1] rfl rfl m_17 m_18 m_19 m_6 m_16 (by decide +kernel) rfl ⟨Nat.le_of_ble_eq_true rfl, Nat.le_of_ble_eq_true rfl⟩ hl.1 rfl (Nat.le_of_ble_eq_true rfl) dX9_needIndex_10 ⟨Nat.le_of_ble_eq_true rfl, Nat.le_of_ble_eq_true rfl⟩) hP hD hS hA [0, 1] [] rfl rfl rfl (by decide) (fun E ce q9 H locs hE hP hD hS h1 h2 h3 => ?_) (fun u H locs hw hP hD hS => ?_)
    · skip
      exact xOut hno hlocks hE hS h1 h2 h3 (Nat.le_of_ble_eq_true rfl) (Nat.le_of_ble_eq_true rfl)
    · exact hw.elim
  · skip
    refine lv_iload_n hx hb dX9_needIndex_4 rfl (lv_at hl 1 rfl) ?_
    refine lv_iload_n hx hb dX9_needIndex_5 rfl (lv_at hl 2 rfl) ?_
    refine lv_icmp_lt (tgt := 13) hx hb dX9_needIndex_6 (by decide) (fun c8 => ?_) (fun c8 => ?_)
    · skip
      exact absurd c8 c9
    · skip
      refine lv_aload_n hx hb dX9_needIndex_9 rfl (lv_at hl 0 rfl) ?_
      refine xgoV (wr := []) (xrunV (n := 0) (As := []) (rest := []) (C := RX9) (T := TX9) (N := 9) (ci := 8) F hK hZ hP hD hS hA (c_refM l hfl D Y h0 rf g f g_3 ) 0 rfl rfl [0, 1] rfl rfl m_17 m_18 m_19 m_6 m_16 (by decide +kernel) rfl ⟨Nat.le_of_ble_eq_true rfl, Nat.le_of_ble_eq_true rfl⟩ hl.1 rfl (Nat.le_of_ble_eq_true rfl) dX9_needIndex_10 ⟨Nat.le_of_ble_eq_true rfl, Nat.le_of_ble_eq_true rfl⟩) hP hD hS hA [0, 1] [] rfl rfl rfl (by decide) (fun E ce q9 H locs hE hP hD hS h1 h2 h3 => ?_) (fun u H locs hw hP hD hS => ?_)
      · skip
        exact xOut hno hlocks hE hS h1 h2 h3 (Nat.le_of_ble_eq_true rfl) (Nat.le_of_ble_eq_true rfl)
      · exact hw.elim
set_option maxRecDepth 100000 in
set_option maxHeartbeats 4000000 in
theorem c_needP (l : Launch) (hfl : l.stackTraces = false) (D : va_G) (Y : Nat → ClassId) (h0 : Nat) (rf : Nat) (pr : Nat) (g : Nat → Value) (gp : Nat → Value) (f : Nat → Int32) (j : Int32) (g_3 : g 3 = .ref rf) (g_4 : g 4 = .ref pr) (gp_0 : gp 0 = .int 0) (gp_1 : gp 1 = .int 0) (gp_2 : gp 2 = .int 0)  : xM l D Y yX9_needPredicate cX9_needPredicate 2 none 3 1 6 [.ref h0, .int j] [(h0, .inr (8, fl 9 g)), (rf, .inl (Y 0, 3, .inl f)), (pr, .inr (3, fl 9 gp))] (qV D (fun (u : Unit) => False) (fun (u : Unit) => [])) (fun E => E = nse) := by
  refine xM.mk RX9 rfl (by decide) (Nat.le_of_ble_eq_true rfl) ?_
  intro p e s m below meth c A F hr hlocks hno hK hZ hP hD hA hS ls hl
  have hx := F.1
  have hb := F.2.1
  have hl : lv_has ls 2 [(0, .ref h0), (1, .int j)] := hl
  refine lv_aload_n hx hb dX9_needPredicate_0 rfl (lv_at hl 0 rfl) ?_
  refine lv_iload_n hx hb dX9_needPredicate_1 rfl (lv_at hl 1 rfl) ?_
  refine lv_aload_n hx hb dX9_needPredicate_2 rfl (lv_at hl 0 rfl) ?_
  refine gF (C := RX9) (T := TX9) (ci := 8) (v := .ref pr) F hK hP 0 rfl rfl iwX9 4 (by decide) m_20 (fun _ h => h) g_4 dX9_needPredicate_3 ?_
  refine gF (C := RX3) (T := TX3) (ci := 3) (v := .int 0) F hK hP 2 rfl rfl iwX3 0 (by decide) m_21 (fun _ h => h) gp_0 dX9_needPredicate_6 ?_
  refine xgoV (wr := [(pr, .inr (3, fl 9 gp))]) (xrunV (n := 2) (As := [.int j, .int 0]) (rest := []) (C := RX9) (T := TX9) (N := 9) (ci := 8) F hK hZ hP hD hS hA (c_needIx l hfl D Y h0 rf g f j g_3 ) 0 rfl rfl [0, 1] rfl rfl m_23 m_24 m_25 m_6 m_22 (by decide +kernel) rfl ⟨Nat.le_of_ble_eq_true rfl, Nat.le_of_ble_eq_true rfl⟩ hl.1 rfl (Nat.le_of_ble_eq_true rfl) dX9_needPredicate_9 ⟨Nat.le_of_ble_eq_true rfl, Nat.le_of_ble_eq_true rfl⟩) hP hD hS hA [0, 1] [2] rfl rfl rfl (by decide) (fun E ce q9 H locs hE hP hD hS h1 h2 h3 => ?_) (fun u H locs hw hP hD hS => ?_)
  · skip
    exact xOut hno hlocks hE hS h1 h2 h3 (Nat.le_of_ble_eq_true rfl) (Nat.le_of_ble_eq_true rfl)
  · exact hw.elim
set_option maxRecDepth 100000 in
set_option maxHeartbeats 4000000 in
theorem c_needC (l : Launch) (hfl : l.stackTraces = false) (D : va_G) (Y : Nat → ClassId) (h0 : Nat) (rf : Nat) (pr : Nat) (g : Nat → Value) (gp : Nat → Value) (f : Nat → Int32) (j : Int32) (g_3 : g 3 = .ref rf) (g_4 : g 4 = .ref pr) (gp_0 : gp 0 = .int 0) (gp_1 : gp 1 = .int 0) (gp_2 : gp 2 = .int 0)  : xM l D Y yX9_needConstant cX9_needConstant 2 none 3 1 6 [.ref h0, .int j] [(h0, .inr (8, fl 9 g)), (rf, .inl (Y 0, 3, .inl f)), (pr, .inr (3, fl 9 gp))] (qV D (fun (u : Unit) => False) (fun (u : Unit) => [])) (fun E => E = nse) := by
  refine xM.mk RX9 rfl (by decide) (Nat.le_of_ble_eq_true rfl) ?_
  intro p e s m below meth c A F hr hlocks hno hK hZ hP hD hA hS ls hl
  have hx := F.1
  have hb := F.2.1
  have hl : lv_has ls 2 [(0, .ref h0), (1, .int j)] := hl
  refine lv_aload_n hx hb dX9_needConstant_0 rfl (lv_at hl 0 rfl) ?_
  refine lv_iload_n hx hb dX9_needConstant_1 rfl (lv_at hl 1 rfl) ?_
  refine lv_aload_n hx hb dX9_needConstant_2 rfl (lv_at hl 0 rfl) ?_
  refine gF (C := RX9) (T := TX9) (ci := 8) (v := .ref pr) F hK hP 0 rfl rfl iwX9 4 (by decide) m_20 (fun _ h => h) g_4 dX9_needConstant_3 ?_
  refine gF (C := RX3) (T := TX3) (ci := 3) (v := .int 0) F hK hP 2 rfl rfl iwX3 1 (by decide) m_26 (fun _ h => h) gp_1 dX9_needConstant_6 ?_
  refine xgoV (wr := [(pr, .inr (3, fl 9 gp))]) (xrunV (n := 2) (As := [.int j, .int 0]) (rest := []) (C := RX9) (T := TX9) (N := 9) (ci := 8) F hK hZ hP hD hS hA (c_needIx l hfl D Y h0 rf g f j g_3 ) 0 rfl rfl [0, 1] rfl rfl m_23 m_24 m_25 m_6 m_22 (by decide +kernel) rfl ⟨Nat.le_of_ble_eq_true rfl, Nat.le_of_ble_eq_true rfl⟩ hl.1 rfl (Nat.le_of_ble_eq_true rfl) dX9_needConstant_9 ⟨Nat.le_of_ble_eq_true rfl, Nat.le_of_ble_eq_true rfl⟩) hP hD hS hA [0, 1] [2] rfl rfl rfl (by decide) (fun E ce q9 H locs hE hP hD hS h1 h2 h3 => ?_) (fun u H locs hw hP hD hS => ?_)
  · skip
    exact xOut hno hlocks hE hS h1 h2 h3 (Nat.le_of_ble_eq_true rfl) (Nat.le_of_ble_eq_true rfl)
  · exact hw.elim
set_option maxRecDepth 100000 in
set_option maxHeartbeats 4000000 in
theorem c_needAt (l : Launch) (hfl : l.stackTraces = false) (D : va_G) (Y : Nat → ClassId) (h0 : Nat) (rf : Nat) (pr : Nat) (g : Nat → Value) (gp : Nat → Value) (f : Nat → Int32) (j1 : Int32) (j2 : Int32) (j3 : Int32) (g_3 : g 3 = .ref rf) (g_4 : g 4 = .ref pr) (gp_0 : gp 0 = .int 0) (gp_1 : gp 1 = .int 0) (gp_2 : gp 2 = .int 0)  : xM l D Y yX9_needAtom cX9_needAtom 5 none 4 1 6 [.ref h0, .int j1, .int j2, .int j3] [(h0, .inr (8, fl 9 g)), (rf, .inl (Y 0, 3, .inl f)), (pr, .inr (3, fl 9 gp))] (qV D (fun (u : Unit) => False) (fun (u : Unit) => [])) (fun E => E = nse) := by
  refine xM.mk RX9 rfl (by decide) (Nat.le_of_ble_eq_true rfl) ?_
  intro p e s m below meth c A F hr hlocks hno hK hZ hP hD hA hS ls hl
  have hx := F.1
  have hb := F.2.1
  have hl : lv_has ls 5 [(0, .ref h0), (1, .int j1), (2, .int j2), (3, .int j3)] := hl
  refine lv_aload_n hx hb dX9_needAtom_0 rfl (lv_at hl 0 rfl) ?_
  refine lv_iload_n hx hb dX9_needAtom_1 rfl (lv_at hl 1 rfl) ?_
  refine xgoV (wr := []) (xrunV (n := 1) (As := [.int j1]) (rest := []) (C := RX9) (T := TX9) (N := 9) (ci := 8) F hK hZ hP hD hS hA (c_needP l hfl D Y h0 rf pr g gp f j1 g_3 g_4 gp_0 gp_1 gp_2 ) 0 rfl rfl [0, 1, 2] rfl rfl m_28 m_29 m_30 m_6 m_27 (by decide +kernel) rfl ⟨Nat.le_of_ble_eq_true rfl, Nat.le_of_ble_eq_true rfl⟩ hl.1 rfl (Nat.le_of_ble_eq_true rfl) dX9_needAtom_2 ⟨Nat.le_of_ble_eq_true rfl, Nat.le_of_ble_eq_true rfl⟩) hP hD hS hA [0, 1, 2] [] rfl rfl rfl (by decide) (fun E ce q9 H locs hE hP hD hS h1 h2 h3 => ?_) (fun u H locs hw hP hD hS => ?_)
  · skip
    exact xOut hno hlocks hE hS h1 h2 h3 (Nat.le_of_ble_eq_true rfl) (Nat.le_of_ble_eq_true rfl)
  · exact hw.elim
set_option maxRecDepth 100000 in
set_option maxHeartbeats 4000000 in
theorem c_needGo (l : Launch) (hfl : l.stackTraces = false) (D : va_G) (Y : Nat → ClassId) (h0 : Nat) (rf : Nat) (pr : Nat) (g : Nat → Value) (gp : Nat → Value) (f : Nat → Int32) (j1 : Int32) (j2 : Int32) (j3 : Int32) (g_3 : g 3 = .ref rf) (g_4 : g 4 = .ref pr) (gp_0 : gp 0 = .int 0) (gp_1 : gp 1 = .int 0) (gp_2 : gp 2 = .int 0)  : xM l D Y yX9_needGoal cX9_needGoal 5 none 4 1 6 [.ref h0, .int j1, .int j2, .int j3] [(h0, .inr (8, fl 9 g)), (rf, .inl (Y 0, 3, .inl f)), (pr, .inr (3, fl 9 gp))] (qV D (fun (u : Unit) => False) (fun (u : Unit) => [])) (fun E => E = nse) := by
  refine xM.mk RX9 rfl (by decide) (Nat.le_of_ble_eq_true rfl) ?_
  intro p e s m below meth c A F hr hlocks hno hK hZ hP hD hA hS ls hl
  have hx := F.1
  have hb := F.2.1
  have hl : lv_has ls 5 [(0, .ref h0), (1, .int j1), (2, .int j2), (3, .int j3)] := hl
  refine lv_aload_n hx hb dX9_needGoal_0 rfl (lv_at hl 0 rfl) ?_
  refine lv_iload_n hx hb dX9_needGoal_1 rfl (lv_at hl 1 rfl) ?_
  refine xgoV (wr := []) (xrunV (n := 1) (As := [.int j1]) (rest := []) (C := RX9) (T := TX9) (N := 9) (ci := 8) F hK hZ hP hD hS hA (c_needP l hfl D Y h0 rf pr g gp f j1 g_3 g_4 gp_0 gp_1 gp_2 ) 0 rfl rfl [0, 1, 2] rfl rfl m_28 m_29 m_30 m_6 m_27 (by decide +kernel) rfl ⟨Nat.le_of_ble_eq_true rfl, Nat.le_of_ble_eq_true rfl⟩ hl.1 rfl (Nat.le_of_ble_eq_true rfl) dX9_needGoal_2 ⟨Nat.le_of_ble_eq_true rfl, Nat.le_of_ble_eq_true rfl⟩) hP hD hS hA [0, 1, 2] [] rfl rfl rfl (by decide) (fun E ce q9 H locs hE hP hD hS h1 h2 h3 => ?_) (fun u H locs hw hP hD hS => ?_)
  · skip
    exact xOut hno hlocks hE hS h1 h2 h3 (Nat.le_of_ble_eq_true rfl) (Nat.le_of_ble_eq_true rfl)
  · exact hw.elim
end
section
theorem dX9_assume_0 : decode cX9_assume 0 = .ok (.aload_n 0, 1) := by decide +kernel
theorem dX9_assume_1 : decode cX9_assume 1 = .ok (.iload_n 1, 1) := by decide +kernel
theorem dX9_assume_2 : decode cX9_assume 2 = .ok (.iload_n 2, 1) := by decide +kernel
theorem dX9_assume_3 : decode cX9_assume 3 = .ok (.iload_n 3, 1) := by decide +kernel
theorem dX9_assume_4 : decode cX9_assume 4 = .ok (.invokevirtual 90, 3) := by decide +kernel
theorem dX9_retract_0 : decode cX9_retract 0 = .ok (.aload_n 0, 1) := by decide +kernel
theorem dX9_retract_1 : decode cX9_retract 1 = .ok (.iload_n 1, 1) := by decide +kernel
theorem dX9_retract_2 : decode cX9_retract 2 = .ok (.iload_n 2, 1) := by decide +kernel
theorem dX9_retract_3 : decode cX9_retract 3 = .ok (.iload_n 3, 1) := by decide +kernel
theorem dX9_retract_4 : decode cX9_retract 4 = .ok (.invokevirtual 90, 3) := by decide +kernel
theorem dX9_ask_0 : decode cX9_ask 0 = .ok (.aload_n 0, 1) := by decide +kernel
theorem dX9_ask_1 : decode cX9_ask 1 = .ok (.iload_n 1, 1) := by decide +kernel
theorem dX9_ask_2 : decode cX9_ask 2 = .ok (.iload_n 2, 1) := by decide +kernel
theorem dX9_ask_3 : decode cX9_ask 3 = .ok (.iload_n 3, 1) := by decide +kernel
theorem dX9_ask_4 : decode cX9_ask 4 = .ok (.invokevirtual 115, 3) := by decide +kernel
theorem dX9_value_0 : decode cX9_value 0 = .ok (.aload_n 0, 1) := by decide +kernel
theorem dX9_value_1 : decode cX9_value 1 = .ok (.iload_n 1, 1) := by decide +kernel
theorem dX9_value_2 : decode cX9_value 2 = .ok (.iload_n 2, 1) := by decide +kernel
theorem dX9_value_3 : decode cX9_value 3 = .ok (.iload_n 3, 1) := by decide +kernel
theorem dX9_value_4 : decode cX9_value 4 = .ok (.invokevirtual 90, 3) := by decide +kernel
theorem dX9_stage_0 : decode cX9_stage 0 = .ok (.aload_n 0, 1) := by decide +kernel
theorem dX9_stage_1 : decode cX9_stage 1 = .ok (.iload_n 1, 1) := by decide +kernel
theorem dX9_stage_2 : decode cX9_stage 2 = .ok (.iload_n 2, 1) := by decide +kernel
theorem dX9_stage_3 : decode cX9_stage 3 = .ok (.iload_n 3, 1) := by decide +kernel
theorem dX9_stage_4 : decode cX9_stage 4 = .ok (.invokevirtual 90, 3) := by decide +kernel
theorem dX9_find_0 : decode cX9_find 0 = .ok (.aload_n 0, 1) := by decide +kernel
theorem dX9_find_1 : decode cX9_find 1 = .ok (.iload_n 1, 1) := by decide +kernel
theorem dX9_find_2 : decode cX9_find 2 = .ok (.iload_n 2, 1) := by decide +kernel
theorem dX9_find_3 : decode cX9_find 3 = .ok (.iload_n 3, 1) := by decide +kernel
theorem dX9_find_4 : decode cX9_find 4 = .ok (.invokevirtual 115, 3) := by decide +kernel
theorem dX9_reach_0 : decode cX9_reach 0 = .ok (.aload_n 0, 1) := by decide +kernel
theorem dX9_reach_1 : decode cX9_reach 1 = .ok (.iload_n 1, 1) := by decide +kernel
theorem dX9_reach_2 : decode cX9_reach 2 = .ok (.iload_n 2, 1) := by decide +kernel
theorem dX9_reach_3 : decode cX9_reach 3 = .ok (.iload_n 3, 1) := by decide +kernel
theorem dX9_reach_4 : decode cX9_reach 4 = .ok (.invokevirtual 115, 3) := by decide +kernel
theorem dX9_condition_0 : decode cX9_condition 0 = .ok (.aload_n 0, 1) := by decide +kernel
theorem dX9_condition_1 : decode cX9_condition 1 = .ok (.iload_n 1, 1) := by decide +kernel
theorem dX9_condition_2 : decode cX9_condition 2 = .ok (.iload_n 2, 1) := by decide +kernel
theorem dX9_condition_3 : decode cX9_condition 3 = .ok (.iload_n 3, 1) := by decide +kernel
theorem dX9_condition_4 : decode cX9_condition 4 = .ok (.invokevirtual 90, 3) := by decide +kernel
theorem dX9_predicate_0 : decode cX9_predicate 0 = .ok (.aload_n 0, 1) := by decide +kernel
theorem dX9_predicate_1 : decode cX9_predicate 1 = .ok (.iload_n 1, 1) := by decide +kernel
theorem dX9_predicate_2 : decode cX9_predicate 2 = .ok (.invokevirtual 166, 3) := by decide +kernel
theorem dX9_clause_0 : decode cX9_clause 0 = .ok (.aload_n 0, 1) := by decide +kernel
theorem dX9_clause_1 : decode cX9_clause 1 = .ok (.iload_n 1, 1) := by decide +kernel
theorem dX9_clause_2 : decode cX9_clause 2 = .ok (.aload_n 0, 1) := by decide +kernel
theorem dX9_clause_3 : decode cX9_clause 3 = .ok (.getfield 23, 3) := by decide +kernel
theorem dX9_clause_6 : decode cX9_clause 6 = .ok (.getfield 87, 3) := by decide +kernel
theorem dX9_clause_9 : decode cX9_clause 9 = .ok (.invokevirtual 199, 3) := by decide +kernel
theorem dX9_literals_0 : decode cX9_literals 0 = .ok (.aload_n 0, 1) := by decide +kernel
theorem dX9_literals_1 : decode cX9_literals 1 = .ok (.iload_n 1, 1) := by decide +kernel
theorem dX9_literals_2 : decode cX9_literals 2 = .ok (.aload_n 0, 1) := by decide +kernel
theorem dX9_literals_3 : decode cX9_literals 3 = .ok (.getfield 23, 3) := by decide +kernel
theorem dX9_literals_6 : decode cX9_literals 6 = .ok (.getfield 87, 3) := by decide +kernel
theorem dX9_literals_9 : decode cX9_literals 9 = .ok (.invokevirtual 199, 3) := by decide +kernel
set_option maxRecDepth 100000 in
set_option maxHeartbeats 4000000 in
theorem c_xassume (l : Launch) (hfl : l.stackTraces = false) (D : va_G) (Y : Nat → ClassId) (h0 : Nat) (rf : Nat) (pr : Nat) (g : Nat → Value) (gp : Nat → Value) (f : Nat → Int32) (j1 : Int32) (j2 : Int32) (j3 : Int32) (g_3 : g 3 = .ref rf) (g_4 : g 4 = .ref pr) (gp_0 : gp 0 = .int 0) (gp_1 : gp 1 = .int 0) (gp_2 : gp 2 = .int 0)  : xM l D Y yX9_assume cX9_assume 4 (some .int) 5 1 6 [.ref h0, .int j1, .int j2, .int j3] [(h0, .inr (8, fl 9 g)), (rf, .inl (Y 0, 3, .inl f)), (pr, .inr (3, fl 9 gp))] (qI D (fun (r : Int32) (u : Unit) => False) (fun (u : Unit) => [])) (fun E => E = nse) := by
  refine xM.mk RX9 rfl (by decide) (Nat.le_of_ble_eq_true rfl) ?_
  intro p e s m below meth c A F hr hlocks hno hK hZ hP hD hA hS ls hl
  have hx := F.1
  have hb := F.2.1
  have hl : lv_has ls 4 [(0, .ref h0), (1, .int j1), (2, .int j2), (3, .int j3)] := hl
  refine lv_aload_n hx hb dX9_assume_0 rfl (lv_at hl 0 rfl) ?_
  refine lv_iload_n hx hb dX9_assume_1 rfl (lv_at hl 1 rfl) ?_
  refine lv_iload_n hx hb dX9_assume_2 rfl (lv_at hl 2 rfl) ?_
  refine lv_iload_n hx hb dX9_assume_3 rfl (lv_at hl 3 rfl) ?_
  refine xgoV (wr := []) (xrunV (n := 3) (As := [.int j1, .int j2, .int j3]) (rest := []) (C := RX9) (T := TX9) (N := 9) (ci := 8) F hK hZ hP hD hS hA (c_needAt l hfl D Y h0 rf pr g gp f j1 j2 j3 g_3 g_4 gp_0 gp_1 gp_2 ) 0 rfl rfl [0, 1, 2] rfl rfl m_32 m_33 m_34 m_6 m_31 (by decide +kernel) rfl ⟨Nat.le_of_ble_eq_true rfl, Nat.le_of_ble_eq_true rfl⟩ hl.1 rfl (Nat.le_of_ble_eq_true rfl) dX9_assume_4 ⟨Nat.le_of_ble_eq_true rfl, Nat.le_of_ble_eq_true rfl⟩) hP hD hS hA [0, 1, 2] [] rfl rfl rfl (by decide) (fun E ce q9 H locs hE hP hD hS h1 h2 h3 => ?_) (fun u H locs hw hP hD hS => ?_)
  · skip
    exact xOut hno hlocks hE hS h1 h2 h3 (Nat.le_of_ble_eq_true rfl) (Nat.le_of_ble_eq_true rfl)
  · exact hw.elim
set_option maxRecDepth 100000 in
set_option maxHeartbeats 4000000 in
theorem c_xretract (l : Launch) (hfl : l.stackTraces = false) (D : va_G) (Y : Nat → ClassId) (h0 : Nat) (rf : Nat) (pr : Nat) (g : Nat → Value) (gp : Nat → Value) (f : Nat → Int32) (j1 : Int32) (j2 : Int32) (j3 : Int32) (g_3 : g 3 = .ref rf) (g_4 : g 4 = .ref pr) (gp_0 : gp 0 = .int 0) (gp_1 : gp 1 = .int 0) (gp_2 : gp 2 = .int 0)  : xM l D Y yX9_retract cX9_retract 5 (some .int) 5 1 6 [.ref h0, .int j1, .int j2, .int j3] [(h0, .inr (8, fl 9 g)), (rf, .inl (Y 0, 3, .inl f)), (pr, .inr (3, fl 9 gp))] (qI D (fun (r : Int32) (u : Unit) => False) (fun (u : Unit) => [])) (fun E => E = nse) := by
  refine xM.mk RX9 rfl (by decide) (Nat.le_of_ble_eq_true rfl) ?_
  intro p e s m below meth c A F hr hlocks hno hK hZ hP hD hA hS ls hl
  have hx := F.1
  have hb := F.2.1
  have hl : lv_has ls 5 [(0, .ref h0), (1, .int j1), (2, .int j2), (3, .int j3)] := hl
  refine lv_aload_n hx hb dX9_retract_0 rfl (lv_at hl 0 rfl) ?_
  refine lv_iload_n hx hb dX9_retract_1 rfl (lv_at hl 1 rfl) ?_
  refine lv_iload_n hx hb dX9_retract_2 rfl (lv_at hl 2 rfl) ?_
  refine lv_iload_n hx hb dX9_retract_3 rfl (lv_at hl 3 rfl) ?_
  refine xgoV (wr := []) (xrunV (n := 3) (As := [.int j1, .int j2, .int j3]) (rest := []) (C := RX9) (T := TX9) (N := 9) (ci := 8) F hK hZ hP hD hS hA (c_needAt l hfl D Y h0 rf pr g gp f j1 j2 j3 g_3 g_4 gp_0 gp_1 gp_2 ) 0 rfl rfl [0, 1, 2] rfl rfl m_32 m_33 m_34 m_6 m_31 (by decide +kernel) rfl ⟨Nat.le_of_ble_eq_true rfl, Nat.le_of_ble_eq_true rfl⟩ hl.1 rfl (Nat.le_of_ble_eq_true rfl) dX9_retract_4 ⟨Nat.le_of_ble_eq_true rfl, Nat.le_of_ble_eq_true rfl⟩) hP hD hS hA [0, 1, 2] [] rfl rfl rfl (by decide) (fun E ce q9 H locs hE hP hD hS h1 h2 h3 => ?_) (fun u H locs hw hP hD hS => ?_)
  · skip
    exact xOut hno hlocks hE hS h1 h2 h3 (Nat.le_of_ble_eq_true rfl) (Nat.le_of_ble_eq_true rfl)
  · exact hw.elim
set_option maxRecDepth 100000 in
set_option maxHeartbeats 4000000 in
theorem c_xask (l : Launch) (hfl : l.stackTraces = false) (D : va_G) (Y : Nat → ClassId) (h0 : Nat) (rf : Nat) (pr : Nat) (g : Nat → Value) (gp : Nat → Value) (f : Nat → Int32) (j1 : Int32) (j2 : Int32) (j3 : Int32) (g_3 : g 3 = .ref rf) (g_4 : g 4 = .ref pr) (gp_0 : gp 0 = .int 0) (gp_1 : gp 1 = .int 0) (gp_2 : gp 2 = .int 0)  : xM l D Y yX9_ask cX9_ask 4 (some .int) 5 1 6 [.ref h0, .int j1, .int j2, .int j3] [(h0, .inr (8, fl 9 g)), (rf, .inl (Y 0, 3, .inl f)), (pr, .inr (3, fl 9 gp))] (qI D (fun (r : Int32) (u : Unit) => False) (fun (u : Unit) => [])) (fun E => E = nse) := by
  refine xM.mk RX9 rfl (by decide) (Nat.le_of_ble_eq_true rfl) ?_
  intro p e s m below meth c A F hr hlocks hno hK hZ hP hD hA hS ls hl
  have hx := F.1
  have hb := F.2.1
  have hl : lv_has ls 4 [(0, .ref h0), (1, .int j1), (2, .int j2), (3, .int j3)] := hl
  refine lv_aload_n hx hb dX9_ask_0 rfl (lv_at hl 0 rfl) ?_
  refine lv_iload_n hx hb dX9_ask_1 rfl (lv_at hl 1 rfl) ?_
  refine lv_iload_n hx hb dX9_ask_2 rfl (lv_at hl 2 rfl) ?_
  refine lv_iload_n hx hb dX9_ask_3 rfl (lv_at hl 3 rfl) ?_
  refine xgoV (wr := []) (xrunV (n := 3) (As := [.int j1, .int j2, .int j3]) (rest := []) (C := RX9) (T := TX9) (N := 9) (ci := 8) F hK hZ hP hD hS hA (c_needGo l hfl D Y h0 rf pr g gp f j1 j2 j3 g_3 g_4 gp_0 gp_1 gp_2 ) 0 rfl rfl [0, 1, 2] rfl rfl m_36 m_37 m_38 m_6 m_35 (by decide +kernel) rfl ⟨Nat.le_of_ble_eq_true rfl, Nat.le_of_ble_eq_true rfl⟩ hl.1 rfl (Nat.le_of_ble_eq_true rfl) dX9_ask_4 ⟨Nat.le_of_ble_eq_true rfl, Nat.le_of_ble_eq_true rfl⟩) hP hD hS hA [0, 1, 2] [] rfl rfl rfl (by decide) (fun E ce q9 H locs hE hP hD hS h1 h2 h3 => ?_) (fun u H locs hw hP hD hS => ?_)
  · skip
    exact xOut hno hlocks hE hS h1 h2 h3 (Nat.le_of_ble_eq_true rfl) (Nat.le_of_ble_eq_true rfl)
  · exact hw.elim
set_option maxRecDepth 100000 in
set_option maxHeartbeats 4000000 in
theorem c_xvalue (l : Launch) (hfl : l.stackTraces = false) (D : va_G) (Y : Nat → ClassId) (h0 : Nat) (rf : Nat) (pr : Nat) (g : Nat → Value) (gp : Nat → Value) (f : Nat → Int32) (j1 : Int32) (j2 : Int32) (j3 : Int32) (g_3 : g 3 = .ref rf) (g_4 : g 4 = .ref pr) (gp_0 : gp 0 = .int 0) (gp_1 : gp 1 = .int 0) (gp_2 : gp 2 = .int 0)  : xM l D Y yX9_value cX9_value 4 (some .int) 5 1 6 [.ref h0, .int j1, .int j2, .int j3] [(h0, .inr (8, fl 9 g)), (rf, .inl (Y 0, 3, .inl f)), (pr, .inr (3, fl 9 gp))] (qI D (fun (r : Int32) (u : Unit) => False) (fun (u : Unit) => [])) (fun E => E = nse) := by
  refine xM.mk RX9 rfl (by decide) (Nat.le_of_ble_eq_true rfl) ?_
  intro p e s m below meth c A F hr hlocks hno hK hZ hP hD hA hS ls hl
  have hx := F.1
  have hb := F.2.1
  have hl : lv_has ls 4 [(0, .ref h0), (1, .int j1), (2, .int j2), (3, .int j3)] := hl
  refine lv_aload_n hx hb dX9_value_0 rfl (lv_at hl 0 rfl) ?_
  refine lv_iload_n hx hb dX9_value_1 rfl (lv_at hl 1 rfl) ?_
  refine lv_iload_n hx hb dX9_value_2 rfl (lv_at hl 2 rfl) ?_
  refine lv_iload_n hx hb dX9_value_3 rfl (lv_at hl 3 rfl) ?_
  refine xgoV (wr := []) (xrunV (n := 3) (As := [.int j1, .int j2, .int j3]) (rest := []) (C := RX9) (T := TX9) (N := 9) (ci := 8) F hK hZ hP hD hS hA (c_needAt l hfl D Y h0 rf pr g gp f j1 j2 j3 g_3 g_4 gp_0 gp_1 gp_2 ) 0 rfl rfl [0, 1, 2] rfl rfl m_32 m_33 m_34 m_6 m_31 (by decide +kernel) rfl ⟨Nat.le_of_ble_eq_true rfl, Nat.le_of_ble_eq_true rfl⟩ hl.1 rfl (Nat.le_of_ble_eq_true rfl) dX9_value_4 ⟨Nat.le_of_ble_eq_true rfl, Nat.le_of_ble_eq_true rfl⟩) hP hD hS hA [0, 1, 2] [] rfl rfl rfl (by decide) (fun E ce q9 H locs hE hP hD hS h1 h2 h3 => ?_) (fun u H locs hw hP hD hS => ?_)
  · skip
    exact xOut hno hlocks hE hS h1 h2 h3 (Nat.le_of_ble_eq_true rfl) (Nat.le_of_ble_eq_true rfl)
  · exact hw.elim
set_option maxRecDepth 100000 in
set_option maxHeartbeats 4000000 in
theorem c_xstage (l : Launch) (hfl : l.stackTraces = false) (D : va_G) (Y : Nat → ClassId) (h0 : Nat) (rf : Nat) (pr : Nat) (g : Nat → Value) (gp : Nat → Value) (f : Nat → Int32) (j1 : Int32) (j2 : Int32) (j3 : Int32) (g_3 : g 3 = .ref rf) (g_4 : g 4 = .ref pr) (gp_0 : gp 0 = .int 0) (gp_1 : gp 1 = .int 0) (gp_2 : gp 2 = .int 0)  : xM l D Y yX9_stage cX9_stage 4 (some .int) 5 1 6 [.ref h0, .int j1, .int j2, .int j3] [(h0, .inr (8, fl 9 g)), (rf, .inl (Y 0, 3, .inl f)), (pr, .inr (3, fl 9 gp))] (qI D (fun (r : Int32) (u : Unit) => False) (fun (u : Unit) => [])) (fun E => E = nse) := by
  refine xM.mk RX9 rfl (by decide) (Nat.le_of_ble_eq_true rfl) ?_
  intro p e s m below meth c A F hr hlocks hno hK hZ hP hD hA hS ls hl
  have hx := F.1
  have hb := F.2.1
  have hl : lv_has ls 4 [(0, .ref h0), (1, .int j1), (2, .int j2), (3, .int j3)] := hl
  refine lv_aload_n hx hb dX9_stage_0 rfl (lv_at hl 0 rfl) ?_
  refine lv_iload_n hx hb dX9_stage_1 rfl (lv_at hl 1 rfl) ?_
  refine lv_iload_n hx hb dX9_stage_2 rfl (lv_at hl 2 rfl) ?_
  refine lv_iload_n hx hb dX9_stage_3 rfl (lv_at hl 3 rfl) ?_
  refine xgoV (wr := []) (xrunV (n := 3) (As := [.int j1, .int j2, .int j3]) (rest := []) (C := RX9) (T := TX9) (N := 9) (ci := 8) F hK hZ hP hD hS hA (c_needAt l hfl D Y h0 rf pr g gp f j1 j2 j3 g_3 g_4 gp_0 gp_1 gp_2 ) 0 rfl rfl [0, 1, 2] rfl rfl m_32 m_33 m_34 m_6 m_31 (by decide +kernel) rfl ⟨Nat.le_of_ble_eq_true rfl, Nat.le_of_ble_eq_true rfl⟩ hl.1 rfl (Nat.le_of_ble_eq_true rfl) dX9_stage_4 ⟨Nat.le_of_ble_eq_true rfl, Nat.le_of_ble_eq_true rfl⟩) hP hD hS hA [0, 1, 2] [] rfl rfl rfl (by decide) (fun E ce q9 H locs hE hP hD hS h1 h2 h3 => ?_) (fun u H locs hw hP hD hS => ?_)
  · skip
    exact xOut hno hlocks hE hS h1 h2 h3 (Nat.le_of_ble_eq_true rfl) (Nat.le_of_ble_eq_true rfl)
  · exact hw.elim
set_option maxRecDepth 100000 in
set_option maxHeartbeats 4000000 in
theorem c_xfind (l : Launch) (hfl : l.stackTraces = false) (D : va_G) (Y : Nat → ClassId) (h0 : Nat) (rf : Nat) (pr : Nat) (g : Nat → Value) (gp : Nat → Value) (f : Nat → Int32) (j1 : Int32) (j2 : Int32) (j3 : Int32) (g_3 : g 3 = .ref rf) (g_4 : g 4 = .ref pr) (gp_0 : gp 0 = .int 0) (gp_1 : gp 1 = .int 0) (gp_2 : gp 2 = .int 0)  : xM l D Y yX9_find cX9_find 4 (some .int) 5 1 6 [.ref h0, .int j1, .int j2, .int j3] [(h0, .inr (8, fl 9 g)), (rf, .inl (Y 0, 3, .inl f)), (pr, .inr (3, fl 9 gp))] (qI D (fun (r : Int32) (u : Unit) => False) (fun (u : Unit) => [])) (fun E => E = nse) := by
  refine xM.mk RX9 rfl (by decide) (Nat.le_of_ble_eq_true rfl) ?_
  intro p e s m below meth c A F hr hlocks hno hK hZ hP hD hA hS ls hl
  have hx := F.1
  have hb := F.2.1
  have hl : lv_has ls 4 [(0, .ref h0), (1, .int j1), (2, .int j2), (3, .int j3)] := hl
  refine lv_aload_n hx hb dX9_find_0 rfl (lv_at hl 0 rfl) ?_
  refine lv_iload_n hx hb dX9_find_1 rfl (lv_at hl 1 rfl) ?_
  refine lv_iload_n hx hb dX9_find_2 rfl (lv_at hl 2 rfl) ?_
  refine lv_iload_n hx hb dX9_find_3 rfl (lv_at hl 3 rfl) ?_
  refine xgoV (wr := []) (xrunV (n := 3) (As := [.int j1, .int j2, .int j3]) (rest := []) (C := RX9) (T := TX9) (N := 9) (ci := 8) F hK hZ hP hD hS hA (c_needGo l hfl D Y h0 rf pr g gp f j1 j2 j3 g_3 g_4 gp_0 gp_1 gp_2 ) 0 rfl rfl [0, 1, 2] rfl rfl m_36 m_37 m_38 m_6 m_35 (by decide +kernel) rfl ⟨Nat.le_of_ble_eq_true rfl, Nat.le_of_ble_eq_true rfl⟩ hl.1 rfl (Nat.le_of_ble_eq_true rfl) dX9_find_4 ⟨Nat.le_of_ble_eq_true rfl, Nat.le_of_ble_eq_true rfl⟩) hP hD hS hA [0, 1, 2] [] rfl rfl rfl (by decide) (fun E ce q9 H locs hE hP hD hS h1 h2 h3 => ?_) (fun u H locs hw hP hD hS => ?_)
  · skip
    exact xOut hno hlocks hE hS h1 h2 h3 (Nat.le_of_ble_eq_true rfl) (Nat.le_of_ble_eq_true rfl)
  · exact hw.elim
set_option maxRecDepth 100000 in
set_option maxHeartbeats 4000000 in
theorem c_xreach (l : Launch) (hfl : l.stackTraces = false) (D : va_G) (Y : Nat → ClassId) (h0 : Nat) (rf : Nat) (pr : Nat) (g : Nat → Value) (gp : Nat → Value) (f : Nat → Int32) (j1 : Int32) (j2 : Int32) (j3 : Int32) (g_3 : g 3 = .ref rf) (g_4 : g 4 = .ref pr) (gp_0 : gp 0 = .int 0) (gp_1 : gp 1 = .int 0) (gp_2 : gp 2 = .int 0)  : xM l D Y yX9_reach cX9_reach 4 (some .int) 5 1 6 [.ref h0, .int j1, .int j2, .int j3] [(h0, .inr (8, fl 9 g)), (rf, .inl (Y 0, 3, .inl f)), (pr, .inr (3, fl 9 gp))] (qI D (fun (r : Int32) (u : Unit) => False) (fun (u : Unit) => [])) (fun E => E = nse) := by
  refine xM.mk RX9 rfl (by decide) (Nat.le_of_ble_eq_true rfl) ?_
  intro p e s m below meth c A F hr hlocks hno hK hZ hP hD hA hS ls hl
  have hx := F.1
  have hb := F.2.1
  have hl : lv_has ls 4 [(0, .ref h0), (1, .int j1), (2, .int j2), (3, .int j3)] := hl
  refine lv_aload_n hx hb dX9_reach_0 rfl (lv_at hl 0 rfl) ?_
  refine lv_iload_n hx hb dX9_reach_1 rfl (lv_at hl 1 rfl) ?_
  refine lv_iload_n hx hb dX9_reach_2 rfl (lv_at hl 2 rfl) ?_
  refine lv_iload_n hx hb dX9_reach_3 rfl (lv_at hl 3 rfl) ?_
  refine xgoV (wr := []) (xrunV (n := 3) (As := [.int j1, .int j2, .int j3]) (rest := []) (C := RX9) (T := TX9) (N := 9) (ci := 8) F hK hZ hP hD hS hA (c_needGo l hfl D Y h0 rf pr g gp f j1 j2 j3 g_3 g_4 gp_0 gp_1 gp_2 ) 0 rfl rfl [0, 1, 2] rfl rfl m_36 m_37 m_38 m_6 m_35 (by decide +kernel) rfl ⟨Nat.le_of_ble_eq_true rfl, Nat.le_of_ble_eq_true rfl⟩ hl.1 rfl (Nat.le_of_ble_eq_true rfl) dX9_reach_4 ⟨Nat.le_of_ble_eq_true rfl, Nat.le_of_ble_eq_true rfl⟩) hP hD hS hA [0, 1, 2] [] rfl rfl rfl (by decide) (fun E ce q9 H locs hE hP hD hS h1 h2 h3 => ?_) (fun u H locs hw hP hD hS => ?_)
  · skip
    exact xOut hno hlocks hE hS h1 h2 h3 (Nat.le_of_ble_eq_true rfl) (Nat.le_of_ble_eq_true rfl)
  · exact hw.elim
set_option maxRecDepth 100000 in
set_option maxHeartbeats 4000000 in
theorem c_xcondition (l : Launch) (hfl : l.stackTraces = false) (D : va_G) (Y : Nat → ClassId) (h0 : Nat) (rf : Nat) (pr : Nat) (g : Nat → Value) (gp : Nat → Value) (f : Nat → Int32) (j1 : Int32) (j2 : Int32) (j3 : Int32) (j4 : Int32) (j5 : Int32) (g_3 : g 3 = .ref rf) (g_4 : g 4 = .ref pr) (gp_0 : gp 0 = .int 0) (gp_1 : gp 1 = .int 0) (gp_2 : gp 2 = .int 0)  : xM l D Y yX9_condition cX9_condition 6 (some .int) 5 1 6 [.ref h0, .int j1, .int j2, .int j3, .int j4, .int j5] [(h0, .inr (8, fl 9 g)), (rf, .inl (Y 0, 3, .inl f)), (pr, .inr (3, fl 9 gp))] (qI D (fun (r : Int32) (u : Unit) => False) (fun (u : Unit) => [])) (fun E => E = nse) := by
  refine xM.mk RX9 rfl (by decide) (Nat.le_of_ble_eq_true rfl) ?_
  intro p e s m below meth c A F hr hlocks hno hK hZ hP hD hA hS ls hl
  have hx := F.1
  have hb := F.2.1
  have hl : lv_has ls 6 [(0, .ref h0), (1, .int j1), (2, .int j2), (3, .int j3), (4, .int j4), (5, .int j5)] := hl
  refine lv_aload_n hx hb dX9_condition_0 rfl (lv_at hl 0 rfl) ?_
  refine lv_iload_n hx hb dX9_condition_1 rfl (lv_at hl 1 rfl) ?_
  refine lv_iload_n hx hb dX9_condition_2 rfl (lv_at hl 2 rfl) ?_
  refine lv_iload_n hx hb dX9_condition_3 rfl (lv_at hl 3 rfl) ?_
  refine xgoV (wr := []) (xrunV (n := 3) (As := [.int j1, .int j2, .int j3]) (rest := []) (C := RX9) (T := TX9) (N := 9) (ci := 8) F hK hZ hP hD hS hA (c_needAt l hfl D Y h0 rf pr g gp f j1 j2 j3 g_3 g_4 gp_0 gp_1 gp_2 ) 0 rfl rfl [0, 1, 2] rfl rfl m_32 m_33 m_34 m_6 m_31 (by decide +kernel) rfl ⟨Nat.le_of_ble_eq_true rfl, Nat.le_of_ble_eq_true rfl⟩ hl.1 rfl (Nat.le_of_ble_eq_true rfl) dX9_condition_4 ⟨Nat.le_of_ble_eq_true rfl, Nat.le_of_ble_eq_true rfl⟩) hP hD hS hA [0, 1, 2] [] rfl rfl rfl (by decide) (fun E ce q9 H locs hE hP hD hS h1 h2 h3 => ?_) (fun u H locs hw hP hD hS => ?_)
  · skip
    exact xOut hno hlocks hE hS h1 h2 h3 (Nat.le_of_ble_eq_true rfl) (Nat.le_of_ble_eq_true rfl)
  · exact hw.elim
set_option maxRecDepth 100000 in
set_option maxHeartbeats 4000000 in
theorem c_xpredicate (l : Launch) (hfl : l.stackTraces = false) (D : va_G) (Y : Nat → ClassId) (h0 : Nat) (rf : Nat) (pr : Nat) (g : Nat → Value) (gp : Nat → Value) (f : Nat → Int32) (j1 : Int32) (j2 : Int32) (g_3 : g 3 = .ref rf) (g_4 : g 4 = .ref pr) (gp_0 : gp 0 = .int 0) (gp_1 : gp 1 = .int 0) (gp_2 : gp 2 = .int 0)  : xM l D Y yX9_predicate cX9_predicate 3 (some .int) 4 1 6 [.ref h0, .int j1, .int j2] [(h0, .inr (8, fl 9 g)), (rf, .inl (Y 0, 3, .inl f)), (pr, .inr (3, fl 9 gp))] (qI D (fun (r : Int32) (u : Unit) => False) (fun (u : Unit) => [])) (fun E => E = nse) := by
  refine xM.mk RX9 rfl (by decide) (Nat.le_of_ble_eq_true rfl) ?_
  intro p e s m below meth c A F hr hlocks hno hK hZ hP hD hA hS ls hl
  have hx := F.1
  have hb := F.2.1
  have hl : lv_has ls 3 [(0, .ref h0), (1, .int j1), (2, .int j2)] := hl
  refine lv_aload_n hx hb dX9_predicate_0 rfl (lv_at hl 0 rfl) ?_
  refine lv_iload_n hx hb dX9_predicate_1 rfl (lv_at hl 1 rfl) ?_
  refine xgoV (wr := []) (xrunV (n := 1) (As := [.int j1]) (rest := []) (C := RX9) (T := TX9) (N := 9) (ci := 8) F hK hZ hP hD hS hA (c_needP l hfl D Y h0 rf pr g gp f j1 g_3 g_4 gp_0 gp_1 gp_2 ) 0 rfl rfl [0, 1, 2] rfl rfl m_28 m_29 m_30 m_6 m_27 (by decide +kernel) rfl ⟨Nat.le_of_ble_eq_true rfl, Nat.le_of_ble_eq_true rfl⟩ hl.1 rfl (Nat.le_of_ble_eq_true rfl) dX9_predicate_2 ⟨Nat.le_of_ble_eq_true rfl, Nat.le_of_ble_eq_true rfl⟩) hP hD hS hA [0, 1, 2] [] rfl rfl rfl (by decide) (fun E ce q9 H locs hE hP hD hS h1 h2 h3 => ?_) (fun u H locs hw hP hD hS => ?_)
  · skip
    exact xOut hno hlocks hE hS h1 h2 h3 (Nat.le_of_ble_eq_true rfl) (Nat.le_of_ble_eq_true rfl)
  · exact hw.elim
set_option maxRecDepth 100000 in
set_option maxHeartbeats 4000000 in
theorem c_xclause (l : Launch) (hfl : l.stackTraces = false) (D : va_G) (Y : Nat → ClassId) (h0 : Nat) (rf : Nat) (pr : Nat) (g : Nat → Value) (gp : Nat → Value) (f : Nat → Int32) (j1 : Int32) (j2 : Int32) (j3 : Int32) (g_3 : g 3 = .ref rf) (g_4 : g 4 = .ref pr) (gp_0 : gp 0 = .int 0) (gp_1 : gp 1 = .int 0) (gp_2 : gp 2 = .int 0)  : xM l D Y yX9_clause cX9_clause 4 (some .int) 4 1 6 [.ref h0, .int j1, .int j2, .int j3] [(h0, .inr (8, fl 9 g)), (rf, .inl (Y 0, 3, .inl f)), (pr, .inr (3, fl 9 gp))] (qI D (fun (r : Int32) (u : Unit) => False) (fun (u : Unit) => [])) (fun E => E = nse) := by
  refine xM.mk RX9 rfl (by decide) (Nat.le_of_ble_eq_true rfl) ?_
  intro p e s m below meth c A F hr hlocks hno hK hZ hP hD hA hS ls hl
  have hx := F.1
  have hb := F.2.1
  have hl : lv_has ls 4 [(0, .ref h0), (1, .int j1), (2, .int j2), (3, .int j3)] := hl
  refine lv_aload_n hx hb dX9_clause_0 rfl (lv_at hl 0 rfl) ?_
  refine lv_iload_n hx hb dX9_clause_1 rfl (lv_at hl 1 rfl) ?_
  refine lv_aload_n hx hb dX9_clause_2 rfl (lv_at hl 0 rfl) ?_
  refine gF (C := RX9) (T := TX9) (ci := 8) (v := .ref pr) F hK hP 0 rfl rfl iwX9 4 (by decide) m_20 (fun _ h => h) g_4 dX9_clause_3 ?_
  refine gF (C := RX3) (T := TX3) (ci := 3) (v := .int 0) F hK hP 2 rfl rfl iwX3 2 (by decide) m_39 (fun _ h => h) gp_2 dX9_clause_6 ?_
  refine xgoV (wr := [(pr, .inr (3, fl 9 gp))]) (xrunV (n := 2) (As := [.int j1, .int 0]) (rest := []) (C := RX9) (T := TX9) (N := 9) (ci := 8) F hK hZ hP hD hS hA (c_needIx l hfl D Y h0 rf g f j1 g_3 ) 0 rfl rfl [0, 1] rfl rfl m_23 m_24 m_25 m_6 m_22 (by decide +kernel) rfl ⟨Nat.le_of_ble_eq_true rfl, Nat.le_of_ble_eq_true rfl⟩ hl.1 rfl (Nat.le_of_ble_eq_true rfl) dX9_clause_9 ⟨Nat.le_of_ble_eq_true rfl, Nat.le_of_ble_eq_true rfl⟩) hP hD hS hA [0, 1] [2] rfl rfl rfl (by decide) (fun E ce q9 H locs hE hP hD hS h1 h2 h3 => ?_) (fun u H locs hw hP hD hS => ?_)
  · skip
    exact xOut hno hlocks hE hS h1 h2 h3 (Nat.le_of_ble_eq_true rfl) (Nat.le_of_ble_eq_true rfl)
  · exact hw.elim
set_option maxRecDepth 100000 in
set_option maxHeartbeats 4000000 in
theorem c_xliterals (l : Launch) (hfl : l.stackTraces = false) (D : va_G) (Y : Nat → ClassId) (h0 : Nat) (rf : Nat) (pr : Nat) (g : Nat → Value) (gp : Nat → Value) (f : Nat → Int32) (j1 : Int32) (g_3 : g 3 = .ref rf) (g_4 : g 4 = .ref pr) (gp_0 : gp 0 = .int 0) (gp_1 : gp 1 = .int 0) (gp_2 : gp 2 = .int 0)  : xM l D Y yX9_literals cX9_literals 2 (some .int) 4 1 6 [.ref h0, .int j1] [(h0, .inr (8, fl 9 g)), (rf, .inl (Y 0, 3, .inl f)), (pr, .inr (3, fl 9 gp))] (qI D (fun (r : Int32) (u : Unit) => False) (fun (u : Unit) => [])) (fun E => E = nse) := by
  refine xM.mk RX9 rfl (by decide) (Nat.le_of_ble_eq_true rfl) ?_
  intro p e s m below meth c A F hr hlocks hno hK hZ hP hD hA hS ls hl
  have hx := F.1
  have hb := F.2.1
  have hl : lv_has ls 2 [(0, .ref h0), (1, .int j1)] := hl
  refine lv_aload_n hx hb dX9_literals_0 rfl (lv_at hl 0 rfl) ?_
  refine lv_iload_n hx hb dX9_literals_1 rfl (lv_at hl 1 rfl) ?_
  refine lv_aload_n hx hb dX9_literals_2 rfl (lv_at hl 0 rfl) ?_
  refine gF (C := RX9) (T := TX9) (ci := 8) (v := .ref pr) F hK hP 0 rfl rfl iwX9 4 (by decide) m_20 (fun _ h => h) g_4 dX9_literals_3 ?_
  refine gF (C := RX3) (T := TX3) (ci := 3) (v := .int 0) F hK hP 2 rfl rfl iwX3 2 (by decide) m_39 (fun _ h => h) gp_2 dX9_literals_6 ?_
  refine xgoV (wr := [(pr, .inr (3, fl 9 gp))]) (xrunV (n := 2) (As := [.int j1, .int 0]) (rest := []) (C := RX9) (T := TX9) (N := 9) (ci := 8) F hK hZ hP hD hS hA (c_needIx l hfl D Y h0 rf g f j1 g_3 ) 0 rfl rfl [0, 1] rfl rfl m_23 m_24 m_25 m_6 m_22 (by decide +kernel) rfl ⟨Nat.le_of_ble_eq_true rfl, Nat.le_of_ble_eq_true rfl⟩ hl.1 rfl (Nat.le_of_ble_eq_true rfl) dX9_literals_9 ⟨Nat.le_of_ble_eq_true rfl, Nat.le_of_ble_eq_true rfl⟩) hP hD hS hA [0, 1] [2] rfl rfl rfl (by decide) (fun E ce q9 H locs hE hP hD hS h1 h2 h3 => ?_) (fun u H locs hw hP hD hS => ?_)
  · skip
    exact xOut hno hlocks hE hS h1 h2 h3 (Nat.le_of_ble_eq_true rfl) (Nat.le_of_ble_eq_true rfl)
  · exact hw.elim
end
