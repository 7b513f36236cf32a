theorem dX9_needWhat_0 : decode cX9_needWhat 0 = .ok (.iload_n 1, 1) := by decide +kernel
theorem dX9_needWhat_1 : decode cX9_needWhat 1 = .ok (.ifCond .lt 8, 3) := by decide +kernel
theorem dX9_needWhat_4 : decode cX9_needWhat 4 = .ok (.iload_n 1, 1) := by decide +kernel
theorem dX9_needWhat_5 : decode cX9_needWhat 5 = .ok (.iload_n 2, 1) := by decide +kernel
theorem dX9_needWhat_6 : decode cX9_needWhat 6 = .ok (.if_icmp .le 7, 3) := by decide +kernel
theorem dX9_needWhat_9 : decode cX9_needWhat 9 = .ok (.aload_n 0, 1) := by decide +kernel
theorem dX9_needWhat_10 : decode cX9_needWhat 10 = .ok (.invokevirtual 62, 3) := by decide +kernel
theorem dX9_needWhat_13 : decode cX9_needWhat 13 = .ok (.return_, 1) := by decide +kernel
theorem dX1_follow_0 : decode cX1_follow 0 = .ok (.aload_n 0, 1) := by decide +kernel
theorem dX1_follow_1 : decode cX1_follow 1 = .ok (.aload_n 1, 1) := by decide +kernel
theorem dX1_follow_2 : decode cX1_follow 2 = .ok (.putfield 9, 3) := by decide +kernel
theorem dX1_follow_5 : decode cX1_follow 5 = .ok (.aload_n 0, 1) := by decide +kernel
theorem dX1_follow_6 : decode cX1_follow 6 = .ok (.aload_n 2, 1) := by decide +kernel
theorem dX1_follow_7 : decode cX1_follow 7 = .ok (.putfield 40, 3) := by decide +kernel
theorem dX1_follow_10 : decode cX1_follow 10 = .ok (.iconst (-1), 1) := by decide +kernel
theorem dX1_follow_11 : decode cX1_follow 11 = .ok (.istore_n 3, 1) := by decide +kernel
theorem dX1_follow_12 : decode cX1_follow 12 = .ok (.iconst 0, 1) := by decide +kernel
theorem dX1_follow_13 : decode cX1_follow 13 = .ok (.istore 4, 2) := by decide +kernel
theorem dX1_follow_15 : decode cX1_follow 15 = .ok (.iload 4, 2) := by decide +kernel
theorem dX1_follow_17 : decode cX1_follow 17 = .ok (.sipush 640, 3) := by decide +kernel
theorem dX1_follow_20 : decode cX1_follow 20 = .ok (.if_icmp .gt 70, 3) := by decide +kernel
theorem dX1_follow_23 : decode cX1_follow 23 = .ok (.iload_n 3, 1) := by decide +kernel
theorem dX1_follow_24 : decode cX1_follow 24 = .ok (.ifCond .eq 66, 3) := by decide +kernel
theorem dX1_follow_27 : decode cX1_follow 27 = .ok (.aload_n 0, 1) := by decide +kernel
theorem dX1_follow_28 : decode cX1_follow 28 = .ok (.iconst 0, 1) := by decide +kernel
theorem dX1_follow_29 : decode cX1_follow 29 = .ok (.putfield 37, 3) := by decide +kernel
theorem dX1_follow_32 : decode cX1_follow 32 = .ok (.iconst 0, 1) := by decide +kernel
theorem dX1_follow_33 : decode cX1_follow 33 = .ok (.istore 5, 2) := by decide +kernel
theorem dX1_follow_35 : decode cX1_follow 35 = .ok (.iload 5, 2) := by decide +kernel
theorem dX1_follow_37 : decode cX1_follow 37 = .ok (.aload_n 0, 1) := by decide +kernel
theorem dX1_follow_38 : decode cX1_follow 38 = .ok (.getfield 9, 3) := by decide +kernel
theorem dX1_follow_41 : decode cX1_follow 41 = .ok (.getfield 43, 3) := by decide +kernel
theorem dX1_follow_44 : decode cX1_follow 44 = .ok (.if_icmp .ge 35, 3) := by decide +kernel
theorem dX1_follow_79 : decode cX1_follow 79 = .ok (.aload_n 0, 1) := by decide +kernel
theorem dX1_follow_80 : decode cX1_follow 80 = .ok (.getfield 37, 3) := by decide +kernel
theorem dX1_follow_83 : decode cX1_follow 83 = .ok (.istore_n 3, 1) := by decide +kernel
theorem dX1_follow_84 : decode cX1_follow 84 = .ok (.iinc 4 1, 3) := by decide +kernel
theorem dX1_follow_87 : decode cX1_follow 87 = .ok (.goto (-72), 3) := by decide +kernel
theorem dX1_follow_90 : decode cX1_follow 90 = .ok (.return_, 1) := by decide +kernel
theorem dX2_growPossible_0 : decode cX2_growPossible 0 = .ok (.aload_n 0, 1) := by decide +kernel
theorem dX2_growPossible_1 : decode cX2_growPossible 1 = .ok (.getfield 9, 3) := by decide +kernel
theorem dX2_growPossible_4 : decode cX2_growPossible 4 = .ok (.iconst 0, 1) := by decide +kernel
theorem dX2_growPossible_5 : decode cX2_growPossible 5 = .ok (.aload_n 0, 1) := by decide +kernel
theorem dX2_growPossible_6 : decode cX2_growPossible 6 = .ok (.getfield 22, 3) := by decide +kernel
theorem dX2_growPossible_9 : decode cX2_growPossible 9 = .ok (.iconst 0, 1) := by decide +kernel
theorem dX2_growPossible_10 : decode cX2_growPossible 10 = .ok (.bipush 10, 2) := by decide +kernel
theorem dX2_growPossible_12 : decode cX2_growPossible 12 = .ok (.invokestatic 68, 3) := by decide +kernel
theorem dX2_growPossible_15 : decode cX2_growPossible 15 = .ok (.aload_n 0, 1) := by decide +kernel
theorem dX2_growPossible_16 : decode cX2_growPossible 16 = .ok (.getfield 30, 3) := by decide +kernel
theorem dX2_growPossible_19 : decode cX2_growPossible 19 = .ok (.aload_n 1, 1) := by decide +kernel
theorem dX2_growPossible_20 : decode cX2_growPossible 20 = .ok (.aload_n 0, 1) := by decide +kernel
theorem dX2_growPossible_21 : decode cX2_growPossible 21 = .ok (.getfield 9, 3) := by decide +kernel
theorem dX2_growPossible_24 : decode cX2_growPossible 24 = .ok (.invokevirtual 74, 3) := by decide +kernel
theorem dX2_growPossible_27 : decode cX2_growPossible 27 = .ok (.aload_n 0, 1) := by decide +kernel
theorem dX2_growPossible_28 : decode cX2_growPossible 28 = .ok (.getfield 22, 3) := by decide +kernel
theorem dX2_growPossible_31 : decode cX2_growPossible 31 = .ok (.iconst 0, 1) := by decide +kernel
theorem dX2_growPossible_32 : decode cX2_growPossible 32 = .ok (.aload_n 0, 1) := by decide +kernel
theorem dX2_growPossible_33 : decode cX2_growPossible 33 = .ok (.getfield 15, 3) := by decide +kernel
theorem dX2_growPossible_36 : decode cX2_growPossible 36 = .ok (.iconst 0, 1) := by decide +kernel
theorem dX2_growPossible_37 : decode cX2_growPossible 37 = .ok (.bipush 10, 2) := by decide +kernel
theorem dX2_growPossible_39 : decode cX2_growPossible 39 = .ok (.invokestatic 68, 3) := by decide +kernel
theorem dX2_growPossible_42 : decode cX2_growPossible 42 = .ok (.return_, 1) := by decide +kernel
theorem dX2_growTruth_0 : decode cX2_growTruth 0 = .ok (.aload_n 0, 1) := by decide +kernel
theorem dX2_growTruth_1 : decode cX2_growTruth 1 = .ok (.getfield 9, 3) := by decide +kernel
theorem dX2_growTruth_4 : decode cX2_growTruth 4 = .ok (.iconst 0, 1) := by decide +kernel
theorem dX2_growTruth_5 : decode cX2_growTruth 5 = .ok (.aload_n 0, 1) := by decide +kernel
theorem dX2_growTruth_6 : decode cX2_growTruth 6 = .ok (.getfield 22, 3) := by decide +kernel
theorem dX2_growTruth_9 : decode cX2_growTruth 9 = .ok (.iconst 0, 1) := by decide +kernel
theorem dX2_growTruth_10 : decode cX2_growTruth 10 = .ok (.bipush 10, 2) := by decide +kernel
theorem dX2_growTruth_12 : decode cX2_growTruth 12 = .ok (.invokestatic 68, 3) := by decide +kernel
theorem dX2_growTruth_15 : decode cX2_growTruth 15 = .ok (.aload_n 0, 1) := by decide +kernel
theorem dX2_growTruth_16 : decode cX2_growTruth 16 = .ok (.getfield 30, 3) := by decide +kernel
theorem dX2_growTruth_19 : decode cX2_growTruth 19 = .ok (.aload_n 1, 1) := by decide +kernel
theorem dX2_growTruth_20 : decode cX2_growTruth 20 = .ok (.aload_n 0, 1) := by decide +kernel
theorem dX2_growTruth_21 : decode cX2_growTruth 21 = .ok (.getfield 15, 3) := by decide +kernel
theorem dX2_growTruth_24 : decode cX2_growTruth 24 = .ok (.invokevirtual 74, 3) := by decide +kernel
theorem dX2_growTruth_27 : decode cX2_growTruth 27 = .ok (.iconst 0, 1) := by decide +kernel
theorem dX2_growTruth_28 : decode cX2_growTruth 28 = .ok (.istore_n 2, 1) := by decide +kernel
theorem dX2_growTruth_29 : decode cX2_growTruth 29 = .ok (.iconst 0, 1) := by decide +kernel
theorem dX2_growTruth_30 : decode cX2_growTruth 30 = .ok (.istore_n 3, 1) := by decide +kernel
theorem dX2_growTruth_31 : decode cX2_growTruth 31 = .ok (.iload_n 3, 1) := by decide +kernel
theorem dX2_growTruth_32 : decode cX2_growTruth 32 = .ok (.bipush 10, 2) := by decide +kernel
theorem dX2_growTruth_34 : decode cX2_growTruth 34 = .ok (.if_icmp .ge 45, 3) := by decide +kernel
theorem dX2_growTruth_37 : decode cX2_growTruth 37 = .ok (.iload_n 2, 1) := by decide +kernel
theorem dX2_growTruth_38 : decode cX2_growTruth 38 = .ok (.aload_n 0, 1) := by decide +kernel
theorem dX2_growTruth_39 : decode cX2_growTruth 39 = .ok (.getfield 9, 3) := by decide +kernel
theorem dX2_growTruth_42 : decode cX2_growTruth 42 = .ok (.iload_n 3, 1) := by decide +kernel
theorem dX2_growTruth_43 : decode cX2_growTruth 43 = .ok (.laload, 1) := by decide +kernel
theorem dX2_growTruth_44 : decode cX2_growTruth 44 = .ok (.aload_n 0, 1) := by decide +kernel
theorem dX2_growTruth_45 : decode cX2_growTruth 45 = .ok (.getfield 22, 3) := by decide +kernel
theorem dX2_growTruth_48 : decode cX2_growTruth 48 = .ok (.iload_n 3, 1) := by decide +kernel
theorem dX2_growTruth_49 : decode cX2_growTruth 49 = .ok (.laload, 1) := by decide +kernel
theorem dX2_growTruth_50 : decode cX2_growTruth 50 = .ok (.lcmp, 1) := by decide +kernel
theorem dX2_growTruth_51 : decode cX2_growTruth 51 = .ok (.ifCond .eq 7, 3) := by decide +kernel
theorem dX2_growTruth_58 : decode cX2_growTruth 58 = .ok (.iconst 0, 1) := by decide +kernel
theorem dX2_growTruth_59 : decode cX2_growTruth 59 = .ok (.ior, 1) := by decide +kernel
theorem dX2_growTruth_60 : decode cX2_growTruth 60 = .ok (.istore_n 2, 1) := by decide +kernel
theorem dX2_growTruth_61 : decode cX2_growTruth 61 = .ok (.aload_n 0, 1) := by decide +kernel
theorem dX2_growTruth_62 : decode cX2_growTruth 62 = .ok (.getfield 9, 3) := by decide +kernel
theorem dX2_growTruth_65 : decode cX2_growTruth 65 = .ok (.iload_n 3, 1) := by decide +kernel
theorem dX2_growTruth_66 : decode cX2_growTruth 66 = .ok (.aload_n 0, 1) := by decide +kernel
theorem dX2_growTruth_67 : decode cX2_growTruth 67 = .ok (.getfield 22, 3) := by decide +kernel
theorem dX2_growTruth_70 : decode cX2_growTruth 70 = .ok (.iload_n 3, 1) := by decide +kernel
theorem dX2_growTruth_71 : decode cX2_growTruth 71 = .ok (.laload, 1) := by decide +kernel
theorem dX2_growTruth_72 : decode cX2_growTruth 72 = .ok (.lastore, 1) := by decide +kernel
theorem dX2_growTruth_73 : decode cX2_growTruth 73 = .ok (.iinc 3 1, 3) := by decide +kernel
theorem dX2_growTruth_76 : decode cX2_growTruth 76 = .ok (.goto (-45), 3) := by decide +kernel
theorem dX2_growTruth_79 : decode cX2_growTruth 79 = .ok (.iload_n 2, 1) := by decide +kernel
theorem dX2_growTruth_80 : decode cX2_growTruth 80 = .ok (.ireturn, 1) := by decide +kernel
theorem dX2_noteStage_0 : decode cX2_noteStage 0 = .ok (.iconst 0, 1) := by decide +kernel
theorem dX2_noteStage_1 : decode cX2_noteStage 1 = .ok (.istore_n 2, 1) := by decide +kernel
theorem dX2_noteStage_2 : decode cX2_noteStage 2 = .ok (.iload_n 2, 1) := by decide +kernel
theorem dX2_noteStage_3 : decode cX2_noteStage 3 = .ok (.iload_n 1, 1) := by decide +kernel
theorem dX2_noteStage_4 : decode cX2_noteStage 4 = .ok (.if_icmp .ge 85, 3) := by decide +kernel
theorem dX2_noteStage_89 : decode cX2_noteStage 89 = .ok (.return_, 1) := by decide +kernel
theorem dX2_settle_0 : decode cX2_settle 0 = .ok (.aload_n 0, 1) := by decide +kernel
theorem dX2_settle_1 : decode cX2_settle 1 = .ok (.getfield 34, 3) := by decide +kernel
theorem dX2_settle_4 : decode cX2_settle 4 = .ok (.ifCond .eq 4, 3) := by decide +kernel
theorem dX2_settle_8 : decode cX2_settle 8 = .ok (.aload_n 0, 1) := by decide +kernel
theorem dX2_settle_9 : decode cX2_settle 9 = .ok (.getfield 9, 3) := by decide +kernel
theorem dX2_settle_12 : decode cX2_settle 12 = .ok (.lconst 0, 1) := by decide +kernel
theorem dX2_settle_13 : decode cX2_settle 13 = .ok (.invokestatic 38, 3) := by decide +kernel
theorem dX2_settle_16 : decode cX2_settle 16 = .ok (.aload_n 0, 1) := by decide +kernel
theorem dX2_settle_17 : decode cX2_settle 17 = .ok (.getfield 18, 3) := by decide +kernel
theorem dX2_settle_20 : decode cX2_settle 20 = .ok (.iconst (-1), 1) := by decide +kernel
theorem dX2_settle_21 : decode cX2_settle 21 = .ok (.invokestatic 44, 3) := by decide +kernel
theorem dX2_settle_24 : decode cX2_settle 24 = .ok (.aload_n 0, 1) := by decide +kernel
theorem dX2_settle_25 : decode cX2_settle 25 = .ok (.iconst 0, 1) := by decide +kernel
theorem dX2_settle_26 : decode cX2_settle 26 = .ok (.putfield 47, 3) := by decide +kernel
theorem dX2_settle_29 : decode cX2_settle 29 = .ok (.aload_n 0, 1) := by decide +kernel
theorem dX2_settle_30 : decode cX2_settle 30 = .ok (.aload_n 1, 1) := by decide +kernel
theorem dX2_settle_31 : decode cX2_settle 31 = .ok (.invokevirtual 51, 3) := by decide +kernel
theorem dX2_settle_34 : decode cX2_settle 34 = .ok (.aload_n 0, 1) := by decide +kernel
theorem dX2_settle_35 : decode cX2_settle 35 = .ok (.aload_n 1, 1) := by decide +kernel
theorem dX2_settle_36 : decode cX2_settle 36 = .ok (.getfield 55, 3) := by decide +kernel
theorem dX2_settle_39 : decode cX2_settle 39 = .ok (.invokevirtual 60, 3) := by decide +kernel
theorem dX2_settle_42 : decode cX2_settle 42 = .ok (.aload_n 0, 1) := by decide +kernel
theorem dX2_settle_43 : decode cX2_settle 43 = .ok (.getfield 47, 3) := by decide +kernel
theorem dX2_settle_46 : decode cX2_settle 46 = .ok (.sipush 640, 3) := by decide +kernel
theorem dX2_settle_49 : decode cX2_settle 49 = .ok (.if_icmp .ge 37, 3) := by decide +kernel
theorem dX2_settle_52 : decode cX2_settle 52 = .ok (.aload_n 0, 1) := by decide +kernel
theorem dX2_settle_53 : decode cX2_settle 53 = .ok (.aload_n 1, 1) := by decide +kernel
theorem dX2_settle_54 : decode cX2_settle 54 = .ok (.invokevirtual 64, 3) := by decide +kernel
theorem dX2_settle_57 : decode cX2_settle 57 = .ok (.ifCond .eq 29, 3) := by decide +kernel
theorem dX2_settle_86 : decode cX2_settle 86 = .ok (.aload_n 0, 1) := by decide +kernel
theorem dX2_settle_87 : decode cX2_settle 87 = .ok (.iconst 1, 1) := by decide +kernel
theorem dX2_settle_88 : decode cX2_settle 88 = .ok (.putfield 34, 3) := by decide +kernel
theorem dX2_settle_91 : decode cX2_settle 91 = .ok (.return_, 1) := by decide +kernel
theorem dX2_undefinedOf_0 : decode cX2_undefinedOf 0 = .ok (.aload_n 0, 1) := by decide +kernel
theorem dX2_undefinedOf_1 : decode cX2_undefinedOf 1 = .ok (.getfield 15, 3) := by decide +kernel
theorem dX2_undefinedOf_4 : decode cX2_undefinedOf 4 = .ok (.iload_n 1, 1) := by decide +kernel
theorem dX2_undefinedOf_5 : decode cX2_undefinedOf 5 = .ok (.laload, 1) := by decide +kernel
theorem dX2_undefinedOf_6 : decode cX2_undefinedOf 6 = .ok (.aload_n 0, 1) := by decide +kernel
theorem dX2_undefinedOf_7 : decode cX2_undefinedOf 7 = .ok (.getfield 9, 3) := by decide +kernel
theorem dX2_undefinedOf_10 : decode cX2_undefinedOf 10 = .ok (.iload_n 1, 1) := by decide +kernel
theorem dX2_undefinedOf_11 : decode cX2_undefinedOf 11 = .ok (.laload, 1) := by decide +kernel
theorem dX2_undefinedOf_12 : decode cX2_undefinedOf 12 = .ok (.ldc2_w 78, 3) := by decide +kernel
theorem dX2_undefinedOf_15 : decode cX2_undefinedOf 15 = .ok (.lxor, 1) := by decide +kernel
theorem dX2_undefinedOf_16 : decode cX2_undefinedOf 16 = .ok (.land, 1) := by decide +kernel
theorem dX2_undefinedOf_17 : decode cX2_undefinedOf 17 = .ok (.lreturn, 1) := by decide +kernel
theorem dX2_trueAtoms_0 : decode cX2_trueAtoms 0 = .ok (.iconst 0, 1) := by decide +kernel
theorem dX2_trueAtoms_1 : decode cX2_trueAtoms 1 = .ok (.istore_n 1, 1) := by decide +kernel
theorem dX2_trueAtoms_2 : decode cX2_trueAtoms 2 = .ok (.iconst 0, 1) := by decide +kernel
theorem dX2_trueAtoms_3 : decode cX2_trueAtoms 3 = .ok (.istore_n 2, 1) := by decide +kernel
theorem dX2_trueAtoms_4 : decode cX2_trueAtoms 4 = .ok (.iload_n 2, 1) := by decide +kernel
theorem dX2_trueAtoms_5 : decode cX2_trueAtoms 5 = .ok (.bipush 10, 2) := by decide +kernel
theorem dX2_trueAtoms_7 : decode cX2_trueAtoms 7 = .ok (.if_icmp .ge 21, 3) := by decide +kernel
theorem dX2_trueAtoms_10 : decode cX2_trueAtoms 10 = .ok (.iload_n 1, 1) := by decide +kernel
theorem dX2_trueAtoms_11 : decode cX2_trueAtoms 11 = .ok (.aload_n 0, 1) := by decide +kernel
theorem dX2_trueAtoms_12 : decode cX2_trueAtoms 12 = .ok (.getfield 9, 3) := by decide +kernel
theorem dX2_trueAtoms_15 : decode cX2_trueAtoms 15 = .ok (.iload_n 2, 1) := by decide +kernel
theorem dX2_trueAtoms_16 : decode cX2_trueAtoms 16 = .ok (.laload, 1) := by decide +kernel
theorem dX2_trueAtoms_17 : decode cX2_trueAtoms 17 = .ok (.invokestatic 80, 3) := by decide +kernel
theorem dX2_trueAtoms_20 : decode cX2_trueAtoms 20 = .ok (.iadd, 1) := by decide +kernel
theorem dX2_trueAtoms_21 : decode cX2_trueAtoms 21 = .ok (.istore_n 1, 1) := by decide +kernel
theorem dX2_trueAtoms_22 : decode cX2_trueAtoms 22 = .ok (.iinc 2 1, 3) := by decide +kernel
theorem dX2_trueAtoms_25 : decode cX2_trueAtoms 25 = .ok (.goto (-21), 3) := by decide +kernel
theorem dX2_trueAtoms_28 : decode cX2_trueAtoms 28 = .ok (.iload_n 1, 1) := by decide +kernel
theorem dX2_trueAtoms_29 : decode cX2_trueAtoms 29 = .ok (.ireturn, 1) := by decide +kernel
theorem dX2_undefinedAtoms_0 : decode cX2_undefinedAtoms 0 = .ok (.iconst 0, 1) := by decide +kernel
theorem dX2_undefinedAtoms_1 : decode cX2_undefinedAtoms 1 = .ok (.istore_n 1, 1) := by decide +kernel
theorem dX2_undefinedAtoms_2 : decode cX2_undefinedAtoms 2 = .ok (.iconst 0, 1) := by decide +kernel
theorem dX2_undefinedAtoms_3 : decode cX2_undefinedAtoms 3 = .ok (.istore_n 2, 1) := by decide +kernel
theorem dX2_undefinedAtoms_4 : decode cX2_undefinedAtoms 4 = .ok (.iload_n 2, 1) := by decide +kernel
theorem dX2_undefinedAtoms_5 : decode cX2_undefinedAtoms 5 = .ok (.bipush 10, 2) := by decide +kernel
theorem dX2_undefinedAtoms_7 : decode cX2_undefinedAtoms 7 = .ok (.if_icmp .ge 20, 3) := by decide +kernel
theorem dX2_undefinedAtoms_10 : decode cX2_undefinedAtoms 10 = .ok (.iload_n 1, 1) := by decide +kernel
theorem dX2_undefinedAtoms_11 : decode cX2_undefinedAtoms 11 = .ok (.aload_n 0, 1) := by decide +kernel
theorem dX2_undefinedAtoms_12 : decode cX2_undefinedAtoms 12 = .ok (.iload_n 2, 1) := by decide +kernel
theorem dX2_undefinedAtoms_13 : decode cX2_undefinedAtoms 13 = .ok (.invokevirtual 86, 3) := by decide +kernel
theorem dX2_undefinedAtoms_16 : decode cX2_undefinedAtoms 16 = .ok (.invokestatic 80, 3) := by decide +kernel
theorem dX2_undefinedAtoms_19 : decode cX2_undefinedAtoms 19 = .ok (.iadd, 1) := by decide +kernel
theorem dX2_undefinedAtoms_20 : decode cX2_undefinedAtoms 20 = .ok (.istore_n 1, 1) := by decide +kernel
theorem dX2_undefinedAtoms_21 : decode cX2_undefinedAtoms 21 = .ok (.iinc 2 1, 3) := by decide +kernel
theorem dX2_undefinedAtoms_24 : decode cX2_undefinedAtoms 24 = .ok (.goto (-20), 3) := by decide +kernel
theorem dX2_undefinedAtoms_27 : decode cX2_undefinedAtoms 27 = .ok (.iload_n 1, 1) := by decide +kernel
theorem dX2_undefinedAtoms_28 : decode cX2_undefinedAtoms 28 = .ok (.ireturn, 1) := by decide +kernel
theorem dX3_facts_0 : decode cX3_facts 0 = .ok (.iconst 0, 1) := by decide +kernel
theorem dX3_facts_1 : decode cX3_facts 1 = .ok (.istore_n 1, 1) := by decide +kernel
theorem dX3_facts_2 : decode cX3_facts 2 = .ok (.iconst 0, 1) := by decide +kernel
theorem dX3_facts_3 : decode cX3_facts 3 = .ok (.istore_n 2, 1) := by decide +kernel
theorem dX3_facts_4 : decode cX3_facts 4 = .ok (.iload_n 2, 1) := by decide +kernel
theorem dX3_facts_5 : decode cX3_facts 5 = .ok (.aload_n 0, 1) := by decide +kernel
theorem dX3_facts_6 : decode cX3_facts 6 = .ok (.getfield 37, 3) := by decide +kernel
theorem dX3_facts_9 : decode cX3_facts 9 = .ok (.if_icmp .ge 26, 3) := by decide +kernel
theorem dX3_facts_35 : decode cX3_facts 35 = .ok (.iload_n 1, 1) := by decide +kernel
theorem dX3_facts_36 : decode cX3_facts 36 = .ok (.ireturn, 1) := by decide +kernel
theorem dX6_freshOnes_0 : decode cX6_freshOnes 0 = .ok (.iconst 0, 1) := by decide +kernel
theorem dX6_freshOnes_1 : decode cX6_freshOnes 1 = .ok (.istore_n 1, 1) := by decide +kernel
theorem dX6_freshOnes_2 : decode cX6_freshOnes 2 = .ok (.iconst 0, 1) := by decide +kernel
theorem dX6_freshOnes_3 : decode cX6_freshOnes 3 = .ok (.istore_n 2, 1) := by decide +kernel
theorem dX6_freshOnes_4 : decode cX6_freshOnes 4 = .ok (.iload_n 2, 1) := by decide +kernel
theorem dX6_freshOnes_5 : decode cX6_freshOnes 5 = .ok (.aload_n 0, 1) := by decide +kernel
theorem dX6_freshOnes_6 : decode cX6_freshOnes 6 = .ok (.getfield 60, 3) := by decide +kernel
theorem dX6_freshOnes_9 : decode cX6_freshOnes 9 = .ok (.if_icmp .ge 29, 3) := by decide +kernel
theorem dX6_freshOnes_38 : decode cX6_freshOnes 38 = .ok (.iload_n 1, 1) := by decide +kernel
theorem dX6_freshOnes_39 : decode cX6_freshOnes 39 = .ok (.ireturn, 1) := by decide +kernel
theorem dX6_sum_0 : decode cX6_sum 0 = .ok (.lconst 0, 1) := by decide +kernel
theorem dX6_sum_1 : decode cX6_sum 1 = .ok (.lstore_n 1, 1) := by decide +kernel
theorem dX6_sum_2 : decode cX6_sum 2 = .ok (.iconst 0, 1) := by decide +kernel
theorem dX6_sum_3 : decode cX6_sum 3 = .ok (.istore_n 3, 1) := by decide +kernel
theorem dX6_sum_4 : decode cX6_sum 4 = .ok (.iload_n 3, 1) := by decide +kernel
theorem dX6_sum_5 : decode cX6_sum 5 = .ok (.aload_n 0, 1) := by decide +kernel
theorem dX6_sum_6 : decode cX6_sum 6 = .ok (.getfield 60, 3) := by decide +kernel
theorem dX6_sum_9 : decode cX6_sum 9 = .ok (.if_icmp .ge 65, 3) := by decide +kernel
theorem dX6_sum_74 : decode cX6_sum 74 = .ok (.lload_n 1, 1) := by decide +kernel
theorem dX6_sum_75 : decode cX6_sum 75 = .ok (.lreturn, 1) := by decide +kernel
theorem dX6_clear_0 : decode cX6_clear 0 = .ok (.aload_n 0, 1) := by decide +kernel
theorem dX6_clear_1 : decode cX6_clear 1 = .ok (.getfield 15, 3) := by decide +kernel
theorem dX6_clear_4 : decode cX6_clear 4 = .ok (.iconst (-1), 1) := by decide +kernel
theorem dX6_clear_5 : decode cX6_clear 5 = .ok (.invokestatic 44, 3) := by decide +kernel
theorem dX6_clear_8 : decode cX6_clear 8 = .ok (.aload_n 0, 1) := by decide +kernel
theorem dX6_clear_9 : decode cX6_clear 9 = .ok (.iconst 0, 1) := by decide +kernel
theorem dX6_clear_10 : decode cX6_clear 10 = .ok (.putfield 60, 3) := by decide +kernel
theorem dX6_clear_13 : decode cX6_clear 13 = .ok (.aload_n 0, 1) := by decide +kernel
theorem dX6_clear_14 : decode cX6_clear 14 = .ok (.iconst 0, 1) := by decide +kernel
theorem dX6_clear_15 : decode cX6_clear 15 = .ok (.putfield 63, 3) := by decide +kernel
theorem dX6_clear_18 : decode cX6_clear 18 = .ok (.return_, 1) := by decide +kernel
theorem dX6_startAnew_0 : decode cX6_startAnew 0 = .ok (.aload_n 0, 1) := by decide +kernel
theorem dX6_startAnew_1 : decode cX6_startAnew 1 = .ok (.invokevirtual 50, 3) := by decide +kernel
theorem dX6_startAnew_4 : decode cX6_startAnew 4 = .ok (.aload_n 0, 1) := by decide +kernel
theorem dX6_startAnew_5 : decode cX6_startAnew 5 = .ok (.iconst 0, 1) := by decide +kernel
theorem dX6_startAnew_6 : decode cX6_startAnew 6 = .ok (.putfield 53, 3) := by decide +kernel
theorem dX6_startAnew_9 : decode cX6_startAnew 9 = .ok (.aload_n 0, 1) := by decide +kernel
theorem dX6_startAnew_10 : decode cX6_startAnew 10 = .ok (.iconst 0, 1) := by decide +kernel
theorem dX6_startAnew_11 : decode cX6_startAnew 11 = .ok (.putfield 57, 3) := by decide +kernel
theorem dX6_startAnew_14 : decode cX6_startAnew 14 = .ok (.return_, 1) := by decide +kernel
theorem dX3_clear_0 : decode cX3_clear 0 = .ok (.aload_n 0, 1) := by decide +kernel
theorem dX3_clear_1 : decode cX3_clear 1 = .ok (.iconst 0, 1) := by decide +kernel
theorem dX3_clear_2 : decode cX3_clear 2 = .ok (.putfield 30, 3) := by decide +kernel
theorem dX3_clear_5 : decode cX3_clear 5 = .ok (.aload_n 0, 1) := by decide +kernel
theorem dX3_clear_6 : decode cX3_clear 6 = .ok (.iconst 0, 1) := by decide +kernel
theorem dX3_clear_7 : decode cX3_clear 7 = .ok (.putfield 34, 3) := by decide +kernel
theorem dX3_clear_10 : decode cX3_clear 10 = .ok (.aload_n 0, 1) := by decide +kernel
theorem dX3_clear_11 : decode cX3_clear 11 = .ok (.iconst 0, 1) := by decide +kernel
theorem dX3_clear_12 : decode cX3_clear 12 = .ok (.putfield 37, 3) := by decide +kernel
theorem dX3_clear_15 : decode cX3_clear 15 = .ok (.return_, 1) := by decide +kernel
theorem dX4_init_0 : decode cX4_init 0 = .ok (.aload_n 0, 1) := by decide +kernel
theorem dX4_init_1 : decode cX4_init 1 = .ok (.invokespecial 3, 3) := by decide +kernel
theorem dX4_init_4 : decode cX4_init 4 = .ok (.aload_n 0, 1) := by decide +kernel
theorem dX4_init_5 : decode cX4_init 5 = .ok (.iconst (-1), 1) := by decide +kernel
theorem dX4_init_6 : decode cX4_init 6 = .ok (.putfield 9, 3) := by decide +kernel
theorem dX4_init_9 : decode cX4_init 9 = .ok (.aload_n 0, 1) := by decide +kernel
theorem dX4_init_10 : decode cX4_init 10 = .ok (.iconst 3, 1) := by decide +kernel
theorem dX4_init_11 : decode cX4_init 11 = .ok (.newarray .int, 2) := by decide +kernel
theorem dX4_init_13 : decode cX4_init 13 = .ok (.putfield 15, 3) := by decide +kernel
theorem dX4_init_16 : decode cX4_init 16 = .ok (.aload_n 0, 1) := by decide +kernel
theorem dX4_init_17 : decode cX4_init 17 = .ok (.iconst 3, 1) := by decide +kernel
theorem dX4_init_18 : decode cX4_init 18 = .ok (.newarray .int, 2) := by decide +kernel
theorem dX4_init_20 : decode cX4_init 20 = .ok (.putfield 19, 3) := by decide +kernel
theorem dX4_init_23 : decode cX4_init 23 = .ok (.aload_n 0, 1) := by decide +kernel
theorem dX4_init_24 : decode cX4_init 24 = .ok (.aload_n 1, 1) := by decide +kernel
theorem dX4_init_25 : decode cX4_init 25 = .ok (.putfield 22, 3) := by decide +kernel
theorem dX4_init_28 : decode cX4_init 28 = .ok (.aload_n 0, 1) := by decide +kernel
theorem dX4_init_29 : decode cX4_init 29 = .ok (.iload_n 2, 1) := by decide +kernel
theorem dX4_init_30 : decode cX4_init 30 = .ok (.aload_n 1, 1) := by decide +kernel
theorem dX4_init_31 : decode cX4_init 31 = .ok (.arraylength, 1) := by decide +kernel
theorem dX4_init_32 : decode cX4_init 32 = .ok (.invokestatic 25, 3) := by decide +kernel
theorem dX4_init_35 : decode cX4_init 35 = .ok (.putfield 31, 3) := by decide +kernel
theorem dX4_init_38 : decode cX4_init 38 = .ok (.aload_n 0, 1) := by decide +kernel
theorem dX4_init_39 : decode cX4_init 39 = .ok (.aload_n 3, 1) := by decide +kernel
theorem dX4_init_40 : decode cX4_init 40 = .ok (.putfield 34, 3) := by decide +kernel
theorem dX4_init_43 : decode cX4_init 43 = .ok (.return_, 1) := by decide +kernel
theorem dX4_next_0 : decode cX4_next 0 = .ok (.aload_n 0, 1) := by decide +kernel
theorem dX4_next_1 : decode cX4_next 1 = .ok (.getfield 54, 3) := by decide +kernel
theorem dX4_next_4 : decode cX4_next 4 = .ok (.aload_n 0, 1) := by decide +kernel
theorem dX4_next_5 : decode cX4_next 5 = .ok (.getfield 31, 3) := by decide +kernel
theorem dX4_next_8 : decode cX4_next 8 = .ok (.if_icmp .ge 30, 3) := by decide +kernel
theorem dX4_next_38 : decode cX4_next 38 = .ok (.aload_n 0, 1) := by decide +kernel
theorem dX4_next_39 : decode cX4_next 39 = .ok (.getfield 54, 3) := by decide +kernel
theorem dX4_next_42 : decode cX4_next 42 = .ok (.aload_n 0, 1) := by decide +kernel
theorem dX4_next_43 : decode cX4_next 43 = .ok (.getfield 31, 3) := by decide +kernel
theorem dX4_next_46 : decode cX4_next 46 = .ok (.if_icmp .ge 15, 3) := by decide +kernel
theorem dX4_next_61 : decode cX4_next 61 = .ok (.iconst (-1), 1) := by decide +kernel
theorem dX4_next_62 : decode cX4_next 62 = .ok (.ireturn, 1) := by decide +kernel
theorem dX4_readText_0 : decode cX4_readText 0 = .ok (.aload_n 0, 1) := by decide +kernel
theorem dX4_readText_1 : decode cX4_readText 1 = .ok (.getfield 34, 3) := by decide +kernel
theorem dX4_readText_4 : decode cX4_readText 4 = .ok (.invokevirtual 38, 3) := by decide +kernel
theorem dX4_readText_7 : decode cX4_readText 7 = .ok (.iconst 0, 1) := by decide +kernel
theorem dX4_readText_8 : decode cX4_readText 8 = .ok (.istore_n 1, 1) := by decide +kernel
theorem dX4_readText_9 : decode cX4_readText 9 = .ok (.iload_n 1, 1) := by decide +kernel
theorem dX4_readText_10 : decode cX4_readText 10 = .ok (.bipush 60, 2) := by decide +kernel
theorem dX4_readText_12 : decode cX4_readText 12 = .ok (.if_icmp .gt 28, 3) := by decide +kernel
theorem dX4_readText_15 : decode cX4_readText 15 = .ok (.aload_n 0, 1) := by decide +kernel
theorem dX4_readText_16 : decode cX4_readText 16 = .ok (.invokevirtual 43, 3) := by decide +kernel
theorem dX4_readText_19 : decode cX4_readText 19 = .ok (.iconst (-1), 1) := by decide +kernel
theorem dX4_readText_20 : decode cX4_readText 20 = .ok (.if_icmp .ne 5, 3) := by decide +kernel
theorem dX4_readText_23 : decode cX4_readText 23 = .ok (.iconst 1, 1) := by decide +kernel
theorem dX4_readText_24 : decode cX4_readText 24 = .ok (.ireturn, 1) := by decide +kernel
set_option maxRecDepth 100000 in
set_option maxHeartbeats 4000000 in
theorem c_needWok (l : Launch) (D : va_G) (Y : Nat → ClassId) (h0 : Nat) (j : Int32) (k : Int32) (g : Nat → Value)  (hj : ¬ j < 0) (hk : j ≤ k) : cM l D Y yX9_needWhat cX9_needWhat 3 none 1 0 0 [.ref h0, .int j, .int k] [(h0, .inr (8, fl 9 g))] (qV D (fun (u : Unit) => True) (fun (u : Unit) => [(h0, .inr (8, fl 9 g))])) := by
  refine cM.mk RX9 rfl (by decide) (Nat.le_of_ble_eq_true rfl) ?_
  intro p e s m below meth c A F hr hlocks hin hK hZ hP hD hA hS ls hl
  have hx := F.1
  have hb := F.2.1
  have hl : lv_has ls 3 [(0, .ref h0), (1, .int j), (2, .int k)] := hl
  refine lv_iload_n hx hb dX9_needWhat_0 rfl (lv_at hl 1 rfl) ?_
  refine lv_if_lt (tgt := 9) hx hb dX9_needWhat_1 (by decide) (fun c9 => absurd c9 (hj)) (fun _ => ?_)
  refine lv_iload_n hx hb dX9_needWhat_4 rfl (lv_at hl 1 rfl) ?_
  refine lv_iload_n hx hb dX9_needWhat_5 rfl (lv_at hl 2 rfl) ?_
  refine lv_icmp_le (tgt := 13) hx hb dX9_needWhat_6 (by decide) (fun _ => ?_) (fun c9 => absurd (hk) c9)
  exact retV F hr hlocks hP hD hS () [0] rfl rfl (Nat.le_of_ble_eq_true rfl) (Nat.le_of_ble_eq_true rfl) dX9_needWhat_13 trivial
set_option maxRecDepth 100000 in
set_option maxHeartbeats 4000000 in
theorem c_needWbad (l : Launch) (hfl : l.stackTraces = false) (D : va_G) (Y : Nat → ClassId) (h0 : Nat) (rf : Nat) (g : Nat → Value) (f : Nat → Int32) (j : Int32) (k : Int32) (g_3 : g 3 = .ref rf) (hj : j < 0 ∨ k < j) : xM l D Y yX9_needWhat cX9_needWhat 3 none 2 1 6 [.ref h0, .int j, .int k] [(h0, .inr (8, fl 9 g)), (rf, .inl (Y 0, 3, .inl f))] (qV D (fun (u : Unit) => False) (fun (u : Unit) => [])) (fun E => E = iae) := by
  refine xM.mk RX9 rfl (by decide) (Nat.le_of_ble_eq_true rfl) ?_
  intro p e s m below meth c A F hr hlocks hno hK hZ hP hD hA hS ls hl
  have hx := F.1
  have hb := F.2.1
  have hl : lv_has ls 3 [(0, .ref h0), (1, .int j), (2, .int k)] := hl
  refine lv_iload_n hx hb dX9_needWhat_0 rfl (lv_at hl 1 rfl) ?_
  refine lv_if_lt (tgt := 9) hx hb dX9_needWhat_1 (by decide) (fun c9 => ?_) (fun c9 => ?_)
  · skip
    refine lv_aload_n hx hb dX9_needWhat_9 rfl (lv_at hl 0 rfl) ?_
    refine xgoV (wr := []) (xrunV (n := 0) (As := []) (rest := []) (C := RX9) (T := TX9) (N := 9) (ci := 8) F hK hZ hP hD hS hA (c_refA l hfl D Y h0 rf g f g_3 ) 0 rfl rfl [0, 1] rfl rfl m_41 m_42 m_43 m_6 m_40 (by decide +kernel) rfl ⟨Nat.le_of_ble_eq_true rfl, Nat.le_of_ble_eq_true rfl⟩ hl.1 rfl (Nat.le_of_ble_eq_true rfl) dX9_needWhat_10 ⟨Nat.le_of_ble_eq_true rfl, Nat.le_of_ble_eq_true rfl⟩) hP hD hS hA [0, 1] [] rfl rfl rfl (by decide) (fun E ce q9 H locs hE hP hD hS h1 h2 h3 => ?_) (fun u H locs hw hP hD hS => ?_)
    · skip
      exact xOut hno hlocks hE hS h1 h2 h3 (Nat.le_of_ble_eq_true rfl) (Nat.le_of_ble_eq_true rfl)
    · exact hw.elim
  · skip
    refine lv_iload_n hx hb dX9_needWhat_4 rfl (lv_at hl 1 rfl) ?_
    refine lv_iload_n hx hb dX9_needWhat_5 rfl (lv_at hl 2 rfl) ?_
    refine lv_icmp_le (tgt := 13) hx hb dX9_needWhat_6 (by decide) (fun c8 => ?_) (fun c8 => ?_)
    · skip
      exact hj.elim (fun h => absurd h c9) (fun h => absurd c8 (Int32.not_le.mpr h))
    · skip
      refine lv_aload_n hx hb dX9_needWhat_9 rfl (lv_at hl 0 rfl) ?_
      refine xgoV (wr := []) (xrunV (n := 0) (As := []) (rest := []) (C := RX9) (T := TX9) (N := 9) (ci := 8) F hK hZ hP hD hS hA (c_refA l hfl D Y h0 rf g f g_3 ) 0 rfl rfl [0, 1] rfl rfl m_41 m_42 m_43 m_6 m_40 (by decide +kernel) rfl ⟨Nat.le_of_ble_eq_true rfl, Nat.le_of_ble_eq_true rfl⟩ hl.1 rfl (Nat.le_of_ble_eq_true rfl) dX9_needWhat_10 ⟨Nat.le_of_ble_eq_true rfl, Nat.le_of_ble_eq_true rfl⟩) hP hD hS hA [0, 1] [] rfl rfl rfl (by decide) (fun E ce q9 H locs hE hP hD hS h1 h2 h3 => ?_) (fun u H locs hw hP hD hS => ?_)
      · skip
        exact xOut hno hlocks hE hS h1 h2 h3 (Nat.le_of_ble_eq_true rfl) (Nat.le_of_ble_eq_true rfl)
      · exact hw.elim
set_option maxRecDepth 100000 in
set_option maxHeartbeats 4000000 in
theorem c_follow (l : Launch) (D : va_G) (Y : Nat → ClassId) (fo : Nat) (pr : Nat) (ba : Nat) (gf : Nat → Value) (gp : Nat → Value) (gp_2 : gp 2 = .int 0)  : cM l D Y yX1_follow cX1_follow 6 none 1 0 0 [.ref fo, .ref pr, .ref ba] [(fo, .inr (1, fl 7 gf)), (pr, .inr (3, fl 9 gp))] (qV D (fun (u : Nat → Value) => True) (fun (u : Nat → Value) => [(fo, .inr (1, fl 7 u)), (pr, .inr (3, fl 9 gp))])) := by
  refine cM.mk RX1 rfl (by decide) (Nat.le_of_ble_eq_true rfl) ?_
  intro p e s m below meth c A F hr hlocks hin hK hZ hP hD hA hS ls hl
  have hx := F.1
  have hb := F.2.1
  have hl : lv_has ls 6 [(0, .ref fo), (1, .ref pr), (2, .ref ba)] := hl
  refine lv_aload_n hx hb dX1_follow_0 rfl (lv_at hl 0 rfl) ?_
  refine lv_aload_n hx hb dX1_follow_1 rfl (lv_at hl 1 rfl) ?_
  refine pF (C := RX1) (T := TX1) (ci := 1) F hK hP hD hS 0 rfl rfl iwX1 tyX1 tyX1_ok nmX1 0 (by decide) m_44 (fun x h => u_same (F.2.2.2.2 _ m_45) x h) rfl rfl rfl dX1_follow_2 (fun H locs hP hD hS => ?_)
  have hP : va_P D vwCl [(fo, .inr (1, fl 7 (va_up gf 0 (.ref pr)))), (pr, .inr (3, fl 9 gp))] H := hP
  have hD : va_D A [(fo, .inr (1, fl 7 (va_up gf 0 (.ref pr)))), (pr, .inr (3, fl 9 gp))] := hD
  refine lv_aload_n hx hb dX1_follow_5 rfl (lv_at hl 0 rfl) ?_
  refine lv_aload_n hx hb dX1_follow_6 rfl (lv_at hl 2 rfl) ?_
  refine pF (C := RX1) (T := TX1) (ci := 1) F hK hP hD hS 0 rfl rfl iwX1 tyX1 tyX1_ok nmX1 2 (by decide) m_46 (fun x h => u_same (F.2.2.2.2 _ m_47) x h) rfl rfl rfl dX1_follow_7 (fun H locs hP hD hS => ?_)
  have hP : va_P D vwCl [(fo, .inr (1, fl 7 (va_up (va_up gf 0 (.ref pr)) 2 (.ref ba)))), (pr, .inr (3, fl 9 gp))] H := hP
  have hD : va_D A [(fo, .inr (1, fl 7 (va_up (va_up gf 0 (.ref pr)) 2 (.ref ba)))), (pr, .inr (3, fl 9 gp))] := hD
  refine lv_iconst (v := (-1)) hx hb dX1_follow_10 (by decide) ?_
  refine lv_istore_n (lv' := [(3, .int (-1)), (0, .ref fo), (1, .ref pr), (2, .ref ba)]) hx hb dX1_follow_11 rfl hl (by decide) rfl (fun ls hl => ?_)
  refine lv_iconst (v := 0) hx hb dX1_follow_12 (by decide) ?_
  refine lv_istore (lv' := [(4, .int 0), (3, .int (-1)), (0, .ref fo), (1, .ref pr), (2, .ref ba)]) hx hb dX1_follow_13 hl (by decide) rfl (fun ls hl => ?_)
  refine lv_iload hx hb dX1_follow_15 (lv_at hl 0 rfl) ?_
  refine lv_sipush (v := 640) hx hb dX1_follow_17 (by decide) ?_
  refine lv_icmp_gt (tgt := 90) hx hb dX1_follow_20 (by decide) (fun c9 => absurd c9 (by decide)) (fun _ => ?_)
  refine lv_iload_n hx hb dX1_follow_23 rfl (lv_at hl 1 rfl) ?_
  refine lv_if_eq (tgt := 90) hx hb dX1_follow_24 (by decide) (fun c9 => absurd c9 (by decide)) (fun _ => ?_)
  refine lv_aload_n hx hb dX1_follow_27 rfl (lv_at hl 2 rfl) ?_
  refine lv_iconst (v := 0) hx hb dX1_follow_28 (by decide) ?_
  refine pF (C := RX1) (T := TX1) (ci := 1) F hK hP hD hS 0 rfl rfl iwX1 tyX1 tyX1_ok nmX1 6 (by decide) m_48 (fun _ h => h) rfl rfl rfl dX1_follow_29 (fun H locs hP hD hS => ?_)
  have hP : va_P D vwCl [(fo, .inr (1, fl 7 (va_up (va_up (va_up gf 0 (.ref pr)) 2 (.ref ba)) 6 (.int 0)))), (pr, .inr (3, fl 9 gp))] H := hP
  have hD : va_D A [(fo, .inr (1, fl 7 (va_up (va_up (va_up gf 0 (.ref pr)) 2 (.ref ba)) 6 (.int 0)))), (pr, .inr (3, fl 9 gp))] := hD
  refine lv_iconst (v := 0) hx hb dX1_follow_32 (by decide) ?_
  refine lv_istore (lv' := [(5, .int 0), (4, .int 0), (3, .int (-1)), (0, .ref fo), (1, .ref pr), (2, .ref ba)]) hx hb dX1_follow_33 hl (by decide) rfl (fun ls hl => ?_)
  refine lv_iload hx hb dX1_follow_35 (lv_at hl 0 rfl) ?_
  refine lv_aload_n hx hb dX1_follow_37 rfl (lv_at hl 3 rfl) ?_
  refine gF (C := RX1) (T := TX1) (ci := 1) (v := .ref pr) F hK hP 0 rfl rfl iwX1 0 (by decide) m_44 (fun x h => u_same (F.2.2.2.2 _ m_45) x h) rfl dX1_follow_38 ?_
  refine gF (C := RX3) (T := TX3) (ci := 3) (v := .int 0) F hK hP 1 rfl rfl iwX3 2 (by decide) m_49 (fun _ h => h) gp_2 dX1_follow_41 ?_
  refine lv_icmp_ge (tgt := 79) hx hb dX1_follow_44 (by decide) (fun _ => ?_) (fun c9 => absurd (by decide) c9)
  refine lv_aload_n hx hb dX1_follow_79 rfl (lv_at hl 3 rfl) ?_
  refine gF (C := RX1) (T := TX1) (ci := 1) (v := .int 0) F hK hP 0 rfl rfl iwX1 6 (by decide) m_48 (fun _ h => h) rfl dX1_follow_80 ?_
  refine lv_istore_n (lv' := [(3, .int 0), (5, .int 0), (4, .int 0), (0, .ref fo), (1, .ref pr), (2, .ref ba)]) hx hb dX1_follow_83 rfl hl (by decide) rfl (fun ls hl => ?_)
  refine lv_iinc (v := 1) (lv' := [(4, .int 1), (3, .int 0), (5, .int 0), (0, .ref fo), (1, .ref pr), (2, .ref ba)]) hx hb dX1_follow_84 hl (k := 2) rfl (by decide) (by decide) rfl (fun ls hl => ?_)
  refine lv_goto (tgt := 15) hx hb dX1_follow_87 (by decide) ?_
  refine lv_iload hx hb dX1_follow_15 (lv_at hl 0 rfl) ?_
  refine lv_sipush (v := 640) hx hb dX1_follow_17 (by decide) ?_
  refine lv_icmp_gt (tgt := 90) hx hb dX1_follow_20 (by decide) (fun c9 => absurd c9 (by decide)) (fun _ => ?_)
  refine lv_iload_n hx hb dX1_follow_23 rfl (lv_at hl 1 rfl) ?_
  refine lv_if_eq (tgt := 90) hx hb dX1_follow_24 (by decide) (fun _ => ?_) (fun c9 => absurd (by decide) c9)
  exact retV F hr hlocks hP hD hS (va_up (va_up (va_up gf 0 (.ref pr)) 2 (.ref ba)) 6 (.int 0)) [0, 1] rfl rfl (Nat.le_of_ble_eq_true rfl) (Nat.le_of_ble_eq_true rfl) dX1_follow_90 trivial
set_option maxRecDepth 100000 in
set_option maxHeartbeats 4000000 in
theorem c_growP (l : Launch) (D : va_G) (Y : Nat → ClassId) (mo : Nat) (pr : Nat) (tr : Nat) (po : Nat) (so : Nat) (gr : Nat) (fo : Nat) (gm : Nat → Value) (gf : Nat → Value) (gp : Nat → Value) (gm_2 : gm 2 = .ref tr) (gm_3 : gm 3 = .ref po) (gm_4 : gm 4 = .ref so) (gm_5 : gm 5 = .ref gr) (gm_6 : gm 6 = .ref fo) (gp_2 : gp 2 = .int 0)  : cM l D Y yX2_growPossible cX2_growPossible 2 none 2 0 0 [.ref mo, .ref pr] [(mo, .inr (2, fl 7 gm)), (tr, .inl (Y 1, 10, .inr (.inl (fun _ => 0)))), (po, .inl (Y 1, 10, .inr (.inl (fun _ => 0)))), (gr, .inl (Y 1, 10, .inr (.inl (fun _ => 0)))), (fo, .inr (1, fl 7 gf)), (pr, .inr (3, fl 9 gp))] (qV D (fun (u : Nat → Value) => True) (fun (u : Nat → Value) => [(mo, .inr (2, fl 7 gm)), (tr, .inl (Y 1, 10, .inr (.inl (fun _ => 0)))), (po, .inl (Y 1, 10, .inr (.inl (fun _ => 0)))), (gr, .inl (Y 1, 10, .inr (.inl (fun _ => 0)))), (fo, .inr (1, fl 7 u)), (pr, .inr (3, fl 9 gp))])) := by
  refine cM.mk RX2 rfl (by decide) (Nat.le_of_ble_eq_true rfl) ?_
  intro p e s m below meth c A F hr hlocks hin hK hZ hP hD hA hS ls hl
  have hx := F.1
  have hb := F.2.1
  have hl : lv_has ls 2 [(0, .ref mo), (1, .ref pr)] := hl
  refine lv_aload_n hx hb dX2_growPossible_0 rfl (lv_at hl 0 rfl) ?_
  refine gF (C := RX2) (T := TX2) (ci := 2) (v := .ref tr) F hK hP 0 rfl rfl iwX2 2 (by decide) m_50 (fun _ h => h) gm_2 dX2_growPossible_1 ?_
  refine lv_iconst (v := 0) hx hb dX2_growPossible_4 (by decide) ?_
  refine lv_aload_n hx hb dX2_growPossible_5 rfl (lv_at hl 0 rfl) ?_
  refine gF (C := RX2) (T := TX2) (ci := 2) (v := .ref gr) F hK hP 0 rfl rfl iwX2 5 (by decide) m_51 (fun _ h => h) gm_5 dX2_growPossible_6 ?_
  refine lv_iconst (v := 0) hx hb dX2_growPossible_9 (by decide) ?_
  refine lv_bipush (v := 10) hx hb dX2_growPossible_10 (by decide) ?_
  refine va_copyl hx hb (by rw [F.2.2.1]; exact hl.1.symm) F.2.2.2.1 (F.2.2.2.2 _ m_52) (F.2.2.2.2 _ m_53) (F.2.2.2.2 _ m_54) (F.2.2.2.2 _ m_55) hK.1 hP hD hS 1 3 1 1 rfl rfl rfl rfl rfl (by decide) (by decide) (by decide) (Nat.le_of_ble_eq_true rfl) (Nat.le_of_ble_eq_true rfl) (fun _ _ => rfl) (Nat.le_of_ble_eq_true rfl) (Nat.le_of_ble_eq_true rfl) dX2_growPossible_12 (fun H locs hP hD hS => ?_)
  have hP : va_P D vwCl [(mo, .inr (2, fl 7 gm)), (tr, .inl (Y 1, 10, .inr (.inl (fun _ => 0)))), (po, .inl (Y 1, 10, .inr (.inl (fun _ => 0)))), (gr, .inl (Y 1, 10, .inr (.inl (va_cpy (fun _ => 0) (fun _ => 0) (0 : Int32).toNatClampNeg (0 : Int32).toNatClampNeg (10 : Int32).toNatClampNeg)))), (fo, .inr (1, fl 7 gf)), (pr, .inr (3, fl 9 gp))] H := hP
  have hD : va_D A [(mo, .inr (2, fl 7 gm)), (tr, .inl (Y 1, 10, .inr (.inl (fun _ => 0)))), (po, .inl (Y 1, 10, .inr (.inl (fun _ => 0)))), (gr, .inl (Y 1, 10, .inr (.inl (va_cpy (fun _ => 0) (fun _ => 0) (0 : Int32).toNatClampNeg (0 : Int32).toNatClampNeg (10 : Int32).toNatClampNeg)))), (fo, .inr (1, fl 7 gf)), (pr, .inr (3, fl 9 gp))] := hD
  rw [cpy0] at hP hD
  have hP : va_P D vwCl [(mo, .inr (2, fl 7 gm)), (tr, .inl (Y 1, 10, .inr (.inl (fun _ => 0)))), (po, .inl (Y 1, 10, .inr (.inl (fun _ => 0)))), (gr, .inl (Y 1, 10, .inr (.inl (fun _ => 0)))), (fo, .inr (1, fl 7 gf)), (pr, .inr (3, fl 9 gp))] H := hP
  have hD : va_D A [(mo, .inr (2, fl 7 gm)), (tr, .inl (Y 1, 10, .inr (.inl (fun _ => 0)))), (po, .inl (Y 1, 10, .inr (.inl (fun _ => 0)))), (gr, .inl (Y 1, 10, .inr (.inl (fun _ => 0)))), (fo, .inr (1, fl 7 gf)), (pr, .inr (3, fl 9 gp))] := hD
  refine lv_aload_n hx hb dX2_growPossible_15 rfl (lv_at hl 0 rfl) ?_
  refine gF (C := RX2) (T := TX2) (ci := 2) (v := .ref fo) F hK hP 0 rfl rfl iwX2 6 (by decide) m_56 (fun _ h => h) gm_6 dX2_growPossible_16 ?_
  refine lv_aload_n hx hb dX2_growPossible_19 rfl (lv_at hl 1 rfl) ?_
  refine lv_aload_n hx hb dX2_growPossible_20 rfl (lv_at hl 0 rfl) ?_
  refine gF (C := RX2) (T := TX2) (ci := 2) (v := .ref tr) F hK hP 0 rfl rfl iwX2 2 (by decide) m_50 (fun _ h => h) gm_2 dX2_growPossible_21 ?_
  refine goV (wr := [(mo, .inr (2, fl 7 gm)), (tr, .inl (Y 1, 10, .inr (.inl (fun _ => 0)))), (po, .inl (Y 1, 10, .inr (.inl (fun _ => 0)))), (gr, .inl (Y 1, 10, .inr (.inl (fun _ => 0))))]) (runV (n := 2) (As := [.ref pr, .ref tr]) (rest := []) (C := RX1) (T := TX1) (N := 7) (ci := 1) F hK hZ hP hD hS hA (c_follow l D Y fo pr tr gf gp gp_2 ) 4 rfl rfl [4, 5] rfl rfl m_59 m_60 m_61 m_58 m_57 (by decide +kernel) rfl ⟨Nat.le_of_ble_eq_true rfl, Nat.le_of_ble_eq_true rfl⟩ hl.1 rfl (Nat.le_of_ble_eq_true rfl) dX2_growPossible_24 ⟨Nat.le_of_ble_eq_true rfl, Nat.le_of_ble_eq_true rfl⟩) hP hD hS hA [4, 5] [0, 1, 2, 3] rfl rfl rfl (by decide) (fun gfn_1 H locs hw hP hD hS => ?_)
  have hP : va_P D vwCl [(mo, .inr (2, fl 7 gm)), (tr, .inl (Y 1, 10, .inr (.inl (fun _ => 0)))), (po, .inl (Y 1, 10, .inr (.inl (fun _ => 0)))), (gr, .inl (Y 1, 10, .inr (.inl (fun _ => 0)))), (fo, .inr (1, fl 7 gfn_1)), (pr, .inr (3, fl 9 gp))] H := hP
  have hD : va_D A [(mo, .inr (2, fl 7 gm)), (tr, .inl (Y 1, 10, .inr (.inl (fun _ => 0)))), (po, .inl (Y 1, 10, .inr (.inl (fun _ => 0)))), (gr, .inl (Y 1, 10, .inr (.inl (fun _ => 0)))), (fo, .inr (1, fl 7 gfn_1)), (pr, .inr (3, fl 9 gp))] := hD
  refine W.widen (k := 0) (n := 0) (Nat.le_of_ble_eq_true rfl) (Nat.le_of_ble_eq_true rfl) ?_
  refine lv_aload_n hx hb dX2_growPossible_27 rfl (lv_at hl 0 rfl) ?_
  refine gF (C := RX2) (T := TX2) (ci := 2) (v := .ref gr) F hK hP 0 rfl rfl iwX2 5 (by decide) m_51 (fun _ h => h) gm_5 dX2_growPossible_28 ?_
  refine lv_iconst (v := 0) hx hb dX2_growPossible_31 (by decide) ?_
  refine lv_aload_n hx hb dX2_growPossible_32 rfl (lv_at hl 0 rfl) ?_
  refine gF (C := RX2) (T := TX2) (ci := 2) (v := .ref po) F hK hP 0 rfl rfl iwX2 3 (by decide) m_62 (fun _ h => h) gm_3 dX2_growPossible_33 ?_
  refine lv_iconst (v := 0) hx hb dX2_growPossible_36 (by decide) ?_
  refine lv_bipush (v := 10) hx hb dX2_growPossible_37 (by decide) ?_
  refine va_copyl hx hb (by rw [F.2.2.1]; exact hl.1.symm) F.2.2.2.1 (F.2.2.2.2 _ m_52) (F.2.2.2.2 _ m_53) (F.2.2.2.2 _ m_54) (F.2.2.2.2 _ m_55) hK.1 hP hD hS 3 2 1 1 rfl rfl rfl rfl rfl (by decide) (by decide) (by decide) (Nat.le_of_ble_eq_true rfl) (Nat.le_of_ble_eq_true rfl) (fun _ _ => rfl) (Nat.le_of_ble_eq_true rfl) (Nat.le_of_ble_eq_true rfl) dX2_growPossible_39 (fun H locs hP hD hS => ?_)
  have hP : va_P D vwCl [(mo, .inr (2, fl 7 gm)), (tr, .inl (Y 1, 10, .inr (.inl (fun _ => 0)))), (po, .inl (Y 1, 10, .inr (.inl (va_cpy (fun _ => 0) (fun _ => 0) (0 : Int32).toNatClampNeg (0 : Int32).toNatClampNeg (10 : Int32).toNatClampNeg)))), (gr, .inl (Y 1, 10, .inr (.inl (fun _ => 0)))), (fo, .inr (1, fl 7 gfn_1)), (pr, .inr (3, fl 9 gp))] H := hP
  have hD : va_D A [(mo, .inr (2, fl 7 gm)), (tr, .inl (Y 1, 10, .inr (.inl (fun _ => 0)))), (po, .inl (Y 1, 10, .inr (.inl (va_cpy (fun _ => 0) (fun _ => 0) (0 : Int32).toNatClampNeg (0 : Int32).toNatClampNeg (10 : Int32).toNatClampNeg)))), (gr, .inl (Y 1, 10, .inr (.inl (fun _ => 0)))), (fo, .inr (1, fl 7 gfn_1)), (pr, .inr (3, fl 9 gp))] := hD
  rw [cpy0] at hP hD
  have hP : va_P D vwCl [(mo, .inr (2, fl 7 gm)), (tr, .inl (Y 1, 10, .inr (.inl (fun _ => 0)))), (po, .inl (Y 1, 10, .inr (.inl (fun _ => 0)))), (gr, .inl (Y 1, 10, .inr (.inl (fun _ => 0)))), (fo, .inr (1, fl 7 gfn_1)), (pr, .inr (3, fl 9 gp))] H := hP
  have hD : va_D A [(mo, .inr (2, fl 7 gm)), (tr, .inl (Y 1, 10, .inr (.inl (fun _ => 0)))), (po, .inl (Y 1, 10, .inr (.inl (fun _ => 0)))), (gr, .inl (Y 1, 10, .inr (.inl (fun _ => 0)))), (fo, .inr (1, fl 7 gfn_1)), (pr, .inr (3, fl 9 gp))] := hD
  exact retV F hr hlocks hP hD hS gfn_1 [0, 1, 2, 3, 4, 5] rfl rfl (Nat.le_of_ble_eq_true rfl) (Nat.le_of_ble_eq_true rfl) dX2_growPossible_42 trivial
set_option maxRecDepth 100000 in
set_option maxHeartbeats 4000000 in
theorem c_growT (l : Launch) (D : va_G) (Y : Nat → ClassId) (mo : Nat) (pr : Nat) (tr : Nat) (po : Nat) (so : Nat) (gr : Nat) (fo : Nat) (gm : Nat → Value) (gf : Nat → Value) (gp : Nat → Value) (gm_2 : gm 2 = .ref tr) (gm_3 : gm 3 = .ref po) (gm_4 : gm 4 = .ref so) (gm_5 : gm 5 = .ref gr) (gm_6 : gm 6 = .ref fo) (gp_2 : gp 2 = .int 0)  : cM l D Y yX2_growTruth cX2_growTruth 4 (some .boolean) 2 0 0 [.ref mo, .ref pr] [(mo, .inr (2, fl 7 gm)), (tr, .inl (Y 1, 10, .inr (.inl (fun _ => 0)))), (po, .inl (Y 1, 10, .inr (.inl (fun _ => 0)))), (gr, .inl (Y 1, 10, .inr (.inl (fun _ => 0)))), (fo, .inr (1, fl 7 gf)), (pr, .inr (3, fl 9 gp))] (qI D (fun (r : Int32) (u : Nat → Value) => r = 0) (fun (u : Nat → Value) => [(mo, .inr (2, fl 7 gm)), (tr, .inl (Y 1, 10, .inr (.inl (fun _ => 0)))), (po, .inl (Y 1, 10, .inr (.inl (fun _ => 0)))), (gr, .inl (Y 1, 10, .inr (.inl (fun _ => 0)))), (fo, .inr (1, fl 7 u)), (pr, .inr (3, fl 9 gp))])) := by
  refine cM.mk RX2 rfl (by decide) (Nat.le_of_ble_eq_true rfl) ?_
  intro p e s m below meth c A F hr hlocks hin hK hZ hP hD hA hS ls hl
  have hx := F.1
  have hb := F.2.1
  have hl : lv_has ls 4 [(0, .ref mo), (1, .ref pr)] := hl
  refine lv_aload_n hx hb dX2_growTruth_0 rfl (lv_at hl 0 rfl) ?_
  refine gF (C := RX2) (T := TX2) (ci := 2) (v := .ref tr) F hK hP 0 rfl rfl iwX2 2 (by decide) m_50 (fun _ h => h) gm_2 dX2_growTruth_1 ?_
  refine lv_iconst (v := 0) hx hb dX2_growTruth_4 (by decide) ?_
  refine lv_aload_n hx hb dX2_growTruth_5 rfl (lv_at hl 0 rfl) ?_
  refine gF (C := RX2) (T := TX2) (ci := 2) (v := .ref gr) F hK hP 0 rfl rfl iwX2 5 (by decide) m_51 (fun _ h => h) gm_5 dX2_growTruth_6 ?_
  refine lv_iconst (v := 0) hx hb dX2_growTruth_9 (by decide) ?_
  refine lv_bipush (v := 10) hx hb dX2_growTruth_10 (by decide) ?_
  refine va_copyl hx hb (by rw [F.2.2.1]; exact hl.1.symm) F.2.2.2.1 (F.2.2.2.2 _ m_52) (F.2.2.2.2 _ m_53) (F.2.2.2.2 _ m_54) (F.2.2.2.2 _ m_55) hK.1 hP hD hS 1 3 1 1 rfl rfl rfl rfl rfl (by decide) (by decide) (by decide) (Nat.le_of_ble_eq_true rfl) (Nat.le_of_ble_eq_true rfl) (fun _ _ => rfl) (Nat.le_of_ble_eq_true rfl) (Nat.le_of_ble_eq_true rfl) dX2_growTruth_12 (fun H locs hP hD hS => ?_)
  have hP : va_P D vwCl [(mo, .inr (2, fl 7 gm)), (tr, .inl (Y 1, 10, .inr (.inl (fun _ => 0)))), (po, .inl (Y 1, 10, .inr (.inl (fun _ => 0)))), (gr, .inl (Y 1, 10, .inr (.inl (va_cpy (fun _ => 0) (fun _ => 0) (0 : Int32).toNatClampNeg (0 : Int32).toNatClampNeg (10 : Int32).toNatClampNeg)))), (fo, .inr (1, fl 7 gf)), (pr, .inr (3, fl 9 gp))] H := hP
  have hD : va_D A [(mo, .inr (2, fl 7 gm)), (tr, .inl (Y 1, 10, .inr (.inl (fun _ => 0)))), (po, .inl (Y 1, 10, .inr (.inl (fun _ => 0)))), (gr, .inl (Y 1, 10, .inr (.inl (va_cpy (fun _ => 0) (fun _ => 0) (0 : Int32).toNatClampNeg (0 : Int32).toNatClampNeg (10 : Int32).toNatClampNeg)))), (fo, .inr (1, fl 7 gf)), (pr, .inr (3, fl 9 gp))] := hD
  rw [cpy0] at hP hD
  have hP : va_P D vwCl [(mo, .inr (2, fl 7 gm)), (tr, .inl (Y 1, 10, .inr (.inl (fun _ => 0)))), (po, .inl (Y 1, 10, .inr (.inl (fun _ => 0)))), (gr, .inl (Y 1, 10, .inr (.inl (fun _ => 0)))), (fo, .inr (1, fl 7 gf)), (pr, .inr (3, fl 9 gp))] H := hP
  have hD : va_D A [(mo, .inr (2, fl 7 gm)), (tr, .inl (Y 1, 10, .inr (.inl (fun _ => 0)))), (po, .inl (Y 1, 10, .inr (.inl (fun _ => 0)))), (gr, .inl (Y 1, 10, .inr (.inl (fun _ => 0)))), (fo, .inr (1, fl 7 gf)), (pr, .inr (3, fl 9 gp))] := hD
  refine lv_aload_n hx hb dX2_growTruth_15 rfl (lv_at hl 0 rfl) ?_
  refine gF (C := RX2) (T := TX2) (ci := 2) (v := .ref fo) F hK hP 0 rfl rfl iwX2 6 (by decide) m_56 (fun _ h => h) gm_6 dX2_growTruth_16 ?_
  refine lv_aload_n hx hb dX2_growTruth_19 rfl (lv_at hl 1 rfl) ?_
  refine lv_aload_n hx hb dX2_growTruth_20 rfl (lv_at hl 0 rfl) ?_
  refine gF (C := RX2) (T := TX2) (ci := 2) (v := .ref po) F hK hP 0 rfl rfl iwX2 3 (by decide) m_62 (fun _ h => h) gm_3 dX2_growTruth_21 ?_
  refine goV (wr := [(mo, .inr (2, fl 7 gm)), (tr, .inl (Y 1, 10, .inr (.inl (fun _ => 0)))), (po, .inl (Y 1, 10, .inr (.inl (fun _ => 0)))), (gr, .inl (Y 1, 10, .inr (.inl (fun _ => 0))))]) (runV (n := 2) (As := [.ref pr, .ref po]) (rest := []) (C := RX1) (T := TX1) (N := 7) (ci := 1) F hK hZ hP hD hS hA (c_follow l D Y fo pr po gf gp gp_2 ) 4 rfl rfl [4, 5] rfl rfl m_59 m_60 m_61 m_58 m_57 (by decide +kernel) rfl ⟨Nat.le_of_ble_eq_true rfl, Nat.le_of_ble_eq_true rfl⟩ hl.1 rfl (Nat.le_of_ble_eq_true rfl) dX2_growTruth_24 ⟨Nat.le_of_ble_eq_true rfl, Nat.le_of_ble_eq_true rfl⟩) hP hD hS hA [4, 5] [0, 1, 2, 3] rfl rfl rfl (by decide) (fun gfn_1 H locs hw hP hD hS => ?_)
  have hP : va_P D vwCl [(mo, .inr (2, fl 7 gm)), (tr, .inl (Y 1, 10, .inr (.inl (fun _ => 0)))), (po, .inl (Y 1, 10, .inr (.inl (fun _ => 0)))), (gr, .inl (Y 1, 10, .inr (.inl (fun _ => 0)))), (fo, .inr (1, fl 7 gfn_1)), (pr, .inr (3, fl 9 gp))] H := hP
  have hD : va_D A [(mo, .inr (2, fl 7 gm)), (tr, .inl (Y 1, 10, .inr (.inl (fun _ => 0)))), (po, .inl (Y 1, 10, .inr (.inl (fun _ => 0)))), (gr, .inl (Y 1, 10, .inr (.inl (fun _ => 0)))), (fo, .inr (1, fl 7 gfn_1)), (pr, .inr (3, fl 9 gp))] := hD
  refine W.widen (k := 0) (n := 0) (Nat.le_of_ble_eq_true rfl) (Nat.le_of_ble_eq_true rfl) ?_
  refine lv_iconst (v := 0) hx hb dX2_growTruth_27 (by decide) ?_
  refine lv_istore_n (lv' := [(2, .int 0), (0, .ref mo), (1, .ref pr)]) hx hb dX2_growTruth_28 rfl hl (by decide) rfl (fun ls hl => ?_)
  refine lv_iconst (v := 0) hx hb dX2_growTruth_29 (by decide) ?_
  refine lv_istore_n (lv' := [(3, .int 0), (2, .int 0), (0, .ref mo), (1, .ref pr)]) hx hb dX2_growTruth_30 rfl hl (by decide) rfl (fun ls hl => ?_)
  refine loopN (X := Unit) 10 (fun i x H locs ls => va_P D vwCl [(mo, .inr (2, fl 7 gm)), (tr, .inl (Y 1, 10, .inr (.inl (fun _ => 0)))), (po, .inl (Y 1, 10, .inr (.inl (fun _ => 0)))), (gr, .inl (Y 1, 10, .inr (.inl (fun _ => 0)))), (fo, .inr (1, fl 7 gfn_1)), (pr, .inr (3, fl 9 gp))] H ∧ va_D A [(mo, .inr (2, fl 7 gm)), (tr, .inl (Y 1, 10, .inr (.inl (fun _ => 0)))), (po, .inl (Y 1, 10, .inr (.inl (fun _ => 0)))), (gr, .inl (Y 1, 10, .inr (.inl (fun _ => 0)))), (fo, .inr (1, fl 7 gfn_1)), (pr, .inr (3, fl 9 gp))] ∧ va_S A s.heap H locs ∧ lv_has ls 4 [(0, .ref mo), (1, .ref pr), (2, .int 0), (3, .int (nI i))]) 31 ?_ ?_ 0 () (by omega) ⟨hP, hD, hS, lv_sub hl [2, 3, 1, 0] rfl⟩
  · rintro _ H locs ls ⟨hP, hD, hS, hl⟩
    have hP : va_P D vwCl [(mo, .inr (2, fl 7 gm)), (tr, .inl (Y 1, 10, .inr (.inl (fun _ => 0)))), (po, .inl (Y 1, 10, .inr (.inl (fun _ => 0)))), (gr, .inl (Y 1, 10, .inr (.inl (fun _ => 0)))), (fo, .inr (1, fl 7 gfn_1)), (pr, .inr (3, fl 9 gp))] H := hP
    have hD : va_D A [(mo, .inr (2, fl 7 gm)), (tr, .inl (Y 1, 10, .inr (.inl (fun _ => 0)))), (po, .inl (Y 1, 10, .inr (.inl (fun _ => 0)))), (gr, .inl (Y 1, 10, .inr (.inl (fun _ => 0)))), (fo, .inr (1, fl 7 gfn_1)), (pr, .inr (3, fl 9 gp))] := hD
    have hl : lv_has ls 4 [(0, .ref mo), (1, .ref pr), (2, .int 0), (3, .int 10)] := hl
    refine lv_iload_n hx hb dX2_growTruth_31 rfl (lv_at hl 3 rfl) ?_
    refine lv_bipush (v := 10) hx hb dX2_growTruth_32 (by decide) ?_
    refine lv_icmp_ge (tgt := 79) hx hb dX2_growTruth_34 (by decide) (fun _ => ?_) (fun c9 => absurd (by decide) c9)
    refine lv_iload_n hx hb dX2_growTruth_79 rfl (lv_at hl 2 rfl) ?_
    exact retI F hr hlocks rfl hP hD hS gfn_1 [0, 1, 2, 3, 4, 5] rfl rfl (Nat.le_of_ble_eq_true rfl) (Nat.le_of_ble_eq_true rfl) dX2_growTruth_80 rfl
  · rintro i _ H locs ls hi ⟨hP, hD, hS, hl⟩ ih
    have hP : va_P D vwCl [(mo, .inr (2, fl 7 gm)), (tr, .inl (Y 1, 10, .inr (.inl (fun _ => 0)))), (po, .inl (Y 1, 10, .inr (.inl (fun _ => 0)))), (gr, .inl (Y 1, 10, .inr (.inl (fun _ => 0)))), (fo, .inr (1, fl 7 gfn_1)), (pr, .inr (3, fl 9 gp))] H := hP
    have hD : va_D A [(mo, .inr (2, fl 7 gm)), (tr, .inl (Y 1, 10, .inr (.inl (fun _ => 0)))), (po, .inl (Y 1, 10, .inr (.inl (fun _ => 0)))), (gr, .inl (Y 1, 10, .inr (.inl (fun _ => 0)))), (fo, .inr (1, fl 7 gfn_1)), (pr, .inr (3, fl 9 gp))] := hD
    refine lv_iload_n hx hb dX2_growTruth_31 rfl (lv_at hl 3 rfl) ?_
    refine lv_bipush (v := 10) hx hb dX2_growTruth_32 (by decide) ?_
    refine lv_icmp_ge (tgt := 79) hx hb dX2_growTruth_34 (by decide) (fun c9 => absurd c9 (nI_ge (b := 10) hi (by decide))) (fun _ => ?_)
    refine lv_iload_n hx hb dX2_growTruth_37 rfl (lv_at hl 2 rfl) ?_
    refine lv_aload_n hx hb dX2_growTruth_38 rfl (lv_at hl 0 rfl) ?_
    refine gF (C := RX2) (T := TX2) (ci := 2) (v := .ref tr) F hK hP 0 rfl rfl iwX2 2 (by decide) m_50 (fun _ h => h) gm_2 dX2_growTruth_39 ?_
    refine lv_iload_n hx hb dX2_growTruth_42 rfl (lv_at hl 3 rfl) ?_
    refine va_lald hx hb hK.1 hP 1 1 rfl rfl (vp_in_nI hi (by decide)) dX2_growTruth_43 ?_
    refine lv_tol (v := 0) rfl ?_
    refine lv_aload_n hx hb dX2_growTruth_44 rfl (lv_at hl 0 rfl) ?_
    refine gF (C := RX2) (T := TX2) (ci := 2) (v := .ref gr) F hK hP 0 rfl rfl iwX2 5 (by decide) m_51 (fun _ h => h) gm_5 dX2_growTruth_45 ?_
    refine lv_iload_n hx hb dX2_growTruth_48 rfl (lv_at hl 3 rfl) ?_
    refine va_lald hx hb hK.1 hP 3 1 rfl rfl (vp_in_nI hi (by decide)) dX2_growTruth_49 ?_
    refine lv_tol (v := 0) rfl ?_
    refine W.lcmp hx hb dX2_growTruth_50 ?_
    refine lv_toc (v := 0) (by decide) ?_
    refine lv_if_eq (tgt := 58) hx hb dX2_growTruth_51 (by decide) (fun _ => ?_) (fun c9 => absurd (by decide) c9)
    refine lv_iconst (v := 0) hx hb dX2_growTruth_58 (by decide) ?_
    refine lv_ior hx hb dX2_growTruth_59 ?_
    refine lv_toc (v := 0) (by decide) ?_
    refine lv_istore_n (lv' := [(2, .int 0), (0, .ref mo), (1, .ref pr), (3, .int (nI i))]) hx hb dX2_growTruth_60 rfl hl (by decide) rfl (fun ls hl => ?_)
    refine lv_aload_n hx hb dX2_growTruth_61 rfl (lv_at hl 1 rfl) ?_
    refine gF (C := RX2) (T := TX2) (ci := 2) (v := .ref tr) F hK hP 0 rfl rfl iwX2 2 (by decide) m_50 (fun _ h => h) gm_2 dX2_growTruth_62 ?_
    refine lv_iload_n hx hb dX2_growTruth_65 rfl (lv_at hl 3 rfl) ?_
    refine lv_aload_n hx hb dX2_growTruth_66 rfl (lv_at hl 1 rfl) ?_
    refine gF (C := RX2) (T := TX2) (ci := 2) (v := .ref gr) F hK hP 0 rfl rfl iwX2 5 (by decide) m_51 (fun _ h => h) gm_5 dX2_growTruth_67 ?_
    refine lv_iload_n hx hb dX2_growTruth_70 rfl (lv_at hl 3 rfl) ?_
    refine va_lald hx hb hK.1 hP 3 1 rfl rfl (vp_in_nI hi (by decide)) dX2_growTruth_71 ?_
    refine lv_tol (v := 0) rfl ?_
    refine va_last hx hb hK.1 hP hD hS 1 1 rfl rfl (vp_in_nI hi (by decide)) dX2_growTruth_72 (fun H locs hP hD hS => ?_)
    have hP : va_P D vwCl [(mo, .inr (2, fl 7 gm)), (tr, .inl (Y 1, 10, .inr (.inl (vp_updL (fun _ => 0) (nI i).toNatClampNeg 0)))), (po, .inl (Y 1, 10, .inr (.inl (fun _ => 0)))), (gr, .inl (Y 1, 10, .inr (.inl (fun _ => 0)))), (fo, .inr (1, fl 7 gfn_1)), (pr, .inr (3, fl 9 gp))] H := hP
    have hD : va_D A [(mo, .inr (2, fl 7 gm)), (tr, .inl (Y 1, 10, .inr (.inl (vp_updL (fun _ => 0) (nI i).toNatClampNeg 0)))), (po, .inl (Y 1, 10, .inr (.inl (fun _ => 0)))), (gr, .inl (Y 1, 10, .inr (.inl (fun _ => 0)))), (fo, .inr (1, fl 7 gfn_1)), (pr, .inr (3, fl 9 gp))] := hD
    have e_f : (vp_updL (fun _ => 0) (nI i).toNatClampNeg 0) = (fun _ => 0) := updL0 _
    rw [e_f] at hP hD
    clear e_f
    refine lv_iinc (v := (nI (i + 1))) (lv' := [(3, .int (nI (i + 1))), (2, .int 0), (0, .ref mo), (1, .ref pr)]) hx hb dX2_growTruth_73 hl (k := 3) rfl (nI_1 i) (by decide) rfl (fun ls hl => ?_)
    refine lv_goto (tgt := 31) hx hb dX2_growTruth_76 (by decide) ?_
    exact ih () _ _ _ ⟨hP, hD, hS, lv_sub hl [2, 3, 1, 0] rfl⟩
set_option maxRecDepth 100000 in
set_option maxHeartbeats 4000000 in
theorem c_noteS (l : Launch) (D : va_G) (Y : Nat → ClassId) (mo : Nat) (gm : Nat → Value)   : cM l D Y yX2_noteStage cX2_noteStage 7 none 1 0 0 [.ref mo, .int 0] [(mo, .inr (2, fl 7 gm))] (qV D (fun (u : Unit) => True) (fun (u : Unit) => [(mo, .inr (2, fl 7 gm))])) := by
  refine cM.mk RX2 rfl (by decide) (Nat.le_of_ble_eq_true rfl) ?_
  intro p e s m below meth c A F hr hlocks hin hK hZ hP hD hA hS ls hl
  have hx := F.1
  have hb := F.2.1
  have hl : lv_has ls 7 [(0, .ref mo), (1, .int 0)] := hl
  refine lv_iconst (v := 0) hx hb dX2_noteStage_0 (by decide) ?_
  refine lv_istore_n (lv' := [(2, .int 0), (0, .ref mo), (1, .int 0)]) hx hb dX2_noteStage_1 rfl hl (by decide) rfl (fun ls hl => ?_)
  refine lv_iload_n hx hb dX2_noteStage_2 rfl (lv_at hl 0 rfl) ?_
  refine lv_iload_n hx hb dX2_noteStage_3 rfl (lv_at hl 2 rfl) ?_
  refine lv_icmp_ge (tgt := 89) hx hb dX2_noteStage_4 (by decide) (fun _ => ?_) (fun c9 => absurd (by decide) c9)
  exact retV F hr hlocks hP hD hS () [0] rfl rfl (Nat.le_of_ble_eq_true rfl) (Nat.le_of_ble_eq_true rfl) dX2_noteStage_89 trivial
set_option maxRecDepth 100000 in
set_option maxHeartbeats 4000000 in
theorem c_settle (l : Launch) (D : va_G) (Y : Nat → ClassId) (mo : Nat) (pr : Nat) (tr : Nat) (po : Nat) (so : Nat) (gr : Nat) (fo : Nat) (gm : Nat → Value) (gf : Nat → Value) (gp : Nat → Value) (fs : Nat → Int32) (gm_0 : gm 0 = .int 0) (gm_2 : gm 2 = .ref tr) (gm_3 : gm 3 = .ref po) (gm_4 : gm 4 = .ref so) (gm_5 : gm 5 = .ref gr) (gm_6 : gm 6 = .ref fo) (gp_0 : gp 0 = .int 0) (gp_2 : gp 2 = .int 0)  : cM l D Y yX2_settle cX2_settle 2 none 3 0 0 [.ref mo, .ref pr] [(mo, .inr (2, fl 7 gm)), (tr, .inl (Y 1, 10, .inr (.inl (fun _ => 0)))), (po, .inl (Y 1, 10, .inr (.inl (fun _ => 0)))), (gr, .inl (Y 1, 10, .inr (.inl (fun _ => 0)))), (fo, .inr (1, fl 7 gf)), (pr, .inr (3, fl 9 gp)), (so, .inl (Y 0, 640, .inl fs))] (qV D (fun (u : (Nat → Value) × (Nat → Value) × (Nat → Int32)) => u.1 1 = .int 0 ∧ u.1 2 = .ref tr ∧ u.1 3 = .ref po ∧ u.1 4 = .ref so ∧ u.1 5 = .ref gr ∧ u.1 6 = .ref fo) (fun (u : (Nat → Value) × (Nat → Value) × (Nat → Int32)) => [(mo, .inr (2, fl 7 u.1)), (tr, .inl (Y 1, 10, .inr (.inl (fun _ => 0)))), (po, .inl (Y 1, 10, .inr (.inl (fun _ => 0)))), (gr, .inl (Y 1, 10, .inr (.inl (fun _ => 0)))), (fo, .inr (1, fl 7 u.2.1)), (pr, .inr (3, fl 9 gp)), (so, .inl (Y 0, 640, .inl u.2.2))])) := by
  refine cM.mk RX2 rfl (by decide) (Nat.le_of_ble_eq_true rfl) ?_
  intro p e s m below meth c A F hr hlocks hin hK hZ hP hD hA hS ls hl
  have hx := F.1
  have hb := F.2.1
  have hl : lv_has ls 2 [(0, .ref mo), (1, .ref pr)] := hl
  refine lv_aload_n hx hb dX2_settle_0 rfl (lv_at hl 0 rfl) ?_
  refine gF (C := RX2) (T := TX2) (ci := 2) (v := .int 0) F hK hP 0 rfl rfl iwX2 0 (by decide) m_63 (fun _ h => h) gm_0 dX2_settle_1 ?_
  refine lv_if_eq (tgt := 8) hx hb dX2_settle_4 (by decide) (fun _ => ?_) (fun c9 => absurd (by decide) c9)
  refine lv_aload_n hx hb dX2_settle_8 rfl (lv_at hl 0 rfl) ?_
  refine gF (C := RX2) (T := TX2) (ci := 2) (v := .ref tr) F hK hP 0 rfl rfl iwX2 2 (by decide) m_50 (fun _ h => h) gm_2 dX2_settle_9 ?_
  refine lv_lconst (v := 0) hx hb dX2_settle_12 (by decide) ?_
  refine goV (wr := [(mo, .inr (2, fl 7 gm)), (po, .inl (Y 1, 10, .inr (.inl (fun _ => 0)))), (gr, .inl (Y 1, 10, .inr (.inl (fun _ => 0)))), (fo, .inr (1, fl 7 gf)), (pr, .inr (3, fl 9 gp)), (so, .inl (Y 0, 640, .inl fs))]) (runS (n := 2) (As := [.ref tr, .long 0]) (rest := []) F hK hZ hP hD hS hA (c_fillL l D Y tr  ) [1] rfl rfl m_66 m_67 m_65 m_64 (by decide +kernel) rfl ⟨Nat.le_of_ble_eq_true rfl, Nat.le_of_ble_eq_true rfl⟩ hl.1 rfl (Nat.le_of_ble_eq_true rfl) dX2_settle_13 ⟨Nat.le_of_ble_eq_true rfl, Nat.le_of_ble_eq_true rfl⟩) hP hD hS hA [1] [0, 2, 3, 4, 5, 6] rfl rfl rfl (by decide) (fun u H locs hw hP hD hS => ?_)
  have hP : va_P D vwCl [(mo, .inr (2, fl 7 gm)), (po, .inl (Y 1, 10, .inr (.inl (fun _ => 0)))), (gr, .inl (Y 1, 10, .inr (.inl (fun _ => 0)))), (fo, .inr (1, fl 7 gf)), (pr, .inr (3, fl 9 gp)), (so, .inl (Y 0, 640, .inl fs)), (tr, .inl (Y 1, 10, .inr (.inl (fun _ => 0))))] H := hP
  have hD : va_D A [(mo, .inr (2, fl 7 gm)), (po, .inl (Y 1, 10, .inr (.inl (fun _ => 0)))), (gr, .inl (Y 1, 10, .inr (.inl (fun _ => 0)))), (fo, .inr (1, fl 7 gf)), (pr, .inr (3, fl 9 gp)), (so, .inl (Y 0, 640, .inl fs)), (tr, .inl (Y 1, 10, .inr (.inl (fun _ => 0))))] := hD
  refine W.widen (k := 0) (n := 0) (Nat.le_of_ble_eq_true rfl) (Nat.le_of_ble_eq_true rfl) ?_
  refine lv_aload_n hx hb dX2_settle_16 rfl (lv_at hl 0 rfl) ?_
  refine gF (C := RX2) (T := TX2) (ci := 2) (v := .ref so) F hK hP 0 rfl rfl iwX2 4 (by decide) m_68 (fun _ h => h) gm_4 dX2_settle_17 ?_
  refine lv_iconst (v := (-1)) hx hb dX2_settle_20 (by decide) ?_
  refine goV (wr := [(mo, .inr (2, fl 7 gm)), (po, .inl (Y 1, 10, .inr (.inl (fun _ => 0)))), (gr, .inl (Y 1, 10, .inr (.inl (fun _ => 0)))), (fo, .inr (1, fl 7 gf)), (pr, .inr (3, fl 9 gp)), (tr, .inl (Y 1, 10, .inr (.inl (fun _ => 0))))]) (runS (n := 2) (As := [.ref so, .int (-1)]) (rest := []) F hK hZ hP hD hS hA (c_fillI l D Y so (-1) 640 fs  (by decide)) [5] rfl rfl m_70 m_71 m_65 m_69 (by decide +kernel) rfl ⟨Nat.le_of_ble_eq_true rfl, Nat.le_of_ble_eq_true rfl⟩ hl.1 rfl (Nat.le_of_ble_eq_true rfl) dX2_settle_21 ⟨Nat.le_of_ble_eq_true rfl, Nat.le_of_ble_eq_true rfl⟩) hP hD hS hA [5] [0, 1, 2, 3, 4, 6] rfl rfl rfl (by decide) (fun fn_2 H locs hw hP hD hS => ?_)
  have hP : va_P D vwCl [(mo, .inr (2, fl 7 gm)), (po, .inl (Y 1, 10, .inr (.inl (fun _ => 0)))), (gr, .inl (Y 1, 10, .inr (.inl (fun _ => 0)))), (fo, .inr (1, fl 7 gf)), (pr, .inr (3, fl 9 gp)), (tr, .inl (Y 1, 10, .inr (.inl (fun _ => 0)))), (so, .inl (Y 0, 640, .inl fn_2))] H := hP
  have hD : va_D A [(mo, .inr (2, fl 7 gm)), (po, .inl (Y 1, 10, .inr (.inl (fun _ => 0)))), (gr, .inl (Y 1, 10, .inr (.inl (fun _ => 0)))), (fo, .inr (1, fl 7 gf)), (pr, .inr (3, fl 9 gp)), (tr, .inl (Y 1, 10, .inr (.inl (fun _ => 0)))), (so, .inl (Y 0, 640, .inl fn_2))] := hD
  refine W.widen (k := 0) (n := 0) (Nat.le_of_ble_eq_true rfl) (Nat.le_of_ble_eq_true rfl) ?_
  refine lv_aload_n hx hb dX2_settle_24 rfl (lv_at hl 0 rfl) ?_
  refine lv_iconst (v := 0) hx hb dX2_settle_25 (by decide) ?_
  refine pF (C := RX2) (T := TX2) (ci := 2) F hK hP hD hS 0 rfl rfl iwX2 tyX2 tyX2_ok nmX2 1 (by decide) m_72 (fun _ h => h) rfl rfl rfl dX2_settle_26 (fun H locs hP hD hS => ?_)
  have hP : va_P D vwCl [(mo, .inr (2, fl 7 (va_up gm 1 (.int 0)))), (po, .inl (Y 1, 10, .inr (.inl (fun _ => 0)))), (gr, .inl (Y 1, 10, .inr (.inl (fun _ => 0)))), (fo, .inr (1, fl 7 gf)), (pr, .inr (3, fl 9 gp)), (tr, .inl (Y 1, 10, .inr (.inl (fun _ => 0)))), (so, .inl (Y 0, 640, .inl fn_2))] H := hP
  have hD : va_D A [(mo, .inr (2, fl 7 (va_up gm 1 (.int 0)))), (po, .inl (Y 1, 10, .inr (.inl (fun _ => 0)))), (gr, .inl (Y 1, 10, .inr (.inl (fun _ => 0)))), (fo, .inr (1, fl 7 gf)), (pr, .inr (3, fl 9 gp)), (tr, .inl (Y 1, 10, .inr (.inl (fun _ => 0)))), (so, .inl (Y 0, 640, .inl fn_2))] := hD
  refine lv_aload_n hx hb dX2_settle_29 rfl (lv_at hl 0 rfl) ?_
  refine lv_aload_n hx hb dX2_settle_30 rfl (lv_at hl 1 rfl) ?_
  refine goV (wr := [(so, .inl (Y 0, 640, .inl fn_2))]) (runV (n := 1) (As := [.ref pr]) (rest := []) (C := RX2) (T := TX2) (N := 7) (ci := 2) F hK hZ hP hD hS hA (c_growP l D Y mo pr tr po so gr fo (va_up gm 1 (.int 0)) gf gp gm_2 gm_3 gm_4 gm_5 gm_6 gp_2 ) 0 rfl rfl [0, 5, 1, 2, 3, 4] rfl rfl m_75 m_76 m_77 m_74 m_73 (by decide +kernel) rfl ⟨Nat.le_of_ble_eq_true rfl, Nat.le_of_ble_eq_true rfl⟩ hl.1 rfl (Nat.le_of_ble_eq_true rfl) dX2_settle_31 ⟨Nat.le_of_ble_eq_true rfl, Nat.le_of_ble_eq_true rfl⟩) hP hD hS hA [0, 5, 1, 2, 3, 4] [6] rfl rfl rfl (by decide) (fun gfn_4 H locs hw hP hD hS => ?_)
  have hP : va_P D vwCl [(so, .inl (Y 0, 640, .inl fn_2)), (mo, .inr (2, fl 7 (va_up gm 1 (.int 0)))), (tr, .inl (Y 1, 10, .inr (.inl (fun _ => 0)))), (po, .inl (Y 1, 10, .inr (.inl (fun _ => 0)))), (gr, .inl (Y 1, 10, .inr (.inl (fun _ => 0)))), (fo, .inr (1, fl 7 gfn_4)), (pr, .inr (3, fl 9 gp))] H := hP
  have hD : va_D A [(so, .inl (Y 0, 640, .inl fn_2)), (mo, .inr (2, fl 7 (va_up gm 1 (.int 0)))), (tr, .inl (Y 1, 10, .inr (.inl (fun _ => 0)))), (po, .inl (Y 1, 10, .inr (.inl (fun _ => 0)))), (gr, .inl (Y 1, 10, .inr (.inl (fun _ => 0)))), (fo, .inr (1, fl 7 gfn_4)), (pr, .inr (3, fl 9 gp))] := hD
  refine W.widen (k := 0) (n := 0) (Nat.le_of_ble_eq_true rfl) (Nat.le_of_ble_eq_true rfl) ?_
  refine lv_aload_n hx hb dX2_settle_34 rfl (lv_at hl 0 rfl) ?_
  refine lv_aload_n hx hb dX2_settle_35 rfl (lv_at hl 1 rfl) ?_
  refine gF (C := RX3) (T := TX3) (ci := 3) (v := .int 0) F hK hP 6 rfl rfl iwX3 0 (by decide) m_78 (fun _ h => h) gp_0 dX2_settle_36 ?_
  refine goV (wr := [(so, .inl (Y 0, 640, .inl fn_2)), (tr, .inl (Y 1, 10, .inr (.inl (fun _ => 0)))), (po, .inl (Y 1, 10, .inr (.inl (fun _ => 0)))), (gr, .inl (Y 1, 10, .inr (.inl (fun _ => 0)))), (fo, .inr (1, fl 7 gfn_4)), (pr, .inr (3, fl 9 gp))]) (runV (n := 1) (As := [.int 0]) (rest := []) (C := RX2) (T := TX2) (N := 7) (ci := 2) F hK hZ hP hD hS hA (c_noteS l D Y mo (va_up gm 1 (.int 0))  ) 1 rfl rfl [1] rfl rfl m_80 m_81 m_82 m_74 m_79 (by decide +kernel) rfl ⟨Nat.le_of_ble_eq_true rfl, Nat.le_of_ble_eq_true rfl⟩ hl.1 rfl (Nat.le_of_ble_eq_true rfl) dX2_settle_39 ⟨Nat.le_of_ble_eq_true rfl, Nat.le_of_ble_eq_true rfl⟩) hP hD hS hA [1] [0, 2, 3, 4, 5, 6] rfl rfl rfl (by decide) (fun u H locs hw hP hD hS => ?_)
  have hP : va_P D vwCl [(so, .inl (Y 0, 640, .inl fn_2)), (tr, .inl (Y 1, 10, .inr (.inl (fun _ => 0)))), (po, .inl (Y 1, 10, .inr (.inl (fun _ => 0)))), (gr, .inl (Y 1, 10, .inr (.inl (fun _ => 0)))), (fo, .inr (1, fl 7 gfn_4)), (pr, .inr (3, fl 9 gp)), (mo, .inr (2, fl 7 (va_up gm 1 (.int 0))))] H := hP
  have hD : va_D A [(so, .inl (Y 0, 640, .inl fn_2)), (tr, .inl (Y 1, 10, .inr (.inl (fun _ => 0)))), (po, .inl (Y 1, 10, .inr (.inl (fun _ => 0)))), (gr, .inl (Y 1, 10, .inr (.inl (fun _ => 0)))), (fo, .inr (1, fl 7 gfn_4)), (pr, .inr (3, fl 9 gp)), (mo, .inr (2, fl 7 (va_up gm 1 (.int 0))))] := hD
  refine W.widen (k := 0) (n := 0) (Nat.le_of_ble_eq_true rfl) (Nat.le_of_ble_eq_true rfl) ?_
  refine lv_aload_n hx hb dX2_settle_42 rfl (lv_at hl 0 rfl) ?_
  refine gF (C := RX2) (T := TX2) (ci := 2) (v := .int 0) F hK hP 6 rfl rfl iwX2 1 (by decide) m_72 (fun _ h => h) rfl dX2_settle_43 ?_
  refine lv_sipush (v := 640) hx hb dX2_settle_46 (by decide) ?_
  refine lv_icmp_ge (tgt := 86) hx hb dX2_settle_49 (by decide) (fun c9 => absurd c9 (by decide)) (fun _ => ?_)
  refine lv_aload_n hx hb dX2_settle_52 rfl (lv_at hl 0 rfl) ?_
  refine lv_aload_n hx hb dX2_settle_53 rfl (lv_at hl 1 rfl) ?_
  refine goI (wr := [(so, .inl (Y 0, 640, .inl fn_2))]) (runV (n := 1) (As := [.ref pr]) (rest := []) (C := RX2) (T := TX2) (N := 7) (ci := 2) F hK hZ hP hD hS hA (c_growT l D Y mo pr tr po so gr fo (va_up gm 1 (.int 0)) gfn_4 gp gm_2 gm_3 gm_4 gm_5 gm_6 gp_2 ) 6 rfl rfl [6, 1, 2, 3, 4, 5] rfl rfl m_84 m_85 m_86 m_74 m_83 (by decide +kernel) rfl ⟨Nat.le_of_ble_eq_true rfl, Nat.le_of_ble_eq_true rfl⟩ hl.1 rfl (Nat.le_of_ble_eq_true rfl) dX2_settle_54 ⟨Nat.le_of_ble_eq_true rfl, Nat.le_of_ble_eq_true rfl⟩) hP hD hS hA [6, 1, 2, 3, 4, 5] [0] rfl rfl rfl (by decide) (fun r_8 gfn_7 H locs hw hP hD hS => ?_)
  have hrr := hw
  have hP : va_P D vwCl [(so, .inl (Y 0, 640, .inl fn_2)), (mo, .inr (2, fl 7 (va_up gm 1 (.int 0)))), (tr, .inl (Y 1, 10, .inr (.inl (fun _ => 0)))), (po, .inl (Y 1, 10, .inr (.inl (fun _ => 0)))), (gr, .inl (Y 1, 10, .inr (.inl (fun _ => 0)))), (fo, .inr (1, fl 7 gfn_7)), (pr, .inr (3, fl 9 gp))] H := hP
  have hD : va_D A [(so, .inl (Y 0, 640, .inl fn_2)), (mo, .inr (2, fl 7 (va_up gm 1 (.int 0)))), (tr, .inl (Y 1, 10, .inr (.inl (fun _ => 0)))), (po, .inl (Y 1, 10, .inr (.inl (fun _ => 0)))), (gr, .inl (Y 1, 10, .inr (.inl (fun _ => 0)))), (fo, .inr (1, fl 7 gfn_7)), (pr, .inr (3, fl 9 gp))] := hD
  subst hrr
  refine W.widen (k := 0) (n := 0) (Nat.le_of_ble_eq_true rfl) (Nat.le_of_ble_eq_true rfl) ?_
  refine lv_if_eq (tgt := 86) hx hb dX2_settle_57 (by decide) (fun _ => ?_) (fun c9 => absurd (by decide) c9)
  refine lv_aload_n hx hb dX2_settle_86 rfl (lv_at hl 0 rfl) ?_
  refine lv_iconst (v := 1) hx hb dX2_settle_87 (by decide) ?_
  refine pF (C := RX2) (T := TX2) (ci := 2) F hK hP hD hS 1 rfl rfl iwX2 tyX2 tyX2_ok nmX2 0 (by decide) m_63 (fun _ h => h) rfl rfl rfl dX2_settle_88 (fun H locs hP hD hS => ?_)
  have hP : va_P D vwCl [(so, .inl (Y 0, 640, .inl fn_2)), (mo, .inr (2, fl 7 (va_up (va_up gm 1 (.int 0)) 0 (.int 1)))), (tr, .inl (Y 1, 10, .inr (.inl (fun _ => 0)))), (po, .inl (Y 1, 10, .inr (.inl (fun _ => 0)))), (gr, .inl (Y 1, 10, .inr (.inl (fun _ => 0)))), (fo, .inr (1, fl 7 gfn_7)), (pr, .inr (3, fl 9 gp))] H := hP
  have hD : va_D A [(so, .inl (Y 0, 640, .inl fn_2)), (mo, .inr (2, fl 7 (va_up (va_up gm 1 (.int 0)) 0 (.int 1)))), (tr, .inl (Y 1, 10, .inr (.inl (fun _ => 0)))), (po, .inl (Y 1, 10, .inr (.inl (fun _ => 0)))), (gr, .inl (Y 1, 10, .inr (.inl (fun _ => 0)))), (fo, .inr (1, fl 7 gfn_7)), (pr, .inr (3, fl 9 gp))] := hD
  exact retV F hr hlocks hP hD hS ((va_up (va_up gm 1 (.int 0)) 0 (.int 1)), gfn_7, fn_2) [1, 2, 3, 4, 5, 6, 0] rfl rfl (Nat.le_of_ble_eq_true rfl) (Nat.le_of_ble_eq_true rfl) dX2_settle_91 ⟨rfl, gm_2, gm_3, gm_4, gm_5, gm_6⟩
set_option maxRecDepth 100000 in
set_option maxHeartbeats 4000000 in
theorem c_undO (l : Launch) (D : va_G) (Y : Nat → ClassId) (mo : Nat) (i : Nat) (tr : Nat) (po : Nat) (gm : Nat → Value) (gm_2 : gm 2 = .ref tr) (gm_3 : gm 3 = .ref po) (hi : i < 10) : cM l D Y yX2_undefinedOf cX2_undefinedOf 2 (some .long) 1 0 0 [.ref mo, .int (nI i)] [(mo, .inr (2, fl 7 gm)), (tr, .inl (Y 1, 10, .inr (.inl (fun _ => 0)))), (po, .inl (Y 1, 10, .inr (.inl (fun _ => 0))))] (qL D (fun (r : Int64) (u : Unit) => r = 0) (fun (u : Unit) => [(mo, .inr (2, fl 7 gm)), (tr, .inl (Y 1, 10, .inr (.inl (fun _ => 0)))), (po, .inl (Y 1, 10, .inr (.inl (fun _ => 0))))])) := by
  refine cM.mk RX2 rfl (by decide) (Nat.le_of_ble_eq_true rfl) ?_
  intro p e s m below meth c A F hr hlocks hin hK hZ hP hD hA hS ls hl
  have hx := F.1
  have hb := F.2.1
  have hl : lv_has ls 2 [(0, .ref mo), (1, .int (nI i))] := hl
  refine lv_aload_n hx hb dX2_undefinedOf_0 rfl (lv_at hl 0 rfl) ?_
  refine gF (C := RX2) (T := TX2) (ci := 2) (v := .ref po) F hK hP 0 rfl rfl iwX2 3 (by decide) m_62 (fun _ h => h) gm_3 dX2_undefinedOf_1 ?_
  refine lv_iload_n hx hb dX2_undefinedOf_4 rfl (lv_at hl 1 rfl) ?_
  refine va_lald hx hb hK.1 hP 2 1 rfl rfl (vp_in_nI hi (by decide)) dX2_undefinedOf_5 ?_
  refine lv_tol (v := 0) rfl ?_
  refine lv_aload_n hx hb dX2_undefinedOf_6 rfl (lv_at hl 0 rfl) ?_
  refine gF (C := RX2) (T := TX2) (ci := 2) (v := .ref tr) F hK hP 0 rfl rfl iwX2 2 (by decide) m_50 (fun _ h => h) gm_2 dX2_undefinedOf_7 ?_
  refine lv_iload_n hx hb dX2_undefinedOf_10 rfl (lv_at hl 1 rfl) ?_
  refine va_lald hx hb hK.1 hP 1 1 rfl rfl (vp_in_nI hi (by decide)) dX2_undefinedOf_11 ?_
  refine lv_tol (v := 0) rfl ?_
  refine lv_ldc2 hx hb F.2.2.2.1 (F.2.2.2.2 _ m_87) dX2_undefinedOf_12 ?_
  refine lv_lxor hx hb dX2_undefinedOf_15 ?_
  refine lv_tol (v := (-1)) (by decide) ?_
  refine lv_land hx hb dX2_undefinedOf_16 ?_
  refine lv_tol (v := 0) (by decide) ?_
  exact retL F hr hlocks hP hD hS () [0, 1, 2] rfl rfl (Nat.le_of_ble_eq_true rfl) (Nat.le_of_ble_eq_true rfl) dX2_undefinedOf_17 rfl
set_option maxRecDepth 100000 in
set_option maxHeartbeats 4000000 in
theorem c_trueA (l : Launch) (D : va_G) (Y : Nat → ClassId) (mo : Nat) (tr : Nat) (po : Nat) (gm : Nat → Value) (gm_2 : gm 2 = .ref tr) (gm_3 : gm 3 = .ref po)  : cM l D Y yX2_trueAtoms cX2_trueAtoms 3 (some .int) 2 0 0 [.ref mo] [(mo, .inr (2, fl 7 gm)), (tr, .inl (Y 1, 10, .inr (.inl (fun _ => 0)))), (po, .inl (Y 1, 10, .inr (.inl (fun _ => 0))))] (qI D (fun (r : Int32) (u : Unit) => r = 0) (fun (u : Unit) => [])) := by
  refine cM.mk RX2 rfl (by decide) (Nat.le_of_ble_eq_true rfl) ?_
  intro p e s m below meth c A F hr hlocks hin hK hZ hP hD hA hS ls hl
  have hx := F.1
  have hb := F.2.1
  have hl : lv_has ls 3 [(0, .ref mo)] := hl
  refine lv_iconst (v := 0) hx hb dX2_trueAtoms_0 (by decide) ?_
  refine lv_istore_n (lv' := [(1, .int 0), (0, .ref mo)]) hx hb dX2_trueAtoms_1 rfl hl (by decide) rfl (fun ls hl => ?_)
  refine lv_iconst (v := 0) hx hb dX2_trueAtoms_2 (by decide) ?_
  refine lv_istore_n (lv' := [(2, .int 0), (1, .int 0), (0, .ref mo)]) hx hb dX2_trueAtoms_3 rfl hl (by decide) rfl (fun ls hl => ?_)
  refine loopN (X := Unit) 10 (fun i x H locs ls => va_P D vwCl [(mo, .inr (2, fl 7 gm)), (tr, .inl (Y 1, 10, .inr (.inl (fun _ => 0)))), (po, .inl (Y 1, 10, .inr (.inl (fun _ => 0))))] H ∧ va_D A [(mo, .inr (2, fl 7 gm)), (tr, .inl (Y 1, 10, .inr (.inl (fun _ => 0)))), (po, .inl (Y 1, 10, .inr (.inl (fun _ => 0))))] ∧ va_S A s.heap H locs ∧ lv_has ls 3 [(0, .ref mo), (1, .int 0), (2, .int (nI i))]) 4 ?_ ?_ 0 () (by omega) ⟨hP, hD, hS, lv_sub hl [2, 1, 0] rfl⟩
  · rintro _ H locs ls ⟨hP, hD, hS, hl⟩
    have hP : va_P D vwCl [(mo, .inr (2, fl 7 gm)), (tr, .inl (Y 1, 10, .inr (.inl (fun _ => 0)))), (po, .inl (Y 1, 10, .inr (.inl (fun _ => 0))))] H := hP
    have hD : va_D A [(mo, .inr (2, fl 7 gm)), (tr, .inl (Y 1, 10, .inr (.inl (fun _ => 0)))), (po, .inl (Y 1, 10, .inr (.inl (fun _ => 0))))] := hD
    have hl : lv_has ls 3 [(0, .ref mo), (1, .int 0), (2, .int 10)] := hl
    refine lv_iload_n hx hb dX2_trueAtoms_4 rfl (lv_at hl 2 rfl) ?_
    refine lv_bipush (v := 10) hx hb dX2_trueAtoms_5 (by decide) ?_
    refine lv_icmp_ge (tgt := 28) hx hb dX2_trueAtoms_7 (by decide) (fun _ => ?_) (fun c9 => absurd (by decide) c9)
    refine lv_iload_n hx hb dX2_trueAtoms_28 rfl (lv_at hl 1 rfl) ?_
    exact retI F hr hlocks rfl hP hD hS () [] rfl rfl (Nat.le_of_ble_eq_true rfl) (Nat.le_of_ble_eq_true rfl) dX2_trueAtoms_29 rfl
  · rintro i _ H locs ls hi ⟨hP, hD, hS, hl⟩ ih
    have hP : va_P D vwCl [(mo, .inr (2, fl 7 gm)), (tr, .inl (Y 1, 10, .inr (.inl (fun _ => 0)))), (po, .inl (Y 1, 10, .inr (.inl (fun _ => 0))))] H := hP
    have hD : va_D A [(mo, .inr (2, fl 7 gm)), (tr, .inl (Y 1, 10, .inr (.inl (fun _ => 0)))), (po, .inl (Y 1, 10, .inr (.inl (fun _ => 0))))] := hD
    refine lv_iload_n hx hb dX2_trueAtoms_4 rfl (lv_at hl 2 rfl) ?_
    refine lv_bipush (v := 10) hx hb dX2_trueAtoms_5 (by decide) ?_
    refine lv_icmp_ge (tgt := 28) hx hb dX2_trueAtoms_7 (by decide) (fun c9 => absurd c9 (nI_ge (b := 10) hi (by decide))) (fun _ => ?_)
    refine lv_iload_n hx hb dX2_trueAtoms_10 rfl (lv_at hl 1 rfl) ?_
    refine lv_aload_n hx hb dX2_trueAtoms_11 rfl (lv_at hl 0 rfl) ?_
    refine gF (C := RX2) (T := TX2) (ci := 2) (v := .ref tr) F hK hP 0 rfl rfl iwX2 2 (by decide) m_50 (fun _ h => h) gm_2 dX2_trueAtoms_12 ?_
    refine lv_iload_n hx hb dX2_trueAtoms_15 rfl (lv_at hl 2 rfl) ?_
    refine va_lald hx hb hK.1 hP 1 1 rfl rfl (vp_in_nI hi (by decide)) dX2_trueAtoms_16 ?_
    refine lv_tol (v := 0) rfl ?_
    refine goI (wr := [(mo, .inr (2, fl 7 gm)), (tr, .inl (Y 1, 10, .inr (.inl (fun _ => 0)))), (po, .inl (Y 1, 10, .inr (.inl (fun _ => 0))))]) (runS (n := 1) (As := [.long 0]) (rest := [.int 0]) F hK hZ hP hD hS hA (c_bit0 l D Y   ) [] rfl rfl m_90 m_91 m_89 m_88 (by decide +kernel) rfl ⟨Nat.le_of_ble_eq_true rfl, Nat.le_of_ble_eq_true rfl⟩ hl.1 rfl (Nat.le_of_ble_eq_true rfl) dX2_trueAtoms_17 ⟨Nat.le_of_ble_eq_true rfl, Nat.le_of_ble_eq_true rfl⟩) hP hD hS hA [] [0, 1, 2] rfl rfl rfl (by decide) (fun r_1 u H locs hw hP hD hS => ?_)
    have hrr := hw
    have hP : va_P D vwCl [(mo, .inr (2, fl 7 gm)), (tr, .inl (Y 1, 10, .inr (.inl (fun _ => 0)))), (po, .inl (Y 1, 10, .inr (.inl (fun _ => 0))))] H := hP
    have hD : va_D A [(mo, .inr (2, fl 7 gm)), (tr, .inl (Y 1, 10, .inr (.inl (fun _ => 0)))), (po, .inl (Y 1, 10, .inr (.inl (fun _ => 0))))] := hD
    subst hrr
    refine W.widen (k := 0) (n := 0) (Nat.le_of_ble_eq_true rfl) (Nat.le_of_ble_eq_true rfl) ?_
    refine lv_iadd hx hb dX2_trueAtoms_20 ?_
    refine lv_toc (v := 0) (by decide) ?_
    refine lv_istore_n (lv' := [(1, .int 0), (0, .ref mo), (2, .int (nI i))]) hx hb dX2_trueAtoms_21 rfl hl (by decide) rfl (fun ls hl => ?_)
    refine lv_iinc (v := (nI (i + 1))) (lv' := [(2, .int (nI (i + 1))), (1, .int 0), (0, .ref mo)]) hx hb dX2_trueAtoms_22 hl (k := 2) rfl (nI_1 i) (by decide) rfl (fun ls hl => ?_)
    refine lv_goto (tgt := 4) hx hb dX2_trueAtoms_25 (by decide) ?_
    exact ih () _ _ _ ⟨hP, hD, hS, lv_sub hl [2, 1, 0] rfl⟩
set_option maxRecDepth 100000 in
set_option maxHeartbeats 4000000 in
theorem c_undA (l : Launch) (D : va_G) (Y : Nat → ClassId) (mo : Nat) (tr : Nat) (po : Nat) (gm : Nat → Value) (gm_2 : gm 2 = .ref tr) (gm_3 : gm 3 = .ref po)  : cM l D Y yX2_undefinedAtoms cX2_undefinedAtoms 3 (some .int) 2 0 0 [.ref mo] [(mo, .inr (2, fl 7 gm)), (tr, .inl (Y 1, 10, .inr (.inl (fun _ => 0)))), (po, .inl (Y 1, 10, .inr (.inl (fun _ => 0))))] (qI D (fun (r : Int32) (u : Unit) => r = 0) (fun (u : Unit) => [])) := by
  refine cM.mk RX2 rfl (by decide) (Nat.le_of_ble_eq_true rfl) ?_
  intro p e s m below meth c A F hr hlocks hin hK hZ hP hD hA hS ls hl
  have hx := F.1
  have hb := F.2.1
  have hl : lv_has ls 3 [(0, .ref mo)] := hl
  refine lv_iconst (v := 0) hx hb dX2_undefinedAtoms_0 (by decide) ?_
  refine lv_istore_n (lv' := [(1, .int 0), (0, .ref mo)]) hx hb dX2_undefinedAtoms_1 rfl hl (by decide) rfl (fun ls hl => ?_)
  refine lv_iconst (v := 0) hx hb dX2_undefinedAtoms_2 (by decide) ?_
  refine lv_istore_n (lv' := [(2, .int 0), (1, .int 0), (0, .ref mo)]) hx hb dX2_undefinedAtoms_3 rfl hl (by decide) rfl (fun ls hl => ?_)
  refine loopN (X := Unit) 10 (fun i x H locs ls => va_P D vwCl [(mo, .inr (2, fl 7 gm)), (tr, .inl (Y 1, 10, .inr (.inl (fun _ => 0)))), (po, .inl (Y 1, 10, .inr (.inl (fun _ => 0))))] H ∧ va_D A [(mo, .inr (2, fl 7 gm)), (tr, .inl (Y 1, 10, .inr (.inl (fun _ => 0)))), (po, .inl (Y 1, 10, .inr (.inl (fun _ => 0))))] ∧ va_S A s.heap H locs ∧ lv_has ls 3 [(0, .ref mo), (1, .int 0), (2, .int (nI i))]) 4 ?_ ?_ 0 () (by omega) ⟨hP, hD, hS, lv_sub hl [2, 1, 0] rfl⟩
  · rintro _ H locs ls ⟨hP, hD, hS, hl⟩
    have hP : va_P D vwCl [(mo, .inr (2, fl 7 gm)), (tr, .inl (Y 1, 10, .inr (.inl (fun _ => 0)))), (po, .inl (Y 1, 10, .inr (.inl (fun _ => 0))))] H := hP
    have hD : va_D A [(mo, .inr (2, fl 7 gm)), (tr, .inl (Y 1, 10, .inr (.inl (fun _ => 0)))), (po, .inl (Y 1, 10, .inr (.inl (fun _ => 0))))] := hD
    have hl : lv_has ls 3 [(0, .ref mo), (1, .int 0), (2, .int 10)] := hl
    refine lv_iload_n hx hb dX2_undefinedAtoms_4 rfl (lv_at hl 2 rfl) ?_
    refine lv_bipush (v := 10) hx hb dX2_undefinedAtoms_5 (by decide) ?_
    refine lv_icmp_ge (tgt := 27) hx hb dX2_undefinedAtoms_7 (by decide) (fun _ => ?_) (fun c9 => absurd (by decide) c9)
    refine lv_iload_n hx hb dX2_undefinedAtoms_27 rfl (lv_at hl 1 rfl) ?_
    exact retI F hr hlocks rfl hP hD hS () [] rfl rfl (Nat.le_of_ble_eq_true rfl) (Nat.le_of_ble_eq_true rfl) dX2_undefinedAtoms_28 rfl
  · rintro i _ H locs ls hi ⟨hP, hD, hS, hl⟩ ih
    have hP : va_P D vwCl [(mo, .inr (2, fl 7 gm)), (tr, .inl (Y 1, 10, .inr (.inl (fun _ => 0)))), (po, .inl (Y 1, 10, .inr (.inl (fun _ => 0))))] H := hP
    have hD : va_D A [(mo, .inr (2, fl 7 gm)), (tr, .inl (Y 1, 10, .inr (.inl (fun _ => 0)))), (po, .inl (Y 1, 10, .inr (.inl (fun _ => 0))))] := hD
    refine lv_iload_n hx hb dX2_undefinedAtoms_4 rfl (lv_at hl 2 rfl) ?_
    refine lv_bipush (v := 10) hx hb dX2_undefinedAtoms_5 (by decide) ?_
    refine lv_icmp_ge (tgt := 27) hx hb dX2_undefinedAtoms_7 (by decide) (fun c9 => absurd c9 (nI_ge (b := 10) hi (by decide))) (fun _ => ?_)
    refine lv_iload_n hx hb dX2_undefinedAtoms_10 rfl (lv_at hl 1 rfl) ?_
    refine lv_aload_n hx hb dX2_undefinedAtoms_11 rfl (lv_at hl 0 rfl) ?_
    refine lv_iload_n hx hb dX2_undefinedAtoms_12 rfl (lv_at hl 2 rfl) ?_
    refine goL (wr := []) (runV (n := 1) (As := [.int (nI i)]) (rest := [.int 0]) (C := RX2) (T := TX2) (N := 7) (ci := 2) F hK hZ hP hD hS hA (c_undO l D Y mo i tr po gm gm_2 gm_3 hi) 0 rfl rfl [0, 1, 2] rfl rfl m_93 m_94 m_95 m_74 m_92 (by decide +kernel) rfl ⟨Nat.le_of_ble_eq_true rfl, Nat.le_of_ble_eq_true rfl⟩ hl.1 rfl (Nat.le_of_ble_eq_true rfl) dX2_undefinedAtoms_13 ⟨Nat.le_of_ble_eq_true rfl, Nat.le_of_ble_eq_true rfl⟩) hP hD hS hA [0, 1, 2] [] rfl rfl rfl (by decide) (fun r_1 u H locs hw hP hD hS => ?_)
    have hrr := hw
    have hP : va_P D vwCl [(mo, .inr (2, fl 7 gm)), (tr, .inl (Y 1, 10, .inr (.inl (fun _ => 0)))), (po, .inl (Y 1, 10, .inr (.inl (fun _ => 0))))] H := hP
    have hD : va_D A [(mo, .inr (2, fl 7 gm)), (tr, .inl (Y 1, 10, .inr (.inl (fun _ => 0)))), (po, .inl (Y 1, 10, .inr (.inl (fun _ => 0))))] := hD
    subst hrr
    refine W.widen (k := 0) (n := 0) (Nat.le_of_ble_eq_true rfl) (Nat.le_of_ble_eq_true rfl) ?_
    refine goI (wr := [(mo, .inr (2, fl 7 gm)), (tr, .inl (Y 1, 10, .inr (.inl (fun _ => 0)))), (po, .inl (Y 1, 10, .inr (.inl (fun _ => 0))))]) (runS (n := 1) (As := [.long 0]) (rest := [.int 0]) F hK hZ hP hD hS hA (c_bit0 l D Y   ) [] rfl rfl m_90 m_91 m_89 m_88 (by decide +kernel) rfl ⟨Nat.le_of_ble_eq_true rfl, Nat.le_of_ble_eq_true rfl⟩ hl.1 rfl (Nat.le_of_ble_eq_true rfl) dX2_undefinedAtoms_16 ⟨Nat.le_of_ble_eq_true rfl, Nat.le_of_ble_eq_true rfl⟩) hP hD hS hA [] [0, 1, 2] rfl rfl rfl (by decide) (fun r_2 u H locs hw hP hD hS => ?_)
    have hrr := hw
    have hP : va_P D vwCl [(mo, .inr (2, fl 7 gm)), (tr, .inl (Y 1, 10, .inr (.inl (fun _ => 0)))), (po, .inl (Y 1, 10, .inr (.inl (fun _ => 0))))] H := hP
    have hD : va_D A [(mo, .inr (2, fl 7 gm)), (tr, .inl (Y 1, 10, .inr (.inl (fun _ => 0)))), (po, .inl (Y 1, 10, .inr (.inl (fun _ => 0))))] := hD
    subst hrr
    refine W.widen (k := 0) (n := 0) (Nat.le_of_ble_eq_true rfl) (Nat.le_of_ble_eq_true rfl) ?_
    refine lv_iadd hx hb dX2_undefinedAtoms_19 ?_
    refine lv_toc (v := 0) (by decide) ?_
    refine lv_istore_n (lv' := [(1, .int 0), (0, .ref mo), (2, .int (nI i))]) hx hb dX2_undefinedAtoms_20 rfl hl (by decide) rfl (fun ls hl => ?_)
    refine lv_iinc (v := (nI (i + 1))) (lv' := [(2, .int (nI (i + 1))), (1, .int 0), (0, .ref mo)]) hx hb dX2_undefinedAtoms_21 hl (k := 2) rfl (nI_1 i) (by decide) rfl (fun ls hl => ?_)
    refine lv_goto (tgt := 4) hx hb dX2_undefinedAtoms_24 (by decide) ?_
    exact ih () _ _ _ ⟨hP, hD, hS, lv_sub hl [2, 1, 0] rfl⟩
set_option maxRecDepth 100000 in
set_option maxHeartbeats 4000000 in
theorem c_facts (l : Launch) (D : va_G) (Y : Nat → ClassId) (pr : Nat) (gp : Nat → Value) (gp_2 : gp 2 = .int 0)  : cM l D Y yX3_facts cX3_facts 3 (some .int) 1 0 0 [.ref pr] [(pr, .inr (3, fl 9 gp))] (qI D (fun (r : Int32) (u : Unit) => r = 0) (fun (u : Unit) => [])) := by
  refine cM.mk RX3 rfl (by decide) (Nat.le_of_ble_eq_true rfl) ?_
  intro p e s m below meth c A F hr hlocks hin hK hZ hP hD hA hS ls hl
  have hx := F.1
  have hb := F.2.1
  have hl : lv_has ls 3 [(0, .ref pr)] := hl
  refine lv_iconst (v := 0) hx hb dX3_facts_0 (by decide) ?_
  refine lv_istore_n (lv' := [(1, .int 0), (0, .ref pr)]) hx hb dX3_facts_1 rfl hl (by decide) rfl (fun ls hl => ?_)
  refine lv_iconst (v := 0) hx hb dX3_facts_2 (by decide) ?_
  refine lv_istore_n (lv' := [(2, .int 0), (1, .int 0), (0, .ref pr)]) hx hb dX3_facts_3 rfl hl (by decide) rfl (fun ls hl => ?_)
  refine lv_iload_n hx hb dX3_facts_4 rfl (lv_at hl 0 rfl) ?_
  refine lv_aload_n hx hb dX3_facts_5 rfl (lv_at hl 2 rfl) ?_
  refine gF (C := RX3) (T := TX3) (ci := 3) (v := .int 0) F hK hP 0 rfl rfl iwX3 2 (by decide) m_96 (fun _ h => h) gp_2 dX3_facts_6 ?_
  refine lv_icmp_ge (tgt := 35) hx hb dX3_facts_9 (by decide) (fun _ => ?_) (fun c9 => absurd (by decide) c9)
  refine lv_iload_n hx hb dX3_facts_35 rfl (lv_at hl 1 rfl) ?_
  exact retI F hr hlocks rfl hP hD hS () [] rfl rfl (Nat.le_of_ble_eq_true rfl) (Nat.le_of_ble_eq_true rfl) dX3_facts_36 rfl
set_option maxRecDepth 100000 in
set_option maxHeartbeats 4000000 in
theorem c_freshO (l : Launch) (D : va_G) (Y : Nat → ClassId) (ta : Nat) (gt : Nat → Value) (gt_0 : gt 0 = .int 0)  : cM l D Y yX6_freshOnes cX6_freshOnes 3 (some .int) 1 0 0 [.ref ta] [(ta, .inr (6, fl 14 gt))] (qI D (fun (r : Int32) (u : Unit) => r = 0) (fun (u : Unit) => [])) := by
  refine cM.mk RX6 rfl (by decide) (Nat.le_of_ble_eq_true rfl) ?_
  intro p e s m below meth c A F hr hlocks hin hK hZ hP hD hA hS ls hl
  have hx := F.1
  have hb := F.2.1
  have hl : lv_has ls 3 [(0, .ref ta)] := hl
  refine lv_iconst (v := 0) hx hb dX6_freshOnes_0 (by decide) ?_
  refine lv_istore_n (lv' := [(1, .int 0), (0, .ref ta)]) hx hb dX6_freshOnes_1 rfl hl (by decide) rfl (fun ls hl => ?_)
  refine lv_iconst (v := 0) hx hb dX6_freshOnes_2 (by decide) ?_
  refine lv_istore_n (lv' := [(2, .int 0), (1, .int 0), (0, .ref ta)]) hx hb dX6_freshOnes_3 rfl hl (by decide) rfl (fun ls hl => ?_)
  refine lv_iload_n hx hb dX6_freshOnes_4 rfl (lv_at hl 0 rfl) ?_
  refine lv_aload_n hx hb dX6_freshOnes_5 rfl (lv_at hl 2 rfl) ?_
  refine gF (C := RX6) (T := TX6) (ci := 6) (v := .int 0) F hK hP 0 rfl rfl iwX6 0 (by decide) m_97 (fun _ h => h) gt_0 dX6_freshOnes_6 ?_
  refine lv_icmp_ge (tgt := 38) hx hb dX6_freshOnes_9 (by decide) (fun _ => ?_) (fun c9 => absurd (by decide) c9)
  refine lv_iload_n hx hb dX6_freshOnes_38 rfl (lv_at hl 1 rfl) ?_
  exact retI F hr hlocks rfl hP hD hS () [] rfl rfl (Nat.le_of_ble_eq_true rfl) (Nat.le_of_ble_eq_true rfl) dX6_freshOnes_39 rfl
set_option maxRecDepth 100000 in
set_option maxHeartbeats 4000000 in
theorem c_sumT (l : Launch) (D : va_G) (Y : Nat → ClassId) (ta : Nat) (gt : Nat → Value) (gt_0 : gt 0 = .int 0)  : cM l D Y yX6_sum cX6_sum 5 (some .long) 1 0 0 [.ref ta] [(ta, .inr (6, fl 14 gt))] (qL D (fun (r : Int64) (u : Unit) => r = 0) (fun (u : Unit) => [])) := by
  refine cM.mk RX6 rfl (by decide) (Nat.le_of_ble_eq_true rfl) ?_
  intro p e s m below meth c A F hr hlocks hin hK hZ hP hD hA hS ls hl
  have hx := F.1
  have hb := F.2.1
  have hl : lv_has ls 5 [(0, .ref ta)] := hl
  refine lv_lconst (v := 0) hx hb dX6_sum_0 (by decide) ?_
  refine lv_lstore_n (lv' := [(1, .long 0), (0, .ref ta)]) hx hb dX6_sum_1 rfl hl (by decide) rfl (fun ls hl => ?_)
  refine lv_iconst (v := 0) hx hb dX6_sum_2 (by decide) ?_
  refine lv_istore_n (lv' := [(3, .int 0), (1, .long 0), (0, .ref ta)]) hx hb dX6_sum_3 rfl hl (by decide) rfl (fun ls hl => ?_)
  refine lv_iload_n hx hb dX6_sum_4 rfl (lv_at hl 0 rfl) ?_
  refine lv_aload_n hx hb dX6_sum_5 rfl (lv_at hl 2 rfl) ?_
  refine gF (C := RX6) (T := TX6) (ci := 6) (v := .int 0) F hK hP 0 rfl rfl iwX6 0 (by decide) m_97 (fun _ h => h) gt_0 dX6_sum_6 ?_
  refine lv_icmp_ge (tgt := 74) hx hb dX6_sum_9 (by decide) (fun _ => ?_) (fun c9 => absurd (by decide) c9)
  refine lv_lload_n hx hb dX6_sum_74 rfl (lv_at hl 1 rfl) ?_
  exact retL F hr hlocks hP hD hS () [] rfl rfl (Nat.le_of_ble_eq_true rfl) (Nat.le_of_ble_eq_true rfl) dX6_sum_75 rfl
set_option maxRecDepth 100000 in
set_option maxHeartbeats 4000000 in
theorem c_clearT (l : Launch) (D : va_G) (Y : Nat → ClassId) (ta : Nat) (nu : Nat) (gt : Nat → Value) (f : Nat → Int32) (gt_5 : gt 5 = .ref nu)  : cM l D Y yX6_clear cX6_clear 1 none 2 0 0 [.ref ta] [(ta, .inr (6, fl 14 gt)), (nu, .inl (Y 0, 1000, .inl f))] (qV D (fun (u : (Nat → Value) × (Nat → Int32)) => True) (fun (u : (Nat → Value) × (Nat → Int32)) => [(ta, .inr (6, fl 14 u.1)), (nu, .inl (Y 0, 1000, .inl u.2))])) := by
  refine cM.mk RX6 rfl (by decide) (Nat.le_of_ble_eq_true rfl) ?_
  intro p e s m below meth c A F hr hlocks hin hK hZ hP hD hA hS ls hl
  have hx := F.1
  have hb := F.2.1
  have hl : lv_has ls 1 [(0, .ref ta)] := hl
  refine lv_aload_n hx hb dX6_clear_0 rfl (lv_at hl 0 rfl) ?_
  refine gF (C := RX6) (T := TX6) (ci := 6) (v := .ref nu) F hK hP 0 rfl rfl iwX6 5 (by decide) m_98 (fun _ h => h) gt_5 dX6_clear_1 ?_
  refine lv_iconst (v := (-1)) hx hb dX6_clear_4 (by decide) ?_
  refine goV (wr := [(ta, .inr (6, fl 14 gt))]) (runS (n := 2) (As := [.ref nu, .int (-1)]) (rest := []) F hK hZ hP hD hS hA (c_fillI l D Y nu (-1) 1000 f  (by decide)) [1] rfl rfl m_99 m_71 m_65 m_69 (by decide +kernel) rfl ⟨Nat.le_of_ble_eq_true rfl, Nat.le_of_ble_eq_true rfl⟩ hl.1 rfl (Nat.le_of_ble_eq_true rfl) dX6_clear_5 ⟨Nat.le_of_ble_eq_true rfl, Nat.le_of_ble_eq_true rfl⟩) hP hD hS hA [1] [0] rfl rfl rfl (by decide) (fun fn_1 H locs hw hP hD hS => ?_)
  have hP : va_P D vwCl [(ta, .inr (6, fl 14 gt)), (nu, .inl (Y 0, 1000, .inl fn_1))] H := hP
  have hD : va_D A [(ta, .inr (6, fl 14 gt)), (nu, .inl (Y 0, 1000, .inl fn_1))] := hD
  refine W.widen (k := 0) (n := 0) (Nat.le_of_ble_eq_true rfl) (Nat.le_of_ble_eq_true rfl) ?_
  refine lv_aload_n hx hb dX6_clear_8 rfl (lv_at hl 0 rfl) ?_
  refine lv_iconst (v := 0) hx hb dX6_clear_9 (by decide) ?_
  refine pF (C := RX6) (T := TX6) (ci := 6) F hK hP hD hS 0 rfl rfl iwX6 tyX6 tyX6_ok nmX6 0 (by decide) m_97 (fun _ h => h) rfl rfl rfl dX6_clear_10 (fun H locs hP hD hS => ?_)
  have hP : va_P D vwCl [(ta, .inr (6, fl 14 (va_up gt 0 (.int 0)))), (nu, .inl (Y 0, 1000, .inl fn_1))] H := hP
  have hD : va_D A [(ta, .inr (6, fl 14 (va_up gt 0 (.int 0)))), (nu, .inl (Y 0, 1000, .inl fn_1))] := hD
  refine lv_aload_n hx hb dX6_clear_13 rfl (lv_at hl 0 rfl) ?_
  refine lv_iconst (v := 0) hx hb dX6_clear_14 (by decide) ?_
  refine pF (C := RX6) (T := TX6) (ci := 6) F hK hP hD hS 0 rfl rfl iwX6 tyX6 tyX6_ok nmX6 3 (by decide) m_100 (fun _ h => h) rfl rfl rfl dX6_clear_15 (fun H locs hP hD hS => ?_)
  have hP : va_P D vwCl [(ta, .inr (6, fl 14 (va_up (va_up gt 0 (.int 0)) 3 (.int 0)))), (nu, .inl (Y 0, 1000, .inl fn_1))] H := hP
  have hD : va_D A [(ta, .inr (6, fl 14 (va_up (va_up gt 0 (.int 0)) 3 (.int 0)))), (nu, .inl (Y 0, 1000, .inl fn_1))] := hD
  exact retV F hr hlocks hP hD hS ((va_up (va_up gt 0 (.int 0)) 3 (.int 0)), fn_1) [0, 1] rfl rfl (Nat.le_of_ble_eq_true rfl) (Nat.le_of_ble_eq_true rfl) dX6_clear_18 trivial
set_option maxRecDepth 100000 in
set_option maxHeartbeats 4000000 in
theorem c_startA (l : Launch) (D : va_G) (Y : Nat → ClassId) (ta : Nat) (nu : Nat) (gt : Nat → Value) (f : Nat → Int32) (gt_5 : gt 5 = .ref nu)  : cM l D Y yX6_startAnew cX6_startAnew 1 none 3 0 0 [.ref ta] [(ta, .inr (6, fl 14 gt)), (nu, .inl (Y 0, 1000, .inl f))] (qV D (fun (u : Unit) => True) (fun (u : Unit) => [])) := by
  refine cM.mk RX6 rfl (by decide) (Nat.le_of_ble_eq_true rfl) ?_
  intro p e s m below meth c A F hr hlocks hin hK hZ hP hD hA hS ls hl
  have hx := F.1
  have hb := F.2.1
  have hl : lv_has ls 1 [(0, .ref ta)] := hl
  refine lv_aload_n hx hb dX6_startAnew_0 rfl (lv_at hl 0 rfl) ?_
  refine goV (wr := []) (runV (n := 0) (As := []) (rest := []) (C := RX6) (T := TX6) (N := 14) (ci := 6) F hK hZ hP hD hS hA (c_clearT l D Y ta nu gt f gt_5 ) 0 rfl rfl [0, 1] rfl rfl m_103 m_104 m_105 m_102 m_101 (by decide +kernel) rfl ⟨Nat.le_of_ble_eq_true rfl, Nat.le_of_ble_eq_true rfl⟩ hl.1 rfl (Nat.le_of_ble_eq_true rfl) dX6_startAnew_1 ⟨Nat.le_of_ble_eq_true rfl, Nat.le_of_ble_eq_true rfl⟩) hP hD hS hA [0, 1] [] rfl rfl rfl (by decide) (fun u H locs hw hP hD hS => ?_)
  obtain ⟨gtn_1, fn_2⟩ := u
  have hP : va_P D vwCl [(ta, .inr (6, fl 14 gtn_1)), (nu, .inl (Y 0, 1000, .inl fn_2))] H := hP
  have hD : va_D A [(ta, .inr (6, fl 14 gtn_1)), (nu, .inl (Y 0, 1000, .inl fn_2))] := hD
  refine W.widen (k := 0) (n := 0) (Nat.le_of_ble_eq_true rfl) (Nat.le_of_ble_eq_true rfl) ?_
  refine lv_aload_n hx hb dX6_startAnew_4 rfl (lv_at hl 0 rfl) ?_
  refine lv_iconst (v := 0) hx hb dX6_startAnew_5 (by decide) ?_
  refine pF (C := RX6) (T := TX6) (ci := 6) F hK hP hD hS 0 rfl rfl iwX6 tyX6 tyX6_ok nmX6 1 (by decide) m_106 (fun _ h => h) rfl rfl rfl dX6_startAnew_6 (fun H locs hP hD hS => ?_)
  have hP : va_P D vwCl [(ta, .inr (6, fl 14 (va_up gtn_1 1 (.int 0)))), (nu, .inl (Y 0, 1000, .inl fn_2))] H := hP
  have hD : va_D A [(ta, .inr (6, fl 14 (va_up gtn_1 1 (.int 0)))), (nu, .inl (Y 0, 1000, .inl fn_2))] := hD
  refine lv_aload_n hx hb dX6_startAnew_9 rfl (lv_at hl 0 rfl) ?_
  refine lv_iconst (v := 0) hx hb dX6_startAnew_10 (by decide) ?_
  refine pF (C := RX6) (T := TX6) (ci := 6) F hK hP hD hS 0 rfl rfl iwX6 tyX6 tyX6_ok nmX6 2 (by decide) m_107 (fun _ h => h) rfl rfl rfl dX6_startAnew_11 (fun H locs hP hD hS => ?_)
  have hP : va_P D vwCl [(ta, .inr (6, fl 14 (va_up (va_up gtn_1 1 (.int 0)) 2 (.int 0)))), (nu, .inl (Y 0, 1000, .inl fn_2))] H := hP
  have hD : va_D A [(ta, .inr (6, fl 14 (va_up (va_up gtn_1 1 (.int 0)) 2 (.int 0)))), (nu, .inl (Y 0, 1000, .inl fn_2))] := hD
  exact retV F hr hlocks hP hD hS () [] rfl rfl (Nat.le_of_ble_eq_true rfl) (Nat.le_of_ble_eq_true rfl) dX6_startAnew_14 trivial
set_option maxRecDepth 100000 in
set_option maxHeartbeats 4000000 in
theorem c_clearP (l : Launch) (D : va_G) (Y : Nat → ClassId) (sp : Nat) (gs : Nat → Value)   : cM l D Y yX3_clear cX3_clear 1 none 1 0 0 [.ref sp] [(sp, .inr (3, fl 9 gs))] (qV D (fun (u : Nat → Value) => u 0 = .int 0 ∧ u 1 = .int 0 ∧ u 2 = .int 0) (fun (u : Nat → Value) => [(sp, .inr (3, fl 9 u))])) := by
  refine cM.mk RX3 rfl (by decide) (Nat.le_of_ble_eq_true rfl) ?_
  intro p e s m below meth c A F hr hlocks hin hK hZ hP hD hA hS ls hl
  have hx := F.1
  have hb := F.2.1
  have hl : lv_has ls 1 [(0, .ref sp)] := hl
  refine lv_aload_n hx hb dX3_clear_0 rfl (lv_at hl 0 rfl) ?_
  refine lv_iconst (v := 0) hx hb dX3_clear_1 (by decide) ?_
  refine pF (C := RX3) (T := TX3) (ci := 3) F hK hP hD hS 0 rfl rfl iwX3 tyX3 tyX3_ok nmX3 0 (by decide) m_108 (fun _ h => h) rfl rfl rfl dX3_clear_2 (fun H locs hP hD hS => ?_)
  have hP : va_P D vwCl [(sp, .inr (3, fl 9 (va_up gs 0 (.int 0))))] H := hP
  have hD : va_D A [(sp, .inr (3, fl 9 (va_up gs 0 (.int 0))))] := hD
  refine lv_aload_n hx hb dX3_clear_5 rfl (lv_at hl 0 rfl) ?_
  refine lv_iconst (v := 0) hx hb dX3_clear_6 (by decide) ?_
  refine pF (C := RX3) (T := TX3) (ci := 3) F hK hP hD hS 0 rfl rfl iwX3 tyX3 tyX3_ok nmX3 1 (by decide) m_109 (fun _ h => h) rfl rfl rfl dX3_clear_7 (fun H locs hP hD hS => ?_)
  have hP : va_P D vwCl [(sp, .inr (3, fl 9 (va_up (va_up gs 0 (.int 0)) 1 (.int 0))))] H := hP
  have hD : va_D A [(sp, .inr (3, fl 9 (va_up (va_up gs 0 (.int 0)) 1 (.int 0))))] := hD
  refine lv_aload_n hx hb dX3_clear_10 rfl (lv_at hl 0 rfl) ?_
  refine lv_iconst (v := 0) hx hb dX3_clear_11 (by decide) ?_
  refine pF (C := RX3) (T := TX3) (ci := 3) F hK hP hD hS 0 rfl rfl iwX3 tyX3 tyX3_ok nmX3 2 (by decide) m_96 (fun _ h => h) rfl rfl rfl dX3_clear_12 (fun H locs hP hD hS => ?_)
  have hP : va_P D vwCl [(sp, .inr (3, fl 9 (va_up (va_up (va_up gs 0 (.int 0)) 1 (.int 0)) 2 (.int 0))))] H := hP
  have hD : va_D A [(sp, .inr (3, fl 9 (va_up (va_up (va_up gs 0 (.int 0)) 1 (.int 0)) 2 (.int 0))))] := hD
  exact retV F hr hlocks hP hD hS (va_up (va_up (va_up gs 0 (.int 0)) 1 (.int 0)) 2 (.int 0)) [0] rfl rfl (Nat.le_of_ble_eq_true rfl) (Nat.le_of_ble_eq_true rfl) dX3_clear_15 ⟨rfl, rfl, rfl⟩
set_option maxRecDepth 100000 in
set_option maxHeartbeats 4000000 in
theorem c_rdI (l : Launch) (D : va_G) (Y : Nat → ClassId) (rd : Nat) (tp : Nat) (sp : Nat) (gr : Nat → Value) (f : Nat → Int32) (gr_5 : gr 5 = .int 0)  : cM l D Y yX4_init cX4_init 4 none 1 2 6 [.ref rd, .ref tp, .int 0, .ref sp] [(rd, .inr (4, fl 10 gr)), (tp, .inl (Y 0, 400, .inl f))] (qV D (fun (u : Nat → Value) => u 1 = .int (-1) ∧ u 3 = .int 0 ∧ u 4 = .ref sp ∧ u 5 = .int 0) (fun (u : Nat → Value) => [(rd, .inr (4, fl 10 u)), (tp, .inl (Y 0, 400, .inl f))])) := by
  refine cM.mk RX4 rfl (by decide) (Nat.le_of_ble_eq_true rfl) ?_
  intro p e s m below meth c A F hr hlocks hin hK hZ hP hD hA hS ls hl
  have hx := F.1
  have hb := F.2.1
  have hl : lv_has ls 4 [(0, .ref rd), (1, .ref tp), (2, .int 0), (3, .ref sp)] := hl
  refine lv_aload_n hx hb dX4_init_0 rfl (lv_at hl 0 rfl) ?_
  refine oInit F m_110 m_111 m_112 hl.1 dX4_init_1 (Nat.le_of_ble_eq_true rfl) (Nat.le_of_ble_eq_true rfl) ?_
  refine lv_aload_n hx hb dX4_init_4 rfl (lv_at hl 0 rfl) ?_
  refine lv_iconst (v := (-1)) hx hb dX4_init_5 (by decide) ?_
  refine pF (C := RX4) (T := TX4) (ci := 4) F hK hP hD hS 0 rfl rfl iwX4 tyX4 tyX4_ok nmX4 1 (by decide) m_113 (fun _ h => h) rfl rfl rfl dX4_init_6 (fun H locs hP hD hS => ?_)
  have hP : va_P D vwCl [(rd, .inr (4, fl 10 (va_up gr 1 (.int (-1))))), (tp, .inl (Y 0, 400, .inl f))] H := hP
  have hD : va_D A [(rd, .inr (4, fl 10 (va_up gr 1 (.int (-1))))), (tp, .inl (Y 0, 400, .inl f))] := hD
  refine lv_aload_n hx hb dX4_init_9 rfl (lv_at hl 0 rfl) ?_
  refine lv_iconst (v := 3) hx hb dX4_init_10 (by decide) ?_
  refine nA (atype := .int) (ty := .int) (a0 := (3, .inl (fun _ => 0))) (N' := 3) (cA0 := Y 0) F hK hP hD hS hA 0 rfl (fun _ h => h) m_114 rfl (fun _ => rfl) (by decide) (by decide) (Nat.le_of_ble_eq_true rfl) (Nat.le_of_ble_eq_true rfl) (Nat.le_of_ble_eq_true rfl) dX4_init_11 (fun q_1 H hP hD hS => ?_)
  have hP : va_P D vwCl [(rd, .inr (4, fl 10 (va_up gr 1 (.int (-1))))), (tp, .inl (Y 0, 400, .inl f)), (q_1, .inl (Y 0, 3, .inl (fun _ => 0)))] H := hP
  have hD : va_D A [(rd, .inr (4, fl 10 (va_up gr 1 (.int (-1))))), (tp, .inl (Y 0, 400, .inl f)), (q_1, .inl (Y 0, 3, .inl (fun _ => 0)))] := hD
  refine W.widen (k := 1) (n := 3) (Nat.le_of_ble_eq_true rfl) (Nat.le_of_ble_eq_true rfl) ?_
  refine pFF (C := RX4) (T := TX4) (ci := 4) F hin hK hP hD hS 0 rfl rfl iwX4 tyX4 tyX4_ok nmX4 6 (by decide) m_115 (fun _ h => h) rfl rfl rfl rfl dX4_init_13 (fun H locs hP hD hS => ?_)
  have hP : va_P D vwCl [(rd, .inr (4, fl 10 (va_up (va_up gr 1 (.int (-1))) 6 (.ref q_1)))), (tp, .inl (Y 0, 400, .inl f)), (q_1, .inl (Y 0, 3, .inl (fun _ => 0)))] H := hP
  have hD : va_D A [(rd, .inr (4, fl 10 (va_up (va_up gr 1 (.int (-1))) 6 (.ref q_1)))), (tp, .inl (Y 0, 400, .inl f)), (q_1, .inl (Y 0, 3, .inl (fun _ => 0)))] := hD
  refine lv_aload_n hx hb dX4_init_16 rfl (lv_at hl 0 rfl) ?_
  refine lv_iconst (v := 3) hx hb dX4_init_17 (by decide) ?_
  refine nA (atype := .int) (ty := .int) (a0 := (3, .inl (fun _ => 0))) (N' := 3) (cA0 := Y 0) F hK hP hD hS hA 0 rfl (fun _ h => h) m_114 rfl (fun _ => rfl) (by decide) (by decide) (Nat.le_of_ble_eq_true rfl) (Nat.le_of_ble_eq_true rfl) (Nat.le_of_ble_eq_true rfl) dX4_init_18 (fun q_2 H hP hD hS => ?_)
  have hP : va_P D vwCl [(rd, .inr (4, fl 10 (va_up (va_up gr 1 (.int (-1))) 6 (.ref q_1)))), (tp, .inl (Y 0, 400, .inl f)), (q_1, .inl (Y 0, 3, .inl (fun _ => 0))), (q_2, .inl (Y 0, 3, .inl (fun _ => 0)))] H := hP
  have hD : va_D A [(rd, .inr (4, fl 10 (va_up (va_up gr 1 (.int (-1))) 6 (.ref q_1)))), (tp, .inl (Y 0, 400, .inl f)), (q_1, .inl (Y 0, 3, .inl (fun _ => 0))), (q_2, .inl (Y 0, 3, .inl (fun _ => 0)))] := hD
  refine W.widen (k := 2) (n := 6) (Nat.le_of_ble_eq_true rfl) (Nat.le_of_ble_eq_true rfl) ?_
  refine pFF (C := RX4) (T := TX4) (ci := 4) F hin hK hP hD hS 0 rfl rfl iwX4 tyX4 tyX4_ok nmX4 9 (by decide) m_116 (fun _ h => h) rfl rfl rfl rfl dX4_init_20 (fun H locs hP hD hS => ?_)
  have hP : va_P D vwCl [(rd, .inr (4, fl 10 (va_up (va_up (va_up gr 1 (.int (-1))) 6 (.ref q_1)) 9 (.ref q_2)))), (tp, .inl (Y 0, 400, .inl f)), (q_1, .inl (Y 0, 3, .inl (fun _ => 0))), (q_2, .inl (Y 0, 3, .inl (fun _ => 0)))] H := hP
  have hD : va_D A [(rd, .inr (4, fl 10 (va_up (va_up (va_up gr 1 (.int (-1))) 6 (.ref q_1)) 9 (.ref q_2)))), (tp, .inl (Y 0, 400, .inl f)), (q_1, .inl (Y 0, 3, .inl (fun _ => 0))), (q_2, .inl (Y 0, 3, .inl (fun _ => 0)))] := hD
  refine lv_aload_n hx hb dX4_init_23 rfl (lv_at hl 0 rfl) ?_
  refine lv_aload_n hx hb dX4_init_24 rfl (lv_at hl 1 rfl) ?_
  refine pFF (C := RX4) (T := TX4) (ci := 4) F hin hK hP hD hS 0 rfl rfl iwX4 tyX4 tyX4_ok nmX4 2 (by decide) m_117 (fun _ h => h) rfl rfl rfl rfl dX4_init_25 (fun H locs hP hD hS => ?_)
  have hP : va_P D vwCl [(rd, .inr (4, fl 10 (va_up (va_up (va_up (va_up gr 1 (.int (-1))) 6 (.ref q_1)) 9 (.ref q_2)) 2 (.ref tp)))), (tp, .inl (Y 0, 400, .inl f)), (q_1, .inl (Y 0, 3, .inl (fun _ => 0))), (q_2, .inl (Y 0, 3, .inl (fun _ => 0)))] H := hP
  have hD : va_D A [(rd, .inr (4, fl 10 (va_up (va_up (va_up (va_up gr 1 (.int (-1))) 6 (.ref q_1)) 9 (.ref q_2)) 2 (.ref tp)))), (tp, .inl (Y 0, 400, .inl f)), (q_1, .inl (Y 0, 3, .inl (fun _ => 0))), (q_2, .inl (Y 0, 3, .inl (fun _ => 0)))] := hD
  refine lv_aload_n hx hb dX4_init_28 rfl (lv_at hl 0 rfl) ?_
  refine lv_iload_n hx hb dX4_init_29 rfl (lv_at hl 2 rfl) ?_
  refine lv_aload_n hx hb dX4_init_30 rfl (lv_at hl 1 rfl) ?_
  refine va_alen (v := 400) hx hb hK.1 hP 1 0 rfl rfl rfl dX4_init_31 ?_
  refine va_mmin hx hb (by rw [F.2.2.1]; exact hl.1.symm) F.2.2.2.1 (F.2.2.2.2 _ m_118) (F.2.2.2.2 _ m_119) (F.2.2.2.2 _ m_120) (F.2.2.2.2 _ m_121) (Nat.le_of_ble_eq_true rfl) (Nat.le_of_ble_eq_true rfl) (Nat.le_of_ble_eq_true rfl) (Nat.le_of_ble_eq_true rfl) dX4_init_32 ?_
  refine lv_toc (v := 0) (by decide) ?_
  refine pFF (C := RX4) (T := TX4) (ci := 4) F hin hK hP hD hS 0 rfl rfl iwX4 tyX4 tyX4_ok nmX4 3 (by decide) m_122 (fun _ h => h) rfl rfl rfl rfl dX4_init_35 (fun H locs hP hD hS => ?_)
  have hP : va_P D vwCl [(rd, .inr (4, fl 10 (va_up (va_up (va_up (va_up (va_up gr 1 (.int (-1))) 6 (.ref q_1)) 9 (.ref q_2)) 2 (.ref tp)) 3 (.int 0)))), (tp, .inl (Y 0, 400, .inl f)), (q_1, .inl (Y 0, 3, .inl (fun _ => 0))), (q_2, .inl (Y 0, 3, .inl (fun _ => 0)))] H := hP
  have hD : va_D A [(rd, .inr (4, fl 10 (va_up (va_up (va_up (va_up (va_up gr 1 (.int (-1))) 6 (.ref q_1)) 9 (.ref q_2)) 2 (.ref tp)) 3 (.int 0)))), (tp, .inl (Y 0, 400, .inl f)), (q_1, .inl (Y 0, 3, .inl (fun _ => 0))), (q_2, .inl (Y 0, 3, .inl (fun _ => 0)))] := hD
  refine lv_aload_n hx hb dX4_init_38 rfl (lv_at hl 0 rfl) ?_
  refine lv_aload_n hx hb dX4_init_39 rfl (lv_at hl 3 rfl) ?_
  refine pFF (C := RX4) (T := TX4) (ci := 4) F hin hK hP hD hS 0 rfl rfl iwX4 tyX4 tyX4_ok nmX4 4 (by decide) m_123 (fun _ h => h) rfl rfl rfl rfl dX4_init_40 (fun H locs hP hD hS => ?_)
  have hP : va_P D vwCl [(rd, .inr (4, fl 10 (va_up (va_up (va_up (va_up (va_up (va_up gr 1 (.int (-1))) 6 (.ref q_1)) 9 (.ref q_2)) 2 (.ref tp)) 3 (.int 0)) 4 (.ref sp)))), (tp, .inl (Y 0, 400, .inl f)), (q_1, .inl (Y 0, 3, .inl (fun _ => 0))), (q_2, .inl (Y 0, 3, .inl (fun _ => 0)))] H := hP
  have hD : va_D A [(rd, .inr (4, fl 10 (va_up (va_up (va_up (va_up (va_up (va_up gr 1 (.int (-1))) 6 (.ref q_1)) 9 (.ref q_2)) 2 (.ref tp)) 3 (.int 0)) 4 (.ref sp)))), (tp, .inl (Y 0, 400, .inl f)), (q_1, .inl (Y 0, 3, .inl (fun _ => 0))), (q_2, .inl (Y 0, 3, .inl (fun _ => 0)))] := hD
  exact retV F hr hlocks hP hD hS (va_up (va_up (va_up (va_up (va_up (va_up gr 1 (.int (-1))) 6 (.ref q_1)) 9 (.ref q_2)) 2 (.ref tp)) 3 (.int 0)) 4 (.ref sp)) [0, 1] rfl rfl (Nat.le_of_ble_eq_true rfl) (Nat.le_of_ble_eq_true rfl) dX4_init_43 ⟨rfl, rfl, rfl, gr_5⟩
set_option maxRecDepth 100000 in
set_option maxHeartbeats 4000000 in
theorem c_nextR (l : Launch) (D : va_G) (Y : Nat → ClassId) (rd : Nat) (gr : Nat → Value) (gr_3 : gr 3 = .int 0) (gr_5 : gr 5 = .int 0)  : cM l D Y yX4_next cX4_next 1 (some .int) 1 0 0 [.ref rd] [(rd, .inr (4, fl 10 gr))] (qI D (fun (r : Int32) (u : Unit) => r = (-1)) (fun (u : Unit) => [(rd, .inr (4, fl 10 gr))])) := by
  refine cM.mk RX4 rfl (by decide) (Nat.le_of_ble_eq_true rfl) ?_
  intro p e s m below meth c A F hr hlocks hin hK hZ hP hD hA hS ls hl
  have hx := F.1
  have hb := F.2.1
  have hl : lv_has ls 1 [(0, .ref rd)] := hl
  refine lv_aload_n hx hb dX4_next_0 rfl (lv_at hl 0 rfl) ?_
  refine gF (C := RX4) (T := TX4) (ci := 4) (v := .int 0) F hK hP 0 rfl rfl iwX4 5 (by decide) m_124 (fun _ h => h) gr_5 dX4_next_1 ?_
  refine lv_aload_n hx hb dX4_next_4 rfl (lv_at hl 0 rfl) ?_
  refine gF (C := RX4) (T := TX4) (ci := 4) (v := .int 0) F hK hP 0 rfl rfl iwX4 3 (by decide) m_122 (fun _ h => h) gr_3 dX4_next_5 ?_
  refine lv_icmp_ge (tgt := 38) hx hb dX4_next_8 (by decide) (fun _ => ?_) (fun c9 => absurd (by decide) c9)
  refine lv_aload_n hx hb dX4_next_38 rfl (lv_at hl 0 rfl) ?_
  refine gF (C := RX4) (T := TX4) (ci := 4) (v := .int 0) F hK hP 0 rfl rfl iwX4 5 (by decide) m_124 (fun _ h => h) gr_5 dX4_next_39 ?_
  refine lv_aload_n hx hb dX4_next_42 rfl (lv_at hl 0 rfl) ?_
  refine gF (C := RX4) (T := TX4) (ci := 4) (v := .int 0) F hK hP 0 rfl rfl iwX4 3 (by decide) m_122 (fun _ h => h) gr_3 dX4_next_43 ?_
  refine lv_icmp_ge (tgt := 61) hx hb dX4_next_46 (by decide) (fun _ => ?_) (fun c9 => absurd (by decide) c9)
  refine lv_iconst (v := (-1)) hx hb dX4_next_61 (by decide) ?_
  exact retI F hr hlocks rfl hP hD hS () [0] rfl rfl (Nat.le_of_ble_eq_true rfl) (Nat.le_of_ble_eq_true rfl) dX4_next_62 rfl
set_option maxRecDepth 100000 in
set_option maxHeartbeats 4000000 in
theorem c_readT (l : Launch) (D : va_G) (Y : Nat → ClassId) (rd : Nat) (sp : Nat) (gr : Nat → Value) (gs : Nat → Value) (gr_3 : gr 3 = .int 0) (gr_4 : gr 4 = .ref sp) (gr_5 : gr 5 = .int 0)  : cM l D Y yX4_readText cX4_readText 2 (some .boolean) 2 0 0 [.ref rd] [(rd, .inr (4, fl 10 gr)), (sp, .inr (3, fl 9 gs))] (qI D (fun (r : Int32) (u : Nat → Value) => r = 1 ∧ u 0 = .int 0 ∧ u 1 = .int 0 ∧ u 2 = .int 0) (fun (u : Nat → Value) => [(rd, .inr (4, fl 10 gr)), (sp, .inr (3, fl 9 u))])) := by
  refine cM.mk RX4 rfl (by decide) (Nat.le_of_ble_eq_true rfl) ?_
  intro p e s m below meth c A F hr hlocks hin hK hZ hP hD hA hS ls hl
  have hx := F.1
  have hb := F.2.1
  have hl : lv_has ls 2 [(0, .ref rd)] := hl
  refine lv_aload_n hx hb dX4_readText_0 rfl (lv_at hl 0 rfl) ?_
  refine gF (C := RX4) (T := TX4) (ci := 4) (v := .ref sp) F hK hP 0 rfl rfl iwX4 4 (by decide) m_123 (fun _ h => h) gr_4 dX4_readText_1 ?_
  refine goV (wr := [(rd, .inr (4, fl 10 gr))]) (runV (n := 0) (As := []) (rest := []) (C := RX3) (T := TX3) (N := 9) (ci := 3) F hK hZ hP hD hS hA (c_clearP l D Y sp gs  ) 1 rfl rfl [1] rfl rfl m_127 m_128 m_129 m_126 m_125 (by decide +kernel) rfl ⟨Nat.le_of_ble_eq_true rfl, Nat.le_of_ble_eq_true rfl⟩ hl.1 rfl (Nat.le_of_ble_eq_true rfl) dX4_readText_4 ⟨Nat.le_of_ble_eq_true rfl, Nat.le_of_ble_eq_true rfl⟩) hP hD hS hA [1] [0] rfl rfl rfl (by decide) (fun gsn_1 H locs hw hP hD hS => ?_)
  obtain ⟨o_2, o_3, o_4⟩ := hw
  have hP : va_P D vwCl [(rd, .inr (4, fl 10 gr)), (sp, .inr (3, fl 9 gsn_1))] H := hP
  have hD : va_D A [(rd, .inr (4, fl 10 gr)), (sp, .inr (3, fl 9 gsn_1))] := hD
  refine W.widen (k := 0) (n := 0) (Nat.le_of_ble_eq_true rfl) (Nat.le_of_ble_eq_true rfl) ?_
  refine lv_iconst (v := 0) hx hb dX4_readText_7 (by decide) ?_
  refine lv_istore_n (lv' := [(1, .int 0), (0, .ref rd)]) hx hb dX4_readText_8 rfl hl (by decide) rfl (fun ls hl => ?_)
  refine lv_iload_n hx hb dX4_readText_9 rfl (lv_at hl 0 rfl) ?_
  refine lv_bipush (v := 60) hx hb dX4_readText_10 (by decide) ?_
  refine lv_icmp_gt (tgt := 40) hx hb dX4_readText_12 (by decide) (fun c9 => absurd c9 (by decide)) (fun _ => ?_)
  refine lv_aload_n hx hb dX4_readText_15 rfl (lv_at hl 1 rfl) ?_
  refine goI (wr := [(sp, .inr (3, fl 9 gsn_1))]) (runV (n := 0) (As := []) (rest := []) (C := RX4) (T := TX4) (N := 10) (ci := 4) F hK hZ hP hD hS hA (c_nextR l D Y rd gr gr_3 gr_5 ) 0 rfl rfl [0] rfl rfl m_132 m_133 m_134 m_131 m_130 (by decide +kernel) rfl ⟨Nat.le_of_ble_eq_true rfl, Nat.le_of_ble_eq_true rfl⟩ hl.1 rfl (Nat.le_of_ble_eq_true rfl) dX4_readText_16 ⟨Nat.le_of_ble_eq_true rfl, Nat.le_of_ble_eq_true rfl⟩) hP hD hS hA [0] [1] rfl rfl rfl (by decide) (fun r_6 u H locs hw hP hD hS => ?_)
  have hrr := hw
  have hP : va_P D vwCl [(sp, .inr (3, fl 9 gsn_1)), (rd, .inr (4, fl 10 gr))] H := hP
  have hD : va_D A [(sp, .inr (3, fl 9 gsn_1)), (rd, .inr (4, fl 10 gr))] := hD
  subst hrr
  refine W.widen (k := 0) (n := 0) (Nat.le_of_ble_eq_true rfl) (Nat.le_of_ble_eq_true rfl) ?_
  refine lv_iconst (v := (-1)) hx hb dX4_readText_19 (by decide) ?_
  refine lv_icmp_ne (tgt := 25) hx hb dX4_readText_20 (by decide) (fun c9 => absurd (by decide) c9) (fun _ => ?_)
  refine lv_iconst (v := 1) hx hb dX4_readText_23 (by decide) ?_
  exact retI F hr hlocks rfl hP hD hS gsn_1 [1, 0] rfl rfl (Nat.le_of_ble_eq_true rfl) (Nat.le_of_ble_eq_true rfl) dX4_readText_24 ⟨rfl, o_2, o_3, o_4⟩
