theorem dX10_within_0 : decode cX10_within 0 = .ok (.iload_n 0, 1) := by decide +kernel
theorem dX10_within_1 : decode cX10_within 1 = .ok (.iload_n 1, 1) := by decide +kernel
theorem dX10_within_2 : decode cX10_within 2 = .ok (.if_icmp .lt 12, 3) := by decide +kernel
theorem dX10_within_5 : decode cX10_within 5 = .ok (.iload_n 0, 1) := by decide +kernel
theorem dX10_within_6 : decode cX10_within 6 = .ok (.iload_n 2, 1) := by decide +kernel
theorem dX10_within_7 : decode cX10_within 7 = .ok (.if_icmp .gt 7, 3) := by decide +kernel
theorem dX10_within_10 : decode cX10_within 10 = .ok (.iconst 1, 1) := by decide +kernel
theorem dX10_within_11 : decode cX10_within 11 = .ok (.goto 4, 3) := by decide +kernel
theorem dX10_within_14 : decode cX10_within 14 = .ok (.iconst 0, 1) := by decide +kernel
theorem dX10_within_15 : decode cX10_within 15 = .ok (.ireturn, 1) := by decide +kernel
theorem dX10_isFine_0 : decode cX10_isFine 0 = .ok (.iload_n 1, 1) := by decide +kernel
theorem dX10_isFine_1 : decode cX10_isFine 1 = .ok (.ifCond .ne 25, 3) := by decide +kernel
theorem dX10_isFine_4 : decode cX10_isFine 4 = .ok (.aload_n 0, 1) := by decide +kernel
theorem dX10_isFine_5 : decode cX10_isFine 5 = .ok (.getfield 164, 3) := by decide +kernel
theorem dX10_isFine_8 : decode cX10_isFine 8 = .ok (.ifCond .ne 18, 3) := by decide +kernel
theorem dX10_isFine_11 : decode cX10_isFine 11 = .ok (.aload_n 0, 1) := by decide +kernel
theorem dX10_isFine_12 : decode cX10_isFine 12 = .ok (.iload_n 2, 1) := by decide +kernel
theorem dX10_isFine_13 : decode cX10_isFine 13 = .ok (.putfield 164, 3) := by decide +kernel
theorem dX10_isFine_16 : decode cX10_isFine 16 = .ok (.aload_n 0, 1) := by decide +kernel
theorem dX10_isFine_17 : decode cX10_isFine 17 = .ok (.getfield 7, 3) := by decide +kernel
theorem dX10_isFine_20 : decode cX10_isFine 20 = .ok (.iload_n 3, 1) := by decide +kernel
theorem dX10_isFine_21 : decode cX10_isFine 21 = .ok (.dup2, 1) := by decide +kernel
theorem dX10_isFine_22 : decode cX10_isFine 22 = .ok (.iaload, 1) := by decide +kernel
theorem dX10_isFine_23 : decode cX10_isFine 23 = .ok (.iconst 1, 1) := by decide +kernel
theorem dX10_isFine_24 : decode cX10_isFine 24 = .ok (.iadd, 1) := by decide +kernel
theorem dX10_isFine_25 : decode cX10_isFine 25 = .ok (.iastore, 1) := by decide +kernel
theorem dX10_isFine_26 : decode cX10_isFine 26 = .ok (.aload_n 0, 1) := by decide +kernel
theorem dX10_isFine_27 : decode cX10_isFine 27 = .ok (.getfield 164, 3) := by decide +kernel
theorem dX10_isFine_30 : decode cX10_isFine 30 = .ok (.ifCond .ne 7, 3) := by decide +kernel
theorem dX10_isFine_33 : decode cX10_isFine 33 = .ok (.iconst 1, 1) := by decide +kernel
theorem dX10_isFine_34 : decode cX10_isFine 34 = .ok (.goto 4, 3) := by decide +kernel
theorem dX10_isFine_37 : decode cX10_isFine 37 = .ok (.iconst 0, 1) := by decide +kernel
theorem dX10_isFine_38 : decode cX10_isFine 38 = .ok (.ireturn, 1) := by decide +kernel
theorem dX10_thrown_0 : decode cX10_thrown 0 = .ok (.aload_n 0, 1) := by decide +kernel
theorem dX10_thrown_1 : decode cX10_thrown 1 = .ok (.getfield 164, 3) := by decide +kernel
theorem dX10_thrown_4 : decode cX10_thrown 4 = .ok (.ireturn, 1) := by decide +kernel
theorem dX10_puts_0 : decode cX10_puts 0 = .ok (.bipush 24, 2) := by decide +kernel
theorem dX10_puts_2 : decode cX10_puts 2 = .ok (.istore_n 2, 1) := by decide +kernel
theorem dX10_puts_3 : decode cX10_puts 3 = .ok (.iload_n 2, 1) := by decide +kernel
theorem dX10_puts_4 : decode cX10_puts 4 = .ok (.ifCond .lt 32, 3) := by decide +kernel
theorem dX10_puts_7 : decode cX10_puts 7 = .ok (.aload_n 0, 1) := by decide +kernel
theorem dX10_puts_8 : decode cX10_puts 8 = .ok (.getfield 48, 3) := by decide +kernel
theorem dX10_puts_11 : decode cX10_puts 11 = .ok (.aload_n 0, 1) := by decide +kernel
theorem dX10_puts_12 : decode cX10_puts 12 = .ok (.getfield 231, 3) := by decide +kernel
theorem dX10_puts_15 : decode cX10_puts 15 = .ok (.iload_n 1, 1) := by decide +kernel
theorem dX10_puts_16 : decode cX10_puts 16 = .ok (.iload_n 2, 1) := by decide +kernel
theorem dX10_puts_17 : decode cX10_puts 17 = .ok (.ishr, 1) := by decide +kernel
theorem dX10_puts_18 : decode cX10_puts 18 = .ok (.i2b, 1) := by decide +kernel
theorem dX10_puts_19 : decode cX10_puts 19 = .ok (.bastore, 1) := by decide +kernel
theorem dX10_puts_20 : decode cX10_puts 20 = .ok (.aload_n 0, 1) := by decide +kernel
theorem dX10_puts_21 : decode cX10_puts 21 = .ok (.dup, 1) := by decide +kernel
theorem dX10_puts_22 : decode cX10_puts 22 = .ok (.getfield 231, 3) := by decide +kernel
theorem dX10_puts_25 : decode cX10_puts 25 = .ok (.iconst 1, 1) := by decide +kernel
theorem dX10_puts_26 : decode cX10_puts 26 = .ok (.iadd, 1) := by decide +kernel
theorem dX10_puts_27 : decode cX10_puts 27 = .ok (.putfield 231, 3) := by decide +kernel
theorem dX10_puts_30 : decode cX10_puts 30 = .ok (.iinc 2 (-8), 3) := by decide +kernel
theorem dX10_puts_33 : decode cX10_puts 33 = .ok (.goto (-30), 3) := by decide +kernel
theorem dX10_puts_36 : decode cX10_puts 36 = .ok (.return_, 1) := by decide +kernel
theorem dX10_feed_0 : decode cX10_feed 0 = .ok (.aload_n 0, 1) := by decide +kernel
theorem dX10_feed_1 : decode cX10_feed 1 = .ok (.iconst 0, 1) := by decide +kernel
theorem dX10_feed_2 : decode cX10_feed 2 = .ok (.putfield 164, 3) := by decide +kernel
theorem dX10_feed_5 : decode cX10_feed 5 = .ok (.aload_n 0, 1) := by decide +kernel
theorem dX10_feed_6 : decode cX10_feed 6 = .ok (.getfield 231, 3) := by decide +kernel
theorem dX10_feed_9 : decode cX10_feed 9 = .ok (.bipush 20, 2) := by decide +kernel
theorem dX10_feed_11 : decode cX10_feed 11 = .ok (.iadd, 1) := by decide +kernel
theorem dX10_feed_12 : decode cX10_feed 12 = .ok (.sipush 400, 3) := by decide +kernel
theorem dX10_feed_15 : decode cX10_feed 15 = .ok (.if_icmp .le 5, 3) := by decide +kernel
theorem dX10_feed_20 : decode cX10_feed 20 = .ok (.aload_n 0, 1) := by decide +kernel
theorem dX10_feed_21 : decode cX10_feed 21 = .ok (.iload_n 1, 1) := by decide +kernel
theorem dX10_feed_22 : decode cX10_feed 22 = .ok (.invokevirtual 234, 3) := by decide +kernel
theorem dX10_feed_25 : decode cX10_feed 25 = .ok (.aload_n 0, 1) := by decide +kernel
theorem dX10_feed_26 : decode cX10_feed 26 = .ok (.iload_n 2, 1) := by decide +kernel
theorem dX10_feed_27 : decode cX10_feed 27 = .ok (.invokevirtual 234, 3) := by decide +kernel
theorem dX10_feed_30 : decode cX10_feed 30 = .ok (.aload_n 0, 1) := by decide +kernel
theorem dX10_feed_31 : decode cX10_feed 31 = .ok (.iload_n 3, 1) := by decide +kernel
theorem dX10_feed_32 : decode cX10_feed 32 = .ok (.invokevirtual 234, 3) := by decide +kernel
theorem dX10_feed_35 : decode cX10_feed 35 = .ok (.aload_n 0, 1) := by decide +kernel
theorem dX10_feed_36 : decode cX10_feed 36 = .ok (.iload 4, 2) := by decide +kernel
theorem dX10_feed_38 : decode cX10_feed 38 = .ok (.invokevirtual 234, 3) := by decide +kernel
theorem dX10_feed_41 : decode cX10_feed 41 = .ok (.aload_n 0, 1) := by decide +kernel
theorem dX10_feed_42 : decode cX10_feed 42 = .ok (.iload 5, 2) := by decide +kernel
theorem dX10_feed_44 : decode cX10_feed 44 = .ok (.invokevirtual 234, 3) := by decide +kernel
theorem dX10_feed_47 : decode cX10_feed 47 = .ok (.aload_n 0, 1) := by decide +kernel
theorem dX10_feed_48 : decode cX10_feed 48 = .ok (.getfield 231, 3) := by decide +kernel
theorem dX10_feed_51 : decode cX10_feed 51 = .ok (.ireturn, 1) := by decide +kernel
theorem dX10_fault_0 : decode cX10_fault 0 = .ok (.aload_n 0, 1) := by decide +kernel
theorem dX10_fault_1 : decode cX10_fault 1 = .ok (.iconst 0, 1) := by decide +kernel
theorem dX10_fault_2 : decode cX10_fault 2 = .ok (.putfield 164, 3) := by decide +kernel
theorem dX10_fault_5 : decode cX10_fault 5 = .ok (.aload_n 0, 1) := by decide +kernel
theorem dX10_fault_6 : decode cX10_fault 6 = .ok (.getfield 55, 3) := by decide +kernel
theorem dX10_fault_9 : decode cX10_fault 9 = .ok (.ireturn, 1) := by decide +kernel
theorem dX10_isGiven_0 : decode cX10_isGiven 0 = .ok (.iload_n 1, 1) := by decide +kernel
theorem dX10_isGiven_1 : decode cX10_isGiven 1 = .ok (.iconst 0, 1) := by decide +kernel
theorem dX10_isGiven_2 : decode cX10_isGiven 2 = .ok (.aload_n 0, 1) := by decide +kernel
theorem dX10_isGiven_3 : decode cX10_isGiven 3 = .ok (.getfield 344, 3) := by decide +kernel
theorem dX10_isGiven_6 : decode cX10_isGiven 6 = .ok (.iconst 1, 1) := by decide +kernel
theorem dX10_isGiven_7 : decode cX10_isGiven 7 = .ok (.isub, 1) := by decide +kernel
theorem dX10_isGiven_8 : decode cX10_isGiven 8 = .ok (.invokestatic 330, 3) := by decide +kernel
theorem dX10_isGiven_11 : decode cX10_isGiven 11 = .ok (.ifCond .eq 31, 3) := by decide +kernel
theorem dX10_isGiven_42 : decode cX10_isGiven 42 = .ok (.iconst 0, 1) := by decide +kernel
theorem dX10_isGiven_43 : decode cX10_isGiven 43 = .ok (.istore 6, 2) := by decide +kernel
theorem dX10_isGiven_45 : decode cX10_isGiven 45 = .ok (.aload_n 0, 1) := by decide +kernel
theorem dX10_isGiven_46 : decode cX10_isGiven 46 = .ok (.iload 6, 2) := by decide +kernel
theorem dX10_isGiven_48 : decode cX10_isGiven 48 = .ok (.iconst 1, 1) := by decide +kernel
theorem dX10_isGiven_49 : decode cX10_isGiven 49 = .ok (.iconst 0, 1) := by decide +kernel
theorem dX10_isGiven_50 : decode cX10_isGiven 50 = .ok (.invokevirtual 334, 3) := by decide +kernel
theorem dX10_isGiven_53 : decode cX10_isGiven 53 = .ok (.ifCond .ne 5, 3) := by decide +kernel
theorem dX10_isGiven_56 : decode cX10_isGiven 56 = .ok (.iconst 0, 1) := by decide +kernel
theorem dX10_isGiven_57 : decode cX10_isGiven 57 = .ok (.ireturn, 1) := by decide +kernel
theorem dX10_assume_0 : decode cX10_assume 0 = .ok (.aload_n 0, 1) := by decide +kernel
theorem dX10_assume_1 : decode cX10_assume 1 = .ok (.iconst 0, 1) := by decide +kernel
theorem dX10_assume_2 : decode cX10_assume 2 = .ok (.putfield 164, 3) := by decide +kernel
theorem dX10_assume_5 : decode cX10_assume 5 = .ok (.aload_n 0, 1) := by decide +kernel
theorem dX10_assume_6 : decode cX10_assume 6 = .ok (.iload_n 1, 1) := by decide +kernel
theorem dX10_assume_7 : decode cX10_assume 7 = .ok (.iload_n 2, 1) := by decide +kernel
theorem dX10_assume_8 : decode cX10_assume 8 = .ok (.iload_n 3, 1) := by decide +kernel
theorem dX10_assume_9 : decode cX10_assume 9 = .ok (.iconst 0, 1) := by decide +kernel
theorem dX10_assume_10 : decode cX10_assume 10 = .ok (.iconst 2, 1) := by decide +kernel
theorem dX10_assume_11 : decode cX10_assume 11 = .ok (.invokevirtual 449, 3) := by decide +kernel
theorem dX10_assume_14 : decode cX10_assume 14 = .ok (.ifCond .ne 5, 3) := by decide +kernel
theorem dX10_assume_17 : decode cX10_assume 17 = .ok (.iconst 0, 1) := by decide +kernel
theorem dX10_assume_18 : decode cX10_assume 18 = .ok (.ireturn, 1) := by decide +kernel
theorem dX10_retract_0 : decode cX10_retract 0 = .ok (.aload_n 0, 1) := by decide +kernel
theorem dX10_retract_1 : decode cX10_retract 1 = .ok (.iconst 0, 1) := by decide +kernel
theorem dX10_retract_2 : decode cX10_retract 2 = .ok (.putfield 164, 3) := by decide +kernel
theorem dX10_retract_5 : decode cX10_retract 5 = .ok (.aload_n 0, 1) := by decide +kernel
theorem dX10_retract_6 : decode cX10_retract 6 = .ok (.iload_n 1, 1) := by decide +kernel
theorem dX10_retract_7 : decode cX10_retract 7 = .ok (.iload_n 2, 1) := by decide +kernel
theorem dX10_retract_8 : decode cX10_retract 8 = .ok (.iload_n 3, 1) := by decide +kernel
theorem dX10_retract_9 : decode cX10_retract 9 = .ok (.iconst 0, 1) := by decide +kernel
theorem dX10_retract_10 : decode cX10_retract 10 = .ok (.iconst 2, 1) := by decide +kernel
theorem dX10_retract_11 : decode cX10_retract 11 = .ok (.invokevirtual 449, 3) := by decide +kernel
theorem dX10_retract_14 : decode cX10_retract 14 = .ok (.ifCond .ne 5, 3) := by decide +kernel
theorem dX10_retract_17 : decode cX10_retract 17 = .ok (.iconst 0, 1) := by decide +kernel
theorem dX10_retract_18 : decode cX10_retract 18 = .ok (.ireturn, 1) := by decide +kernel
theorem dX10_ask_0 : decode cX10_ask 0 = .ok (.aload_n 0, 1) := by decide +kernel
theorem dX10_ask_1 : decode cX10_ask 1 = .ok (.iconst 0, 1) := by decide +kernel
theorem dX10_ask_2 : decode cX10_ask 2 = .ok (.putfield 164, 3) := by decide +kernel
theorem dX10_ask_5 : decode cX10_ask 5 = .ok (.aload_n 0, 1) := by decide +kernel
theorem dX10_ask_6 : decode cX10_ask 6 = .ok (.iload_n 1, 1) := by decide +kernel
theorem dX10_ask_7 : decode cX10_ask 7 = .ok (.iload_n 2, 1) := by decide +kernel
theorem dX10_ask_8 : decode cX10_ask 8 = .ok (.iload_n 3, 1) := by decide +kernel
theorem dX10_ask_9 : decode cX10_ask 9 = .ok (.iconst 1, 1) := by decide +kernel
theorem dX10_ask_10 : decode cX10_ask 10 = .ok (.iconst 2, 1) := by decide +kernel
theorem dX10_ask_11 : decode cX10_ask 11 = .ok (.invokevirtual 449, 3) := by decide +kernel
theorem dX10_ask_14 : decode cX10_ask 14 = .ok (.ifCond .ne 5, 3) := by decide +kernel
theorem dX10_ask_17 : decode cX10_ask 17 = .ok (.iconst 0, 1) := by decide +kernel
theorem dX10_ask_18 : decode cX10_ask 18 = .ok (.ireturn, 1) := by decide +kernel
theorem dX10_value_0 : decode cX10_value 0 = .ok (.aload_n 0, 1) := by decide +kernel
theorem dX10_value_1 : decode cX10_value 1 = .ok (.iconst 0, 1) := by decide +kernel
theorem dX10_value_2 : decode cX10_value 2 = .ok (.putfield 164, 3) := by decide +kernel
theorem dX10_value_5 : decode cX10_value 5 = .ok (.aload_n 0, 1) := by decide +kernel
theorem dX10_value_6 : decode cX10_value 6 = .ok (.iload_n 1, 1) := by decide +kernel
theorem dX10_value_7 : decode cX10_value 7 = .ok (.iload_n 2, 1) := by decide +kernel
theorem dX10_value_8 : decode cX10_value 8 = .ok (.iload_n 3, 1) := by decide +kernel
theorem dX10_value_9 : decode cX10_value 9 = .ok (.iconst 0, 1) := by decide +kernel
theorem dX10_value_10 : decode cX10_value 10 = .ok (.iconst 2, 1) := by decide +kernel
theorem dX10_value_11 : decode cX10_value 11 = .ok (.invokevirtual 449, 3) := by decide +kernel
theorem dX10_value_14 : decode cX10_value 14 = .ok (.ifCond .ne 5, 3) := by decide +kernel
theorem dX10_value_17 : decode cX10_value 17 = .ok (.iconst 0, 1) := by decide +kernel
theorem dX10_value_18 : decode cX10_value 18 = .ok (.ireturn, 1) := by decide +kernel
theorem dX10_stage_0 : decode cX10_stage 0 = .ok (.aload_n 0, 1) := by decide +kernel
theorem dX10_stage_1 : decode cX10_stage 1 = .ok (.iconst 0, 1) := by decide +kernel
theorem dX10_stage_2 : decode cX10_stage 2 = .ok (.putfield 164, 3) := by decide +kernel
theorem dX10_stage_5 : decode cX10_stage 5 = .ok (.aload_n 0, 1) := by decide +kernel
theorem dX10_stage_6 : decode cX10_stage 6 = .ok (.iload_n 1, 1) := by decide +kernel
theorem dX10_stage_7 : decode cX10_stage 7 = .ok (.iload_n 2, 1) := by decide +kernel
theorem dX10_stage_8 : decode cX10_stage 8 = .ok (.iload_n 3, 1) := by decide +kernel
theorem dX10_stage_9 : decode cX10_stage 9 = .ok (.iconst 0, 1) := by decide +kernel
theorem dX10_stage_10 : decode cX10_stage 10 = .ok (.iconst 2, 1) := by decide +kernel
theorem dX10_stage_11 : decode cX10_stage 11 = .ok (.invokevirtual 449, 3) := by decide +kernel
theorem dX10_stage_14 : decode cX10_stage 14 = .ok (.ifCond .ne 5, 3) := by decide +kernel
theorem dX10_stage_17 : decode cX10_stage 17 = .ok (.iconst 0, 1) := by decide +kernel
theorem dX10_stage_18 : decode cX10_stage 18 = .ok (.ireturn, 1) := by decide +kernel
theorem dX10_find_0 : decode cX10_find 0 = .ok (.aload_n 0, 1) := by decide +kernel
theorem dX10_find_1 : decode cX10_find 1 = .ok (.iconst 0, 1) := by decide +kernel
theorem dX10_find_2 : decode cX10_find 2 = .ok (.putfield 164, 3) := by decide +kernel
theorem dX10_find_5 : decode cX10_find 5 = .ok (.aload_n 0, 1) := by decide +kernel
theorem dX10_find_6 : decode cX10_find 6 = .ok (.iload_n 1, 1) := by decide +kernel
theorem dX10_find_7 : decode cX10_find 7 = .ok (.iload_n 2, 1) := by decide +kernel
theorem dX10_find_8 : decode cX10_find 8 = .ok (.iload_n 3, 1) := by decide +kernel
theorem dX10_find_9 : decode cX10_find 9 = .ok (.iconst 1, 1) := by decide +kernel
theorem dX10_find_10 : decode cX10_find 10 = .ok (.iconst 2, 1) := by decide +kernel
theorem dX10_find_11 : decode cX10_find 11 = .ok (.invokevirtual 449, 3) := by decide +kernel
theorem dX10_find_14 : decode cX10_find 14 = .ok (.ifCond .eq 17, 3) := by decide +kernel
theorem dX10_find_31 : decode cX10_find 31 = .ok (.iconst 0, 1) := by decide +kernel
theorem dX10_find_32 : decode cX10_find 32 = .ok (.ireturn, 1) := by decide +kernel
theorem dX10_reach_0 : decode cX10_reach 0 = .ok (.aload_n 0, 1) := by decide +kernel
theorem dX10_reach_1 : decode cX10_reach 1 = .ok (.iconst 0, 1) := by decide +kernel
theorem dX10_reach_2 : decode cX10_reach 2 = .ok (.putfield 164, 3) := by decide +kernel
theorem dX10_reach_5 : decode cX10_reach 5 = .ok (.aload_n 0, 1) := by decide +kernel
theorem dX10_reach_6 : decode cX10_reach 6 = .ok (.iload_n 1, 1) := by decide +kernel
theorem dX10_reach_7 : decode cX10_reach 7 = .ok (.iload_n 2, 1) := by decide +kernel
theorem dX10_reach_8 : decode cX10_reach 8 = .ok (.iload_n 3, 1) := by decide +kernel
theorem dX10_reach_9 : decode cX10_reach 9 = .ok (.iconst 1, 1) := by decide +kernel
theorem dX10_reach_10 : decode cX10_reach 10 = .ok (.iconst 2, 1) := by decide +kernel
theorem dX10_reach_11 : decode cX10_reach 11 = .ok (.invokevirtual 449, 3) := by decide +kernel
theorem dX10_reach_14 : decode cX10_reach 14 = .ok (.ifCond .ne 5, 3) := by decide +kernel
theorem dX10_reach_17 : decode cX10_reach 17 = .ok (.iconst 0, 1) := by decide +kernel
theorem dX10_reach_18 : decode cX10_reach 18 = .ok (.ireturn, 1) := by decide +kernel
theorem dX10_condition_0 : decode cX10_condition 0 = .ok (.aload_n 0, 1) := by decide +kernel
theorem dX10_condition_1 : decode cX10_condition 1 = .ok (.iconst 0, 1) := by decide +kernel
theorem dX10_condition_2 : decode cX10_condition 2 = .ok (.putfield 164, 3) := by decide +kernel
theorem dX10_condition_5 : decode cX10_condition 5 = .ok (.aload_n 0, 1) := by decide +kernel
theorem dX10_condition_6 : decode cX10_condition 6 = .ok (.iload_n 1, 1) := by decide +kernel
theorem dX10_condition_7 : decode cX10_condition 7 = .ok (.iload_n 2, 1) := by decide +kernel
theorem dX10_condition_8 : decode cX10_condition 8 = .ok (.iload_n 3, 1) := by decide +kernel
theorem dX10_condition_9 : decode cX10_condition 9 = .ok (.iconst 0, 1) := by decide +kernel
theorem dX10_condition_10 : decode cX10_condition 10 = .ok (.iconst 2, 1) := by decide +kernel
theorem dX10_condition_11 : decode cX10_condition 11 = .ok (.invokevirtual 449, 3) := by decide +kernel
theorem dX10_condition_14 : decode cX10_condition 14 = .ok (.ifCond .ne 5, 3) := by decide +kernel
theorem dX10_condition_17 : decode cX10_condition 17 = .ok (.iconst 0, 1) := by decide +kernel
theorem dX10_condition_18 : decode cX10_condition 18 = .ok (.ireturn, 1) := by decide +kernel
theorem dX10_predicate_0 : decode cX10_predicate 0 = .ok (.aload_n 0, 1) := by decide +kernel
theorem dX10_predicate_1 : decode cX10_predicate 1 = .ok (.iconst 0, 1) := by decide +kernel
theorem dX10_predicate_2 : decode cX10_predicate 2 = .ok (.putfield 164, 3) := by decide +kernel
theorem dX10_predicate_5 : decode cX10_predicate 5 = .ok (.aload_n 0, 1) := by decide +kernel
theorem dX10_predicate_6 : decode cX10_predicate 6 = .ok (.iload_n 1, 1) := by decide +kernel
theorem dX10_predicate_7 : decode cX10_predicate 7 = .ok (.iconst 0, 1) := by decide +kernel
theorem dX10_predicate_8 : decode cX10_predicate 8 = .ok (.aload_n 0, 1) := by decide +kernel
theorem dX10_predicate_9 : decode cX10_predicate 9 = .ok (.getfield 344, 3) := by decide +kernel
theorem dX10_predicate_12 : decode cX10_predicate 12 = .ok (.iconst 1, 1) := by decide +kernel
theorem dX10_predicate_13 : decode cX10_predicate 13 = .ok (.isub, 1) := by decide +kernel
theorem dX10_predicate_14 : decode cX10_predicate 14 = .ok (.invokestatic 330, 3) := by decide +kernel
theorem dX10_predicate_17 : decode cX10_predicate 17 = .ok (.iconst 1, 1) := by decide +kernel
theorem dX10_predicate_18 : decode cX10_predicate 18 = .ok (.iconst 0, 1) := by decide +kernel
theorem dX10_predicate_19 : decode cX10_predicate 19 = .ok (.invokevirtual 334, 3) := by decide +kernel
theorem dX10_predicate_22 : decode cX10_predicate 22 = .ok (.ifCond .eq 18, 3) := by decide +kernel
theorem dX10_predicate_40 : decode cX10_predicate 40 = .ok (.iconst 0, 1) := by decide +kernel
theorem dX10_predicate_41 : decode cX10_predicate 41 = .ok (.ireturn, 1) := by decide +kernel
theorem dX10_clause_0 : decode cX10_clause 0 = .ok (.aload_n 0, 1) := by decide +kernel
theorem dX10_clause_1 : decode cX10_clause 1 = .ok (.iconst 0, 1) := by decide +kernel
theorem dX10_clause_2 : decode cX10_clause 2 = .ok (.putfield 164, 3) := by decide +kernel
theorem dX10_clause_5 : decode cX10_clause 5 = .ok (.iload_n 1, 1) := by decide +kernel
theorem dX10_clause_6 : decode cX10_clause 6 = .ok (.iconst 0, 1) := by decide +kernel
theorem dX10_clause_7 : decode cX10_clause 7 = .ok (.aload_n 0, 1) := by decide +kernel
theorem dX10_clause_8 : decode cX10_clause 8 = .ok (.getfield 191, 3) := by decide +kernel
theorem dX10_clause_11 : decode cX10_clause 11 = .ok (.iconst 1, 1) := by decide +kernel
theorem dX10_clause_12 : decode cX10_clause 12 = .ok (.isub, 1) := by decide +kernel
theorem dX10_clause_13 : decode cX10_clause 13 = .ok (.invokestatic 330, 3) := by decide +kernel
theorem dX10_clause_16 : decode cX10_clause 16 = .ok (.ifCond .eq 22, 3) := by decide +kernel
theorem dX10_clause_38 : decode cX10_clause 38 = .ok (.iconst 0, 1) := by decide +kernel
theorem dX10_clause_39 : decode cX10_clause 39 = .ok (.istore 4, 2) := by decide +kernel
theorem dX10_clause_41 : decode cX10_clause 41 = .ok (.aload_n 0, 1) := by decide +kernel
theorem dX10_clause_42 : decode cX10_clause 42 = .ok (.iload 4, 2) := by decide +kernel
theorem dX10_clause_44 : decode cX10_clause 44 = .ok (.iconst 1, 1) := by decide +kernel
theorem dX10_clause_45 : decode cX10_clause 45 = .ok (.iconst 0, 1) := by decide +kernel
theorem dX10_clause_46 : decode cX10_clause 46 = .ok (.invokevirtual 334, 3) := by decide +kernel
theorem dX10_clause_49 : decode cX10_clause 49 = .ok (.ifCond .eq 18, 3) := by decide +kernel
theorem dX10_clause_67 : decode cX10_clause 67 = .ok (.iconst 0, 1) := by decide +kernel
theorem dX10_clause_68 : decode cX10_clause 68 = .ok (.ireturn, 1) := by decide +kernel
theorem dX10_literals_0 : decode cX10_literals 0 = .ok (.aload_n 0, 1) := by decide +kernel
theorem dX10_literals_1 : decode cX10_literals 1 = .ok (.iconst 0, 1) := by decide +kernel
theorem dX10_literals_2 : decode cX10_literals 2 = .ok (.putfield 164, 3) := by decide +kernel
theorem dX10_literals_5 : decode cX10_literals 5 = .ok (.aload_n 0, 1) := by decide +kernel
theorem dX10_literals_6 : decode cX10_literals 6 = .ok (.iload_n 1, 1) := by decide +kernel
theorem dX10_literals_7 : decode cX10_literals 7 = .ok (.iconst 0, 1) := by decide +kernel
theorem dX10_literals_8 : decode cX10_literals 8 = .ok (.aload_n 0, 1) := by decide +kernel
theorem dX10_literals_9 : decode cX10_literals 9 = .ok (.getfield 191, 3) := by decide +kernel
theorem dX10_literals_12 : decode cX10_literals 12 = .ok (.iconst 1, 1) := by decide +kernel
theorem dX10_literals_13 : decode cX10_literals 13 = .ok (.isub, 1) := by decide +kernel
theorem dX10_literals_14 : decode cX10_literals 14 = .ok (.invokestatic 330, 3) := by decide +kernel
theorem dX10_literals_17 : decode cX10_literals 17 = .ok (.iconst 1, 1) := by decide +kernel
theorem dX10_literals_18 : decode cX10_literals 18 = .ok (.iconst 0, 1) := by decide +kernel
theorem dX10_literals_19 : decode cX10_literals 19 = .ok (.invokevirtual 334, 3) := by decide +kernel
theorem dX10_literals_22 : decode cX10_literals 22 = .ok (.ifCond .eq 11, 3) := by decide +kernel
theorem dX10_literals_33 : decode cX10_literals 33 = .ok (.iconst 0, 1) := by decide +kernel
theorem dX10_literals_34 : decode cX10_literals 34 = .ok (.ireturn, 1) := by decide +kernel
theorem dX10_isTable_0 : decode cX10_isTable 0 = .ok (.iload_n 1, 1) := by decide +kernel
theorem dX10_isTable_1 : decode cX10_isTable 1 = .ok (.iconst 0, 1) := by decide +kernel
theorem dX10_isTable_2 : decode cX10_isTable 2 = .ok (.aload_n 0, 1) := by decide +kernel
theorem dX10_isTable_3 : decode cX10_isTable 3 = .ok (.getfield 400, 3) := by decide +kernel
theorem dX10_isTable_6 : decode cX10_isTable 6 = .ok (.iconst 1, 1) := by decide +kernel
theorem dX10_isTable_7 : decode cX10_isTable 7 = .ok (.isub, 1) := by decide +kernel
theorem dX10_isTable_8 : decode cX10_isTable 8 = .ok (.invokestatic 330, 3) := by decide +kernel
theorem dX10_isTable_11 : decode cX10_isTable 11 = .ok (.ireturn, 1) := by decide +kernel
theorem dX10_table_0 : decode cX10_table 0 = .ok (.aload_n 0, 1) := by decide +kernel
theorem dX10_table_1 : decode cX10_table 1 = .ok (.iconst 0, 1) := by decide +kernel
theorem dX10_table_2 : decode cX10_table 2 = .ok (.putfield 164, 3) := by decide +kernel
theorem dX10_table_5 : decode cX10_table 5 = .ok (.aload_n 0, 1) := by decide +kernel
theorem dX10_table_6 : decode cX10_table 6 = .ok (.aload_n 0, 1) := by decide +kernel
theorem dX10_table_7 : decode cX10_table 7 = .ok (.iload_n 1, 1) := by decide +kernel
theorem dX10_table_8 : decode cX10_table 8 = .ok (.invokevirtual 490, 3) := by decide +kernel
theorem dX10_table_11 : decode cX10_table 11 = .ok (.iconst 1, 1) := by decide +kernel
theorem dX10_table_12 : decode cX10_table 12 = .ok (.iconst 0, 1) := by decide +kernel
theorem dX10_table_13 : decode cX10_table 13 = .ok (.invokevirtual 334, 3) := by decide +kernel
theorem dX10_table_16 : decode cX10_table 16 = .ok (.ifCond .eq 19, 3) := by decide +kernel
theorem dX10_table_35 : decode cX10_table 35 = .ok (.iconst 0, 1) := by decide +kernel
theorem dX10_table_36 : decode cX10_table 36 = .ok (.ireturn, 1) := by decide +kernel
theorem dX10_calls_0 : decode cX10_calls 0 = .ok (.aload_n 0, 1) := by decide +kernel
theorem dX10_calls_1 : decode cX10_calls 1 = .ok (.iconst 0, 1) := by decide +kernel
theorem dX10_calls_2 : decode cX10_calls 2 = .ok (.putfield 164, 3) := by decide +kernel
theorem dX10_calls_5 : decode cX10_calls 5 = .ok (.aload_n 0, 1) := by decide +kernel
theorem dX10_calls_6 : decode cX10_calls 6 = .ok (.aload_n 0, 1) := by decide +kernel
theorem dX10_calls_7 : decode cX10_calls 7 = .ok (.iload_n 1, 1) := by decide +kernel
theorem dX10_calls_8 : decode cX10_calls 8 = .ok (.invokevirtual 490, 3) := by decide +kernel
theorem dX10_calls_11 : decode cX10_calls 11 = .ok (.ifCond .eq 35, 3) := by decide +kernel
theorem dX10_calls_46 : decode cX10_calls 46 = .ok (.iconst 0, 1) := by decide +kernel
theorem dX10_calls_47 : decode cX10_calls 47 = .ok (.iconst 1, 1) := by decide +kernel
theorem dX10_calls_48 : decode cX10_calls 48 = .ok (.iconst 0, 1) := by decide +kernel
theorem dX10_calls_49 : decode cX10_calls 49 = .ok (.invokevirtual 334, 3) := by decide +kernel
theorem dX10_calls_52 : decode cX10_calls 52 = .ok (.ifCond .eq 18, 3) := by decide +kernel
theorem dX10_calls_70 : decode cX10_calls 70 = .ok (.iconst 0, 1) := by decide +kernel
theorem dX10_calls_71 : decode cX10_calls 71 = .ok (.ireturn, 1) := by decide +kernel
theorem dX10_answer_0 : decode cX10_answer 0 = .ok (.aload_n 0, 1) := by decide +kernel
theorem dX10_answer_1 : decode cX10_answer 1 = .ok (.iconst 0, 1) := by decide +kernel
theorem dX10_answer_2 : decode cX10_answer 2 = .ok (.putfield 164, 3) := by decide +kernel
theorem dX10_answer_5 : decode cX10_answer 5 = .ok (.iconst (-1), 1) := by decide +kernel
theorem dX10_answer_6 : decode cX10_answer 6 = .ok (.istore 4, 2) := by decide +kernel
theorem dX10_answer_8 : decode cX10_answer 8 = .ok (.iconst 0, 1) := by decide +kernel
theorem dX10_answer_9 : decode cX10_answer 9 = .ok (.istore 5, 2) := by decide +kernel
theorem dX10_answer_11 : decode cX10_answer 11 = .ok (.iconst 0, 1) := by decide +kernel
theorem dX10_answer_12 : decode cX10_answer 12 = .ok (.istore 6, 2) := by decide +kernel
theorem dX10_answer_14 : decode cX10_answer 14 = .ok (.iload 6, 2) := by decide +kernel
theorem dX10_answer_16 : decode cX10_answer 16 = .ok (.bipush 64, 2) := by decide +kernel
theorem dX10_answer_18 : decode cX10_answer 18 = .ok (.if_icmp .ge 48, 3) := by decide +kernel
theorem dX10_answer_21 : decode cX10_answer 21 = .ok (.aload_n 0, 1) := by decide +kernel
theorem dX10_answer_22 : decode cX10_answer 22 = .ok (.iload_n 1, 1) := by decide +kernel
theorem dX10_answer_23 : decode cX10_answer 23 = .ok (.invokevirtual 490, 3) := by decide +kernel
theorem dX10_answer_26 : decode cX10_answer 26 = .ok (.ifCond .eq 40, 3) := by decide +kernel
theorem dX10_answer_66 : decode cX10_answer 66 = .ok (.aload_n 0, 1) := by decide +kernel
theorem dX10_answer_67 : decode cX10_answer 67 = .ok (.iload 4, 2) := by decide +kernel
theorem dX10_answer_69 : decode cX10_answer 69 = .ok (.iconst (-1), 1) := by decide +kernel
theorem dX10_answer_70 : decode cX10_answer 70 = .ok (.if_icmp .eq 7, 3) := by decide +kernel
theorem dX10_answer_77 : decode cX10_answer 77 = .ok (.iconst 0, 1) := by decide +kernel
theorem dX10_answer_78 : decode cX10_answer 78 = .ok (.iconst 1, 1) := by decide +kernel
theorem dX10_answer_79 : decode cX10_answer 79 = .ok (.iconst 0, 1) := by decide +kernel
theorem dX10_answer_80 : decode cX10_answer 80 = .ok (.invokevirtual 334, 3) := by decide +kernel
theorem dX10_answer_83 : decode cX10_answer 83 = .ok (.ifCond .eq 18, 3) := by decide +kernel
theorem dX10_answer_101 : decode cX10_answer 101 = .ok (.iconst 0, 1) := by decide +kernel
theorem dX10_answer_102 : decode cX10_answer 102 = .ok (.ireturn, 1) := by decide +kernel
theorem dX10_completed_0 : decode cX10_completed 0 = .ok (.aload_n 0, 1) := by decide +kernel
theorem dX10_completed_1 : decode cX10_completed 1 = .ok (.iconst 0, 1) := by decide +kernel
theorem dX10_completed_2 : decode cX10_completed 2 = .ok (.putfield 164, 3) := by decide +kernel
theorem dX10_completed_5 : decode cX10_completed 5 = .ok (.iload_n 1, 1) := by decide +kernel
theorem dX10_completed_6 : decode cX10_completed 6 = .ok (.iconst 0, 1) := by decide +kernel
theorem dX10_completed_7 : decode cX10_completed 7 = .ok (.aload_n 0, 1) := by decide +kernel
theorem dX10_completed_8 : decode cX10_completed 8 = .ok (.getfield 403, 3) := by decide +kernel
theorem dX10_completed_11 : decode cX10_completed 11 = .ok (.iconst 1, 1) := by decide +kernel
theorem dX10_completed_12 : decode cX10_completed 12 = .ok (.isub, 1) := by decide +kernel
theorem dX10_completed_13 : decode cX10_completed 13 = .ok (.invokestatic 330, 3) := by decide +kernel
theorem dX10_completed_16 : decode cX10_completed 16 = .ok (.ifCond .eq 12, 3) := by decide +kernel
theorem dX10_completed_28 : decode cX10_completed 28 = .ok (.iconst (-1), 1) := by decide +kernel
theorem dX10_completed_29 : decode cX10_completed 29 = .ok (.ireturn, 1) := by decide +kernel
theorem dX10_print_0 : decode cX10_print 0 = .ok (.aload_n 0, 1) := by decide +kernel
theorem dX10_print_1 : decode cX10_print 1 = .ok (.iconst 0, 1) := by decide +kernel
theorem dX10_print_2 : decode cX10_print 2 = .ok (.putfield 164, 3) := by decide +kernel
theorem dX10_print_5 : decode cX10_print 5 = .ok (.lconst 0, 1) := by decide +kernel
theorem dX10_print_6 : decode cX10_print 6 = .ok (.lstore_n 1, 1) := by decide +kernel
theorem dX10_print_7 : decode cX10_print 7 = .ok (.iconst 0, 1) := by decide +kernel
theorem dX10_print_8 : decode cX10_print 8 = .ok (.istore_n 3, 1) := by decide +kernel
theorem dX10_print_9 : decode cX10_print 9 = .ok (.iload_n 3, 1) := by decide +kernel
theorem dX10_print_10 : decode cX10_print 10 = .ok (.aload_n 0, 1) := by decide +kernel
theorem dX10_print_11 : decode cX10_print 11 = .ok (.getfield 400, 3) := by decide +kernel
theorem dX10_print_14 : decode cX10_print 14 = .ok (.if_icmp .ge 54, 3) := by decide +kernel
theorem dX10_print_68 : decode cX10_print 68 = .ok (.lload_n 1, 1) := by decide +kernel
theorem dX10_print_69 : decode cX10_print 69 = .ok (.lreturn, 1) := by decide +kernel
theorem dX10_status_0 : decode cX10_status 0 = .ok (.aload_n 0, 1) := by decide +kernel
theorem dX10_status_1 : decode cX10_status 1 = .ok (.iconst 0, 1) := by decide +kernel
theorem dX10_status_2 : decode cX10_status 2 = .ok (.putfield 164, 3) := by decide +kernel
theorem dX10_status_5 : decode cX10_status 5 = .ok (.iload_n 1, 1) := by decide +kernel
theorem dX10_status_6 : decode cX10_status 6 = .ok (.iconst 0, 1) := by decide +kernel
theorem dX10_status_7 : decode cX10_status 7 = .ok (.iconst 2, 1) := by decide +kernel
theorem dX10_status_8 : decode cX10_status 8 = .ok (.invokestatic 330, 3) := by decide +kernel
theorem dX10_status_11 : decode cX10_status 11 = .ok (.ifCond .eq 12, 3) := by decide +kernel
theorem dX10_status_14 : decode cX10_status 14 = .ok (.aload_n 0, 1) := by decide +kernel
theorem dX10_status_15 : decode cX10_status 15 = .ok (.getfield 7, 3) := by decide +kernel
theorem dX10_status_18 : decode cX10_status 18 = .ok (.iload_n 1, 1) := by decide +kernel
theorem dX10_status_19 : decode cX10_status 19 = .ok (.iaload, 1) := by decide +kernel
theorem dX10_status_20 : decode cX10_status 20 = .ok (.goto 4, 3) := by decide +kernel
theorem dX10_status_23 : decode cX10_status 23 = .ok (.iconst (-1), 1) := by decide +kernel
theorem dX10_status_24 : decode cX10_status 24 = .ok (.ireturn, 1) := by decide +kernel
set_option maxRecDepth 100000 in
set_option maxHeartbeats 4000000 in
theorem c_within1 (l : Launch) (D : va_G) (Y : Nat → ClassId) (v : Int32) (lo : Int32) (hi : Int32)  (h1 : ¬ v < lo) (h2 : ¬ hi < v) : cM l D Y yX10_within cX10_within 3 (some .boolean) 1 0 0 [.int v, .int lo, .int hi] [] (qI D (fun (r : Int32) (u : Unit) => r = 1) (fun (u : Unit) => [])) := by
  refine cM.mk RX10 rfl (by decide) (Nat.le_of_ble_eq_true rfl) ?_
  intro p e s m below meth c A F hr hlocks hin hK hZ hP hD hA hS ls hl
  have hx := F.1
  have hb := F.2.1
  have hl : lv_has ls 3 [(0, .int v), (1, .int lo), (2, .int hi)] := hl
  refine lv_iload_n hx hb dX10_within_0 rfl (lv_at hl 0 rfl) ?_
  refine lv_iload_n hx hb dX10_within_1 rfl (lv_at hl 1 rfl) ?_
  refine lv_icmp_lt (tgt := 14) hx hb dX10_within_2 (by decide) (fun c9 => absurd c9 (h1)) (fun _ => ?_)
  refine lv_iload_n hx hb dX10_within_5 rfl (lv_at hl 0 rfl) ?_
  refine lv_iload_n hx hb dX10_within_6 rfl (lv_at hl 2 rfl) ?_
  refine lv_icmp_gt (tgt := 14) hx hb dX10_within_7 (by decide) (fun c9 => absurd c9 (h2)) (fun _ => ?_)
  refine lv_iconst (v := 1) hx hb dX10_within_10 (by decide) ?_
  refine lv_goto (tgt := 15) hx hb dX10_within_11 (by decide) ?_
  exact retI F hr hlocks rfl hP hD hS () [] rfl rfl (Nat.le_of_ble_eq_true rfl) (Nat.le_of_ble_eq_true rfl) dX10_within_15 rfl
set_option maxRecDepth 100000 in
set_option maxHeartbeats 4000000 in
theorem c_within0 (l : Launch) (D : va_G) (Y : Nat → ClassId) (v : Int32) (lo : Int32) (hi : Int32)  (h1 : v < lo ∨ hi < v) : cM l D Y yX10_within cX10_within 3 (some .boolean) 1 0 0 [.int v, .int lo, .int hi] [] (qI D (fun (r : Int32) (u : Unit) => r = 0) (fun (u : Unit) => [])) := by
  refine cM.mk RX10 rfl (by decide) (Nat.le_of_ble_eq_true rfl) ?_
  intro p e s m below meth c A F hr hlocks hin hK hZ hP hD hA hS ls hl
  have hx := F.1
  have hb := F.2.1
  have hl : lv_has ls 3 [(0, .int v), (1, .int lo), (2, .int hi)] := hl
  refine lv_iload_n hx hb dX10_within_0 rfl (lv_at hl 0 rfl) ?_
  refine lv_iload_n hx hb dX10_within_1 rfl (lv_at hl 1 rfl) ?_
  refine lv_icmp_lt (tgt := 14) hx hb dX10_within_2 (by decide) (fun c9 => ?_) (fun c9 => ?_)
  · skip
    refine lv_iconst (v := 0) hx hb dX10_within_14 (by decide) ?_
    exact retI F hr hlocks rfl hP hD hS () [] rfl rfl (Nat.le_of_ble_eq_true rfl) (Nat.le_of_ble_eq_true rfl) dX10_within_15 rfl
  · skip
    refine lv_iload_n hx hb dX10_within_5 rfl (lv_at hl 0 rfl) ?_
    refine lv_iload_n hx hb dX10_within_6 rfl (lv_at hl 2 rfl) ?_
    refine lv_icmp_gt (tgt := 14) hx hb dX10_within_7 (by decide) (fun c8 => ?_) (fun c8 => ?_)
    · skip
      refine lv_iconst (v := 0) hx hb dX10_within_14 (by decide) ?_
      exact retI F hr hlocks rfl hP hD hS () [] rfl rfl (Nat.le_of_ble_eq_true rfl) (Nat.le_of_ble_eq_true rfl) dX10_within_15 rfl
    · skip
      exact h1.elim (fun h => absurd h c9) (fun h => absurd h c8)
set_option maxRecDepth 100000 in
set_option maxHeartbeats 4000000 in
theorem c_isF1 (l : Launch) (D : va_G) (Y : Nat → ClassId) (mm : Nat) (cd : Int32) (kd : Int32) (g : Nat → Value) (g_0 : g 0 = .int 0)  : cM l D Y yX10_isFine cX10_isFine 4 (some .boolean) 1 0 0 [.ref mm, .int 1, .int cd, .int kd] [(mm, .inr (9, fl 77 g))] (qI D (fun (r : Int32) (u : Unit) => r = 1) (fun (u : Unit) => [(mm, .inr (9, fl 77 g))])) := by
  refine cM.mk RX10 rfl (by decide) (Nat.le_of_ble_eq_true rfl) ?_
  intro p e s m below meth c A F hr hlocks hin hK hZ hP hD hA hS ls hl
  have hx := F.1
  have hb := F.2.1
  have hl : lv_has ls 4 [(0, .ref mm), (1, .int 1), (2, .int cd), (3, .int kd)] := hl
  refine lv_iload_n hx hb dX10_isFine_0 rfl (lv_at hl 1 rfl) ?_
  refine lv_if_ne (tgt := 26) hx hb dX10_isFine_1 (by decide) (fun _ => ?_) (fun c9 => absurd c9 (by decide))
  refine lv_aload_n hx hb dX10_isFine_26 rfl (lv_at hl 0 rfl) ?_
  refine gF (C := RX10) (T := TX10) (ci := 9) (v := .int 0) F hK hP 0 rfl rfl iwX10 0 (by decide) m_191 (fun _ h => h) g_0 dX10_isFine_27 ?_
  refine lv_if_ne (tgt := 37) hx hb dX10_isFine_30 (by decide) (fun c9 => absurd (by decide) c9) (fun _ => ?_)
  refine lv_iconst (v := 1) hx hb dX10_isFine_33 (by decide) ?_
  refine lv_goto (tgt := 38) hx hb dX10_isFine_34 (by decide) ?_
  exact retI F hr hlocks rfl hP hD hS () [0] rfl rfl (Nat.le_of_ble_eq_true rfl) (Nat.le_of_ble_eq_true rfl) dX10_isFine_38 rfl
set_option maxRecDepth 100000 in
set_option maxHeartbeats 4000000 in
theorem c_isF0_10 (l : Launch) (D : va_G) (Y : Nat → ClassId) (mm : Nat) (rf : Nat) (g : Nat → Value) (f : Nat → Int32) (g_0 : g 0 = .int 0) (g_1 : g 1 = .ref rf)  : cM l D Y yX10_isFine cX10_isFine 4 (some .boolean) 1 0 0 [.ref mm, .int 0, .int 1, .int 0] [(mm, .inr (9, fl 77 g)), (rf, .inl (Y 0, 3, .inl f))] (qI D (fun (r : Int32) (u : (Nat → Value) × (Nat → Int32)) => r = 0 ∧ u.1 0 = .int 1) (fun (u : (Nat → Value) × (Nat → Int32)) => [(mm, .inr (9, fl 77 u.1)), (rf, .inl (Y 0, 3, .inl u.2))])) := by
  refine cM.mk RX10 rfl (by decide) (Nat.le_of_ble_eq_true rfl) ?_
  intro p e s m below meth c A F hr hlocks hin hK hZ hP hD hA hS ls hl
  have hx := F.1
  have hb := F.2.1
  have hl : lv_has ls 4 [(0, .ref mm), (1, .int 0), (2, .int 1), (3, .int 0)] := hl
  refine lv_iload_n hx hb dX10_isFine_0 rfl (lv_at hl 1 rfl) ?_
  refine lv_if_ne (tgt := 26) hx hb dX10_isFine_1 (by decide) (fun c9 => absurd (by decide) c9) (fun _ => ?_)
  refine lv_aload_n hx hb dX10_isFine_4 rfl (lv_at hl 0 rfl) ?_
  refine gF (C := RX10) (T := TX10) (ci := 9) (v := .int 0) F hK hP 0 rfl rfl iwX10 0 (by decide) m_191 (fun _ h => h) g_0 dX10_isFine_5 ?_
  refine lv_if_ne (tgt := 26) hx hb dX10_isFine_8 (by decide) (fun c9 => absurd (by decide) c9) (fun _ => ?_)
  refine lv_aload_n hx hb dX10_isFine_11 rfl (lv_at hl 0 rfl) ?_
  refine lv_iload_n hx hb dX10_isFine_12 rfl (lv_at hl 2 rfl) ?_
  refine pF (C := RX10) (T := TX10) (ci := 9) F hK hP hD hS 0 rfl rfl iwX10 tyX10 tyX10_ok nmX10 0 (by decide) m_191 (fun _ h => h) rfl rfl rfl dX10_isFine_13 (fun H locs hP hD hS => ?_)
  have hP : va_P D vwCl [(mm, .inr (9, fl 77 (va_up g 0 (.int 1)))), (rf, .inl (Y 0, 3, .inl f))] H := hP
  have hD : va_D A [(mm, .inr (9, fl 77 (va_up g 0 (.int 1)))), (rf, .inl (Y 0, 3, .inl f))] := hD
  refine lv_aload_n hx hb dX10_isFine_16 rfl (lv_at hl 0 rfl) ?_
  refine gF (C := RX10) (T := TX10) (ci := 9) (v := .ref rf) F hK hP 0 rfl rfl iwX10 1 (by decide) m_192 (fun _ h => h) g_1 dX10_isFine_17 ?_
  refine lv_iload_n hx hb dX10_isFine_20 rfl (lv_at hl 3 rfl) ?_
  refine lv_dup2_11 hx hb dX10_isFine_21 rfl rfl ?_
  refine va_iald hx hb hK.1 hP 1 0 rfl rfl (by unfold vp_in; decide) dX10_isFine_22 ?_
  refine lv_topi (fun z_1 e_z_1 => ?_)
  refine lv_iconst (v := 1) hx hb dX10_isFine_23 (by decide) ?_
  refine lv_iadd hx hb dX10_isFine_24 ?_
  refine lv_topi (fun z_2 e_z_2 => ?_)
  refine va_iast hx hb hK.1 hP hD hS 1 0 rfl rfl (by unfold vp_in; decide) dX10_isFine_25 (fun H locs hP hD hS => ?_)
  have hP : va_P D vwCl [(mm, .inr (9, fl 77 (va_up g 0 (.int 1)))), (rf, .inl (Y 0, 3, .inl (upd f (0 : Int32).toNatClampNeg z_2)))] H := hP
  have hD : va_D A [(mm, .inr (9, fl 77 (va_up g 0 (.int 1)))), (rf, .inl (Y 0, 3, .inl (upd f (0 : Int32).toNatClampNeg z_2)))] := hD
  generalize (upd f (0 : Int32).toNatClampNeg z_2) = f_3 at hP hD
  refine lv_aload_n hx hb dX10_isFine_26 rfl (lv_at hl 0 rfl) ?_
  refine gF (C := RX10) (T := TX10) (ci := 9) (v := .int 1) F hK hP 0 rfl rfl iwX10 0 (by decide) m_191 (fun _ h => h) rfl dX10_isFine_27 ?_
  refine lv_if_ne (tgt := 37) hx hb dX10_isFine_30 (by decide) (fun _ => ?_) (fun c9 => absurd c9 (by decide))
  refine lv_iconst (v := 0) hx hb dX10_isFine_37 (by decide) ?_
  exact retI F hr hlocks rfl hP hD hS ((va_up g 0 (.int 1)), f_3) [0, 1] rfl rfl (Nat.le_of_ble_eq_true rfl) (Nat.le_of_ble_eq_true rfl) dX10_isFine_38 ⟨rfl, rfl⟩
set_option maxRecDepth 100000 in
set_option maxHeartbeats 4000000 in
theorem c_isF0_11 (l : Launch) (D : va_G) (Y : Nat → ClassId) (mm : Nat) (rf : Nat) (g : Nat → Value) (f : Nat → Int32) (g_0 : g 0 = .int 0) (g_1 : g 1 = .ref rf)  : cM l D Y yX10_isFine cX10_isFine 4 (some .boolean) 1 0 0 [.ref mm, .int 0, .int 1, .int 1] [(mm, .inr (9, fl 77 g)), (rf, .inl (Y 0, 3, .inl f))] (qI D (fun (r : Int32) (u : (Nat → Value) × (Nat → Int32)) => r = 0 ∧ u.1 0 = .int 1) (fun (u : (Nat → Value) × (Nat → Int32)) => [(mm, .inr (9, fl 77 u.1)), (rf, .inl (Y 0, 3, .inl u.2))])) := by
  refine cM.mk RX10 rfl (by decide) (Nat.le_of_ble_eq_true rfl) ?_
  intro p e s m below meth c A F hr hlocks hin hK hZ hP hD hA hS ls hl
  have hx := F.1
  have hb := F.2.1
  have hl : lv_has ls 4 [(0, .ref mm), (1, .int 0), (2, .int 1), (3, .int 1)] := hl
  refine lv_iload_n hx hb dX10_isFine_0 rfl (lv_at hl 1 rfl) ?_
  refine lv_if_ne (tgt := 26) hx hb dX10_isFine_1 (by decide) (fun c9 => absurd (by decide) c9) (fun _ => ?_)
  refine lv_aload_n hx hb dX10_isFine_4 rfl (lv_at hl 0 rfl) ?_
  refine gF (C := RX10) (T := TX10) (ci := 9) (v := .int 0) F hK hP 0 rfl rfl iwX10 0 (by decide) m_191 (fun _ h => h) g_0 dX10_isFine_5 ?_
  refine lv_if_ne (tgt := 26) hx hb dX10_isFine_8 (by decide) (fun c9 => absurd (by decide) c9) (fun _ => ?_)
  refine lv_aload_n hx hb dX10_isFine_11 rfl (lv_at hl 0 rfl) ?_
  refine lv_iload_n hx hb dX10_isFine_12 rfl (lv_at hl 2 rfl) ?_
  refine pF (C := RX10) (T := TX10) (ci := 9) F hK hP hD hS 0 rfl rfl iwX10 tyX10 tyX10_ok nmX10 0 (by decide) m_191 (fun _ h => h) rfl rfl rfl dX10_isFine_13 (fun H locs hP hD hS => ?_)
  have hP : va_P D vwCl [(mm, .inr (9, fl 77 (va_up g 0 (.int 1)))), (rf, .inl (Y 0, 3, .inl f))] H := hP
  have hD : va_D A [(mm, .inr (9, fl 77 (va_up g 0 (.int 1)))), (rf, .inl (Y 0, 3, .inl f))] := hD
  refine lv_aload_n hx hb dX10_isFine_16 rfl (lv_at hl 0 rfl) ?_
  refine gF (C := RX10) (T := TX10) (ci := 9) (v := .ref rf) F hK hP 0 rfl rfl iwX10 1 (by decide) m_192 (fun _ h => h) g_1 dX10_isFine_17 ?_
  refine lv_iload_n hx hb dX10_isFine_20 rfl (lv_at hl 3 rfl) ?_
  refine lv_dup2_11 hx hb dX10_isFine_21 rfl rfl ?_
  refine va_iald hx hb hK.1 hP 1 0 rfl rfl (by unfold vp_in; decide) dX10_isFine_22 ?_
  refine lv_topi (fun z_1 e_z_1 => ?_)
  refine lv_iconst (v := 1) hx hb dX10_isFine_23 (by decide) ?_
  refine lv_iadd hx hb dX10_isFine_24 ?_
  refine lv_topi (fun z_2 e_z_2 => ?_)
  refine va_iast hx hb hK.1 hP hD hS 1 0 rfl rfl (by unfold vp_in; decide) dX10_isFine_25 (fun H locs hP hD hS => ?_)
  have hP : va_P D vwCl [(mm, .inr (9, fl 77 (va_up g 0 (.int 1)))), (rf, .inl (Y 0, 3, .inl (upd f (1 : Int32).toNatClampNeg z_2)))] H := hP
  have hD : va_D A [(mm, .inr (9, fl 77 (va_up g 0 (.int 1)))), (rf, .inl (Y 0, 3, .inl (upd f (1 : Int32).toNatClampNeg z_2)))] := hD
  generalize (upd f (1 : Int32).toNatClampNeg z_2) = f_3 at hP hD
  refine lv_aload_n hx hb dX10_isFine_26 rfl (lv_at hl 0 rfl) ?_
  refine gF (C := RX10) (T := TX10) (ci := 9) (v := .int 1) F hK hP 0 rfl rfl iwX10 0 (by decide) m_191 (fun _ h => h) rfl dX10_isFine_27 ?_
  refine lv_if_ne (tgt := 37) hx hb dX10_isFine_30 (by decide) (fun _ => ?_) (fun c9 => absurd c9 (by decide))
  refine lv_iconst (v := 0) hx hb dX10_isFine_37 (by decide) ?_
  exact retI F hr hlocks rfl hP hD hS ((va_up g 0 (.int 1)), f_3) [0, 1] rfl rfl (Nat.le_of_ble_eq_true rfl) (Nat.le_of_ble_eq_true rfl) dX10_isFine_38 ⟨rfl, rfl⟩
set_option maxRecDepth 100000 in
set_option maxHeartbeats 4000000 in
theorem c_isF0_21 (l : Launch) (D : va_G) (Y : Nat → ClassId) (mm : Nat) (rf : Nat) (g : Nat → Value) (f : Nat → Int32) (g_0 : g 0 = .int 0) (g_1 : g 1 = .ref rf)  : cM l D Y yX10_isFine cX10_isFine 4 (some .boolean) 1 0 0 [.ref mm, .int 0, .int 2, .int 1] [(mm, .inr (9, fl 77 g)), (rf, .inl (Y 0, 3, .inl f))] (qI D (fun (r : Int32) (u : (Nat → Value) × (Nat → Int32)) => r = 0 ∧ u.1 0 = .int 2) (fun (u : (Nat → Value) × (Nat → Int32)) => [(mm, .inr (9, fl 77 u.1)), (rf, .inl (Y 0, 3, .inl u.2))])) := by
  refine cM.mk RX10 rfl (by decide) (Nat.le_of_ble_eq_true rfl) ?_
  intro p e s m below meth c A F hr hlocks hin hK hZ hP hD hA hS ls hl
  have hx := F.1
  have hb := F.2.1
  have hl : lv_has ls 4 [(0, .ref mm), (1, .int 0), (2, .int 2), (3, .int 1)] := hl
  refine lv_iload_n hx hb dX10_isFine_0 rfl (lv_at hl 1 rfl) ?_
  refine lv_if_ne (tgt := 26) hx hb dX10_isFine_1 (by decide) (fun c9 => absurd (by decide) c9) (fun _ => ?_)
  refine lv_aload_n hx hb dX10_isFine_4 rfl (lv_at hl 0 rfl) ?_
  refine gF (C := RX10) (T := TX10) (ci := 9) (v := .int 0) F hK hP 0 rfl rfl iwX10 0 (by decide) m_191 (fun _ h => h) g_0 dX10_isFine_5 ?_
  refine lv_if_ne (tgt := 26) hx hb dX10_isFine_8 (by decide) (fun c9 => absurd (by decide) c9) (fun _ => ?_)
  refine lv_aload_n hx hb dX10_isFine_11 rfl (lv_at hl 0 rfl) ?_
  refine lv_iload_n hx hb dX10_isFine_12 rfl (lv_at hl 2 rfl) ?_
  refine pF (C := RX10) (T := TX10) (ci := 9) F hK hP hD hS 0 rfl rfl iwX10 tyX10 tyX10_ok nmX10 0 (by decide) m_191 (fun _ h => h) rfl rfl rfl dX10_isFine_13 (fun H locs hP hD hS => ?_)
  have hP : va_P D vwCl [(mm, .inr (9, fl 77 (va_up g 0 (.int 2)))), (rf, .inl (Y 0, 3, .inl f))] H := hP
  have hD : va_D A [(mm, .inr (9, fl 77 (va_up g 0 (.int 2)))), (rf, .inl (Y 0, 3, .inl f))] := hD
  refine lv_aload_n hx hb dX10_isFine_16 rfl (lv_at hl 0 rfl) ?_
  refine gF (C := RX10) (T := TX10) (ci := 9) (v := .ref rf) F hK hP 0 rfl rfl iwX10 1 (by decide) m_192 (fun _ h => h) g_1 dX10_isFine_17 ?_
  refine lv_iload_n hx hb dX10_isFine_20 rfl (lv_at hl 3 rfl) ?_
  refine lv_dup2_11 hx hb dX10_isFine_21 rfl rfl ?_
  refine va_iald hx hb hK.1 hP 1 0 rfl rfl (by unfold vp_in; decide) dX10_isFine_22 ?_
  refine lv_topi (fun z_1 e_z_1 => ?_)
  refine lv_iconst (v := 1) hx hb dX10_isFine_23 (by decide) ?_
  refine lv_iadd hx hb dX10_isFine_24 ?_
  refine lv_topi (fun z_2 e_z_2 => ?_)
  refine va_iast hx hb hK.1 hP hD hS 1 0 rfl rfl (by unfold vp_in; decide) dX10_isFine_25 (fun H locs hP hD hS => ?_)
  have hP : va_P D vwCl [(mm, .inr (9, fl 77 (va_up g 0 (.int 2)))), (rf, .inl (Y 0, 3, .inl (upd f (1 : Int32).toNatClampNeg z_2)))] H := hP
  have hD : va_D A [(mm, .inr (9, fl 77 (va_up g 0 (.int 2)))), (rf, .inl (Y 0, 3, .inl (upd f (1 : Int32).toNatClampNeg z_2)))] := hD
  generalize (upd f (1 : Int32).toNatClampNeg z_2) = f_3 at hP hD
  refine lv_aload_n hx hb dX10_isFine_26 rfl (lv_at hl 0 rfl) ?_
  refine gF (C := RX10) (T := TX10) (ci := 9) (v := .int 2) F hK hP 0 rfl rfl iwX10 0 (by decide) m_191 (fun _ h => h) rfl dX10_isFine_27 ?_
  refine lv_if_ne (tgt := 37) hx hb dX10_isFine_30 (by decide) (fun _ => ?_) (fun c9 => absurd c9 (by decide))
  refine lv_iconst (v := 0) hx hb dX10_isFine_37 (by decide) ?_
  exact retI F hr hlocks rfl hP hD hS ((va_up g 0 (.int 2)), f_3) [0, 1] rfl rfl (Nat.le_of_ble_eq_true rfl) (Nat.le_of_ble_eq_true rfl) dX10_isFine_38 ⟨rfl, rfl⟩
set_option maxRecDepth 100000 in
set_option maxHeartbeats 4000000 in
theorem c_thrown (l : Launch) (D : va_G) (Y : Nat → ClassId) (mm : Nat) (k : Int32) (g : Nat → Value) (g_0 : g 0 = .int k)  : cM l D Y yX10_thrown cX10_thrown 1 (some .int) 1 0 0 [.ref mm] [(mm, .inr (9, fl 77 g))] (qI D (fun (r : Int32) (u : Unit) => r = k) (fun (u : Unit) => [])) := by
  refine cM.mk RX10 rfl (by decide) (Nat.le_of_ble_eq_true rfl) ?_
  intro p e s m below meth c A F hr hlocks hin hK hZ hP hD hA hS ls hl
  have hx := F.1
  have hb := F.2.1
  have hl : lv_has ls 1 [(0, .ref mm)] := hl
  refine lv_aload_n hx hb dX10_thrown_0 rfl (lv_at hl 0 rfl) ?_
  refine gF (C := RX10) (T := TX10) (ci := 9) (v := .int k) F hK hP 0 rfl rfl iwX10 0 (by decide) m_191 (fun _ h => h) g_0 dX10_thrown_1 ?_
  exact retI F hr hlocks rfl hP hD hS () [] rfl rfl (Nat.le_of_ble_eq_true rfl) (Nat.le_of_ble_eq_true rfl) dX10_thrown_4 rfl
set_option maxRecDepth 100000 in
set_option maxHeartbeats 4000000 in
theorem c_puts (l : Launch) (D : va_G) (Y : Nat → ClassId) (mm : Nat) (tp : Nat) (t : Nat) (v : Int32) (g : Nat → Value) (f : Nat → Int32) (g_18 : g 18 = .ref tp) (g_20 : g 20 = .int (nI t)) (ht : t + 4 ≤ 400) : cM l D Y yX10_puts cX10_puts 3 none 1 0 0 [.ref mm, .int v] [(mm, .inr (9, fl 77 g)), (tp, .inl (Y 3, 400, .inl f))] (qV D (fun (u : (Nat → Value) × (Nat → Int32)) => u.1 18 = .ref tp ∧ u.1 20 = .int (nI (t + 1 + 1 + 1 + 1))) (fun (u : (Nat → Value) × (Nat → Int32)) => [(mm, .inr (9, fl 77 u.1)), (tp, .inl (Y 3, 400, .inl u.2))])) := by
  refine cM.mk RX10 rfl (by decide) (Nat.le_of_ble_eq_true rfl) ?_
  intro p e s m below meth c A F hr hlocks hin hK hZ hP hD hA hS ls hl
  have hx := F.1
  have hb := F.2.1
  have hl : lv_has ls 3 [(0, .ref mm), (1, .int v)] := hl
  refine lv_bipush (v := 24) hx hb dX10_puts_0 (by decide) ?_
  refine lv_istore_n (lv' := [(2, .int 24), (0, .ref mm), (1, .int v)]) hx hb dX10_puts_2 rfl hl (by decide) rfl (fun ls hl => ?_)
  refine lv_iload_n hx hb dX10_puts_3 rfl (lv_at hl 0 rfl) ?_
  refine lv_if_lt (tgt := 36) hx hb dX10_puts_4 (by decide) (fun c9 => absurd c9 (by decide)) (fun _ => ?_)
  refine lv_aload_n hx hb dX10_puts_7 rfl (lv_at hl 1 rfl) ?_
  refine gF (C := RX10) (T := TX10) (ci := 9) (v := .ref tp) F hK hP 0 rfl rfl iwX10 18 (by decide) m_193 (fun _ h => h) g_18 dX10_puts_8 ?_
  refine lv_aload_n hx hb dX10_puts_11 rfl (lv_at hl 1 rfl) ?_
  refine gF (C := RX10) (T := TX10) (ci := 9) (v := .int (nI t)) F hK hP 0 rfl rfl iwX10 20 (by decide) m_194 (fun _ h => h) g_20 dX10_puts_12 ?_
  refine lv_iload_n hx hb dX10_puts_15 rfl (lv_at hl 2 rfl) ?_
  refine lv_iload_n hx hb dX10_puts_16 rfl (lv_at hl 0 rfl) ?_
  refine lv_ishr hx hb dX10_puts_17 ?_
  refine lv_topi (fun z_1 e_z_1 => ?_)
  refine lv_i2b hx hb dX10_puts_18 rfl ?_
  refine lv_topi (fun z_2 e_z_2 => ?_)
  refine va_bast hx hb hK.1 hP hD hS 1 3 rfl rfl (vp_in_nI (by omega) (by decide)) dX10_puts_19 (fun H locs hP hD hS => ?_)
  have hP : va_P D vwCl [(mm, .inr (9, fl 77 g)), (tp, .inl (Y 3, 400, .inl (upd f (nI t).toNatClampNeg (vp_nar .byte z_2))))] H := hP
  have hD : va_D A [(mm, .inr (9, fl 77 g)), (tp, .inl (Y 3, 400, .inl (upd f (nI t).toNatClampNeg (vp_nar .byte z_2))))] := hD
  generalize (upd f (nI t).toNatClampNeg (vp_nar .byte z_2)) = f_3 at hP hD
  refine lv_aload_n hx hb dX10_puts_20 rfl (lv_at hl 1 rfl) ?_
  refine lv_dup hx hb dX10_puts_21 rfl ?_
  refine gF (C := RX10) (T := TX10) (ci := 9) (v := .int (nI t)) F hK hP 0 rfl rfl iwX10 20 (by decide) m_194 (fun _ h => h) g_20 dX10_puts_22 ?_
  refine lv_iconst (v := 1) hx hb dX10_puts_25 (by decide) ?_
  refine lv_iadd hx hb dX10_puts_26 ?_
  refine lv_toc (v := nI (t + 1)) (nI_1 _) ?_
  refine pF (C := RX10) (T := TX10) (ci := 9) F hK hP hD hS 0 rfl rfl iwX10 tyX10 tyX10_ok nmX10 20 (by decide) m_194 (fun _ h => h) rfl rfl rfl dX10_puts_27 (fun H locs hP hD hS => ?_)
  have hP : va_P D vwCl [(mm, .inr (9, fl 77 (va_up g 20 (.int (nI (t + 1)))))), (tp, .inl (Y 3, 400, .inl f_3))] H := hP
  have hD : va_D A [(mm, .inr (9, fl 77 (va_up g 20 (.int (nI (t + 1)))))), (tp, .inl (Y 3, 400, .inl f_3))] := hD
  refine lv_iinc (v := 16) (lv' := [(2, .int 16), (0, .ref mm), (1, .int v)]) hx hb dX10_puts_30 hl (k := 0) rfl (by decide) (by decide) rfl (fun ls hl => ?_)
  refine lv_goto (tgt := 3) hx hb dX10_puts_33 (by decide) ?_
  refine lv_iload_n hx hb dX10_puts_3 rfl (lv_at hl 0 rfl) ?_
  refine lv_if_lt (tgt := 36) hx hb dX10_puts_4 (by decide) (fun c9 => absurd c9 (by decide)) (fun _ => ?_)
  refine lv_aload_n hx hb dX10_puts_7 rfl (lv_at hl 1 rfl) ?_
  refine gF (C := RX10) (T := TX10) (ci := 9) (v := .ref tp) F hK hP 0 rfl rfl iwX10 18 (by decide) m_193 (fun _ h => h) g_18 dX10_puts_8 ?_
  refine lv_aload_n hx hb dX10_puts_11 rfl (lv_at hl 1 rfl) ?_
  refine gF (C := RX10) (T := TX10) (ci := 9) (v := .int (nI (t + 1))) F hK hP 0 rfl rfl iwX10 20 (by decide) m_194 (fun _ h => h) rfl dX10_puts_12 ?_
  refine lv_iload_n hx hb dX10_puts_15 rfl (lv_at hl 2 rfl) ?_
  refine lv_iload_n hx hb dX10_puts_16 rfl (lv_at hl 0 rfl) ?_
  refine lv_ishr hx hb dX10_puts_17 ?_
  refine lv_topi (fun z_4 e_z_4 => ?_)
  refine lv_i2b hx hb dX10_puts_18 rfl ?_
  refine lv_topi (fun z_5 e_z_5 => ?_)
  refine va_bast hx hb hK.1 hP hD hS 1 3 rfl rfl (vp_in_nI (by omega) (by decide)) dX10_puts_19 (fun H locs hP hD hS => ?_)
  have hP : va_P D vwCl [(mm, .inr (9, fl 77 (va_up g 20 (.int (nI (t + 1)))))), (tp, .inl (Y 3, 400, .inl (upd f_3 (nI (t + 1)).toNatClampNeg (vp_nar .byte z_5))))] H := hP
  have hD : va_D A [(mm, .inr (9, fl 77 (va_up g 20 (.int (nI (t + 1)))))), (tp, .inl (Y 3, 400, .inl (upd f_3 (nI (t + 1)).toNatClampNeg (vp_nar .byte z_5))))] := hD
  generalize (upd f_3 (nI (t + 1)).toNatClampNeg (vp_nar .byte z_5)) = f_6 at hP hD
  refine lv_aload_n hx hb dX10_puts_20 rfl (lv_at hl 1 rfl) ?_
  refine lv_dup hx hb dX10_puts_21 rfl ?_
  refine gF (C := RX10) (T := TX10) (ci := 9) (v := .int (nI (t + 1))) F hK hP 0 rfl rfl iwX10 20 (by decide) m_194 (fun _ h => h) rfl dX10_puts_22 ?_
  refine lv_iconst (v := 1) hx hb dX10_puts_25 (by decide) ?_
  refine lv_iadd hx hb dX10_puts_26 ?_
  refine lv_toc (v := nI (t + 1 + 1)) (nI_1 _) ?_
  refine pF (C := RX10) (T := TX10) (ci := 9) F hK hP hD hS 0 rfl rfl iwX10 tyX10 tyX10_ok nmX10 20 (by decide) m_194 (fun _ h => h) rfl rfl rfl dX10_puts_27 (fun H locs hP hD hS => ?_)
  have hP : va_P D vwCl [(mm, .inr (9, fl 77 (va_up (va_up g 20 (.int (nI (t + 1)))) 20 (.int (nI (t + 1 + 1)))))), (tp, .inl (Y 3, 400, .inl f_6))] H := hP
  have hD : va_D A [(mm, .inr (9, fl 77 (va_up (va_up g 20 (.int (nI (t + 1)))) 20 (.int (nI (t + 1 + 1)))))), (tp, .inl (Y 3, 400, .inl f_6))] := hD
  refine lv_iinc (v := 8) (lv' := [(2, .int 8), (0, .ref mm), (1, .int v)]) hx hb dX10_puts_30 hl (k := 0) rfl (by decide) (by decide) rfl (fun ls hl => ?_)
  refine lv_goto (tgt := 3) hx hb dX10_puts_33 (by decide) ?_
  refine lv_iload_n hx hb dX10_puts_3 rfl (lv_at hl 0 rfl) ?_
  refine lv_if_lt (tgt := 36) hx hb dX10_puts_4 (by decide) (fun c9 => absurd c9 (by decide)) (fun _ => ?_)
  refine lv_aload_n hx hb dX10_puts_7 rfl (lv_at hl 1 rfl) ?_
  refine gF (C := RX10) (T := TX10) (ci := 9) (v := .ref tp) F hK hP 0 rfl rfl iwX10 18 (by decide) m_193 (fun _ h => h) g_18 dX10_puts_8 ?_
  refine lv_aload_n hx hb dX10_puts_11 rfl (lv_at hl 1 rfl) ?_
  refine gF (C := RX10) (T := TX10) (ci := 9) (v := .int (nI (t + 1 + 1))) F hK hP 0 rfl rfl iwX10 20 (by decide) m_194 (fun _ h => h) rfl dX10_puts_12 ?_
  refine lv_iload_n hx hb dX10_puts_15 rfl (lv_at hl 2 rfl) ?_
  refine lv_iload_n hx hb dX10_puts_16 rfl (lv_at hl 0 rfl) ?_
  refine lv_ishr hx hb dX10_puts_17 ?_
  refine lv_topi (fun z_7 e_z_7 => ?_)
  refine lv_i2b hx hb dX10_puts_18 rfl ?_
  refine lv_topi (fun z_8 e_z_8 => ?_)
  refine va_bast hx hb hK.1 hP hD hS 1 3 rfl rfl (vp_in_nI (by omega) (by decide)) dX10_puts_19 (fun H locs hP hD hS => ?_)
  have hP : va_P D vwCl [(mm, .inr (9, fl 77 (va_up (va_up g 20 (.int (nI (t + 1)))) 20 (.int (nI (t + 1 + 1)))))), (tp, .inl (Y 3, 400, .inl (upd f_6 (nI (t + 1 + 1)).toNatClampNeg (vp_nar .byte z_8))))] H := hP
  have hD : va_D A [(mm, .inr (9, fl 77 (va_up (va_up g 20 (.int (nI (t + 1)))) 20 (.int (nI (t + 1 + 1)))))), (tp, .inl (Y 3, 400, .inl (upd f_6 (nI (t + 1 + 1)).toNatClampNeg (vp_nar .byte z_8))))] := hD
  generalize (upd f_6 (nI (t + 1 + 1)).toNatClampNeg (vp_nar .byte z_8)) = f_9 at hP hD
  refine lv_aload_n hx hb dX10_puts_20 rfl (lv_at hl 1 rfl) ?_
  refine lv_dup hx hb dX10_puts_21 rfl ?_
  refine gF (C := RX10) (T := TX10) (ci := 9) (v := .int (nI (t + 1 + 1))) F hK hP 0 rfl rfl iwX10 20 (by decide) m_194 (fun _ h => h) rfl dX10_puts_22 ?_
  refine lv_iconst (v := 1) hx hb dX10_puts_25 (by decide) ?_
  refine lv_iadd hx hb dX10_puts_26 ?_
  refine lv_toc (v := nI (t + 1 + 1 + 1)) (nI_1 _) ?_
  refine pF (C := RX10) (T := TX10) (ci := 9) F hK hP hD hS 0 rfl rfl iwX10 tyX10 tyX10_ok nmX10 20 (by decide) m_194 (fun _ h => h) rfl rfl rfl dX10_puts_27 (fun H locs hP hD hS => ?_)
  have hP : va_P D vwCl [(mm, .inr (9, fl 77 (va_up (va_up (va_up g 20 (.int (nI (t + 1)))) 20 (.int (nI (t + 1 + 1)))) 20 (.int (nI (t + 1 + 1 + 1)))))), (tp, .inl (Y 3, 400, .inl f_9))] H := hP
  have hD : va_D A [(mm, .inr (9, fl 77 (va_up (va_up (va_up g 20 (.int (nI (t + 1)))) 20 (.int (nI (t + 1 + 1)))) 20 (.int (nI (t + 1 + 1 + 1)))))), (tp, .inl (Y 3, 400, .inl f_9))] := hD
  refine lv_iinc (v := 0) (lv' := [(2, .int 0), (0, .ref mm), (1, .int v)]) hx hb dX10_puts_30 hl (k := 0) rfl (by decide) (by decide) rfl (fun ls hl => ?_)
  refine lv_goto (tgt := 3) hx hb dX10_puts_33 (by decide) ?_
  refine lv_iload_n hx hb dX10_puts_3 rfl (lv_at hl 0 rfl) ?_
  refine lv_if_lt (tgt := 36) hx hb dX10_puts_4 (by decide) (fun c9 => absurd c9 (by decide)) (fun _ => ?_)
  refine lv_aload_n hx hb dX10_puts_7 rfl (lv_at hl 1 rfl) ?_
  refine gF (C := RX10) (T := TX10) (ci := 9) (v := .ref tp) F hK hP 0 rfl rfl iwX10 18 (by decide) m_193 (fun _ h => h) g_18 dX10_puts_8 ?_
  refine lv_aload_n hx hb dX10_puts_11 rfl (lv_at hl 1 rfl) ?_
  refine gF (C := RX10) (T := TX10) (ci := 9) (v := .int (nI (t + 1 + 1 + 1))) F hK hP 0 rfl rfl iwX10 20 (by decide) m_194 (fun _ h => h) rfl dX10_puts_12 ?_
  refine lv_iload_n hx hb dX10_puts_15 rfl (lv_at hl 2 rfl) ?_
  refine lv_iload_n hx hb dX10_puts_16 rfl (lv_at hl 0 rfl) ?_
  refine lv_ishr hx hb dX10_puts_17 ?_
  refine lv_topi (fun z_10 e_z_10 => ?_)
  refine lv_i2b hx hb dX10_puts_18 rfl ?_
  refine lv_topi (fun z_11 e_z_11 => ?_)
  refine va_bast hx hb hK.1 hP hD hS 1 3 rfl rfl (vp_in_nI (by omega) (by decide)) dX10_puts_19 (fun H locs hP hD hS => ?_)
  have hP : va_P D vwCl [(mm, .inr (9, fl 77 (va_up (va_up (va_up g 20 (.int (nI (t + 1)))) 20 (.int (nI (t + 1 + 1)))) 20 (.int (nI (t + 1 + 1 + 1)))))), (tp, .inl (Y 3, 400, .inl (upd f_9 (nI (t + 1 + 1 + 1)).toNatClampNeg (vp_nar .byte z_11))))] H := hP
  have hD : va_D A [(mm, .inr (9, fl 77 (va_up (va_up (va_up g 20 (.int (nI (t + 1)))) 20 (.int (nI (t + 1 + 1)))) 20 (.int (nI (t + 1 + 1 + 1)))))), (tp, .inl (Y 3, 400, .inl (upd f_9 (nI (t + 1 + 1 + 1)).toNatClampNeg (vp_nar .byte z_11))))] := hD
  generalize (upd f_9 (nI (t + 1 + 1 + 1)).toNatClampNeg (vp_nar .byte z_11)) = f_12 at hP hD
  refine lv_aload_n hx hb dX10_puts_20 rfl (lv_at hl 1 rfl) ?_
  refine lv_dup hx hb dX10_puts_21 rfl ?_
  refine gF (C := RX10) (T := TX10) (ci := 9) (v := .int (nI (t + 1 + 1 + 1))) F hK hP 0 rfl rfl iwX10 20 (by decide) m_194 (fun _ h => h) rfl dX10_puts_22 ?_
  refine lv_iconst (v := 1) hx hb dX10_puts_25 (by decide) ?_
  refine lv_iadd hx hb dX10_puts_26 ?_
  refine lv_toc (v := nI (t + 1 + 1 + 1 + 1)) (nI_1 _) ?_
  refine pF (C := RX10) (T := TX10) (ci := 9) F hK hP hD hS 0 rfl rfl iwX10 tyX10 tyX10_ok nmX10 20 (by decide) m_194 (fun _ h => h) rfl rfl rfl dX10_puts_27 (fun H locs hP hD hS => ?_)
  have hP : va_P D vwCl [(mm, .inr (9, fl 77 (va_up (va_up (va_up (va_up g 20 (.int (nI (t + 1)))) 20 (.int (nI (t + 1 + 1)))) 20 (.int (nI (t + 1 + 1 + 1)))) 20 (.int (nI (t + 1 + 1 + 1 + 1)))))), (tp, .inl (Y 3, 400, .inl f_12))] H := hP
  have hD : va_D A [(mm, .inr (9, fl 77 (va_up (va_up (va_up (va_up g 20 (.int (nI (t + 1)))) 20 (.int (nI (t + 1 + 1)))) 20 (.int (nI (t + 1 + 1 + 1)))) 20 (.int (nI (t + 1 + 1 + 1 + 1)))))), (tp, .inl (Y 3, 400, .inl f_12))] := hD
  refine lv_iinc (v := (-8)) (lv' := [(2, .int (-8)), (0, .ref mm), (1, .int v)]) hx hb dX10_puts_30 hl (k := 0) rfl (by decide) (by decide) rfl (fun ls hl => ?_)
  refine lv_goto (tgt := 3) hx hb dX10_puts_33 (by decide) ?_
  refine lv_iload_n hx hb dX10_puts_3 rfl (lv_at hl 0 rfl) ?_
  refine lv_if_lt (tgt := 36) hx hb dX10_puts_4 (by decide) (fun _ => ?_) (fun c9 => absurd (by decide) c9)
  exact retV F hr hlocks hP hD hS ((va_up (va_up (va_up (va_up g 20 (.int (nI (t + 1)))) 20 (.int (nI (t + 1 + 1)))) 20 (.int (nI (t + 1 + 1 + 1)))) 20 (.int (nI (t + 1 + 1 + 1 + 1)))), f_12) [0, 1] rfl rfl (Nat.le_of_ble_eq_true rfl) (Nat.le_of_ble_eq_true rfl) dX10_puts_36 ⟨g_18, rfl⟩
set_option maxRecDepth 100000 in
set_option maxHeartbeats 4000000 in
theorem m_feed (l : Launch) (D : va_G) (Y : Nat → ClassId) (mm : Nat) (tp : Nat) (v1 : Int32) (v2 : Int32) (v3 : Int32) (v4 : Int32) (v5 : Int32) (g : Nat → Value) (f : Nat → Int32) (g_18 : g 18 = .ref tp) (g_20 : g 20 = .int 0)  : cM l D Y yX10_feed cX10_feed 6 (some .int) 2 0 0 [.ref mm, .int v1, .int v2, .int v3, .int v4, .int v5] [(mm, .inr (9, fl 77 g)), (tp, .inl (Y 3, 400, .inl f))] (qI D (fun (r : Int32) (u : Unit) => r = 20) (fun (u : Unit) => [])) := by
  refine cM.mk RX10 rfl (by decide) (Nat.le_of_ble_eq_true rfl) ?_
  intro p e s m below meth c A F hr hlocks hin hK hZ hP hD hA hS ls hl
  have hx := F.1
  have hb := F.2.1
  have hl : lv_has ls 6 [(0, .ref mm), (1, .int v1), (2, .int v2), (3, .int v3), (4, .int v4), (5, .int v5)] := hl
  refine lv_aload_n hx hb dX10_feed_0 rfl (lv_at hl 0 rfl) ?_
  refine lv_iconst (v := 0) hx hb dX10_feed_1 (by decide) ?_
  refine pF (C := RX10) (T := TX10) (ci := 9) F hK hP hD hS 0 rfl rfl iwX10 tyX10 tyX10_ok nmX10 0 (by decide) m_191 (fun _ h => h) rfl rfl rfl dX10_feed_2 (fun H locs hP hD hS => ?_)
  have hP : va_P D vwCl [(mm, .inr (9, fl 77 (va_up g 0 (.int 0)))), (tp, .inl (Y 3, 400, .inl f))] H := hP
  have hD : va_D A [(mm, .inr (9, fl 77 (va_up g 0 (.int 0)))), (tp, .inl (Y 3, 400, .inl f))] := hD
  refine lv_aload_n hx hb dX10_feed_5 rfl (lv_at hl 0 rfl) ?_
  refine gF (C := RX10) (T := TX10) (ci := 9) (v := .int 0) F hK hP 0 rfl rfl iwX10 20 (by decide) m_194 (fun _ h => h) g_20 dX10_feed_6 ?_
  refine lv_bipush (v := 20) hx hb dX10_feed_9 (by decide) ?_
  refine lv_iadd hx hb dX10_feed_11 ?_
  refine lv_toc (v := 20) (by decide) ?_
  refine lv_sipush (v := 400) hx hb dX10_feed_12 (by decide) ?_
  refine lv_icmp_le (tgt := 20) hx hb dX10_feed_15 (by decide) (fun _ => ?_) (fun c9 => absurd (by decide) c9)
  refine lv_aload_n hx hb dX10_feed_20 rfl (lv_at hl 0 rfl) ?_
  refine lv_iload_n hx hb dX10_feed_21 rfl (lv_at hl 1 rfl) ?_
  refine goV (wr := []) (runV (n := 1) (As := [.int v1]) (rest := []) (C := RX10) (T := TX10) (N := 77) (ci := 9) F hK hZ hP hD hS hA (c_puts l D Y mm tp 0 v1 (va_up g 0 (.int 0)) f g_18 g_20 (by decide)) 0 rfl rfl [0, 1] rfl rfl m_197 m_198 m_199 m_196 m_195 (by decide +kernel) rfl ⟨Nat.le_of_ble_eq_true rfl, Nat.le_of_ble_eq_true rfl⟩ hl.1 rfl (Nat.le_of_ble_eq_true rfl) dX10_feed_22 ⟨Nat.le_of_ble_eq_true rfl, Nat.le_of_ble_eq_true rfl⟩) hP hD hS hA [0, 1] [] rfl rfl rfl (by decide) (fun u H locs hw hP hD hS => ?_)
  obtain ⟨gn_1, fn_2⟩ := u
  obtain ⟨o_3, o_4⟩ := hw
  have hP : va_P D vwCl [(mm, .inr (9, fl 77 gn_1)), (tp, .inl (Y 3, 400, .inl fn_2))] H := hP
  have hD : va_D A [(mm, .inr (9, fl 77 gn_1)), (tp, .inl (Y 3, 400, .inl fn_2))] := hD
  refine W.widen (k := 0) (n := 0) (Nat.le_of_ble_eq_true rfl) (Nat.le_of_ble_eq_true rfl) ?_
  refine lv_aload_n hx hb dX10_feed_25 rfl (lv_at hl 0 rfl) ?_
  refine lv_iload_n hx hb dX10_feed_26 rfl (lv_at hl 2 rfl) ?_
  refine goV (wr := []) (runV (n := 1) (As := [.int v2]) (rest := []) (C := RX10) (T := TX10) (N := 77) (ci := 9) F hK hZ hP hD hS hA (c_puts l D Y mm tp (0 + 1 + 1 + 1 + 1) v2 gn_1 fn_2 o_3 o_4 (by decide)) 0 rfl rfl [0, 1] rfl rfl m_197 m_198 m_199 m_196 m_195 (by decide +kernel) rfl ⟨Nat.le_of_ble_eq_true rfl, Nat.le_of_ble_eq_true rfl⟩ hl.1 rfl (Nat.le_of_ble_eq_true rfl) dX10_feed_27 ⟨Nat.le_of_ble_eq_true rfl, Nat.le_of_ble_eq_true rfl⟩) hP hD hS hA [0, 1] [] rfl rfl rfl (by decide) (fun u H locs hw hP hD hS => ?_)
  obtain ⟨gn_6, fn_7⟩ := u
  obtain ⟨o_8, o_9⟩ := hw
  have hP : va_P D vwCl [(mm, .inr (9, fl 77 gn_6)), (tp, .inl (Y 3, 400, .inl fn_7))] H := hP
  have hD : va_D A [(mm, .inr (9, fl 77 gn_6)), (tp, .inl (Y 3, 400, .inl fn_7))] := hD
  refine W.widen (k := 0) (n := 0) (Nat.le_of_ble_eq_true rfl) (Nat.le_of_ble_eq_true rfl) ?_
  refine lv_aload_n hx hb dX10_feed_30 rfl (lv_at hl 0 rfl) ?_
  refine lv_iload_n hx hb dX10_feed_31 rfl (lv_at hl 3 rfl) ?_
  refine goV (wr := []) (runV (n := 1) (As := [.int v3]) (rest := []) (C := RX10) (T := TX10) (N := 77) (ci := 9) F hK hZ hP hD hS hA (c_puts l D Y mm tp ((0 + 1 + 1 + 1 + 1) + 1 + 1 + 1 + 1) v3 gn_6 fn_7 o_8 o_9 (by decide)) 0 rfl rfl [0, 1] rfl rfl m_197 m_198 m_199 m_196 m_195 (by decide +kernel) rfl ⟨Nat.le_of_ble_eq_true rfl, Nat.le_of_ble_eq_true rfl⟩ hl.1 rfl (Nat.le_of_ble_eq_true rfl) dX10_feed_32 ⟨Nat.le_of_ble_eq_true rfl, Nat.le_of_ble_eq_true rfl⟩) hP hD hS hA [0, 1] [] rfl rfl rfl (by decide) (fun u H locs hw hP hD hS => ?_)
  obtain ⟨gn_11, fn_12⟩ := u
  obtain ⟨o_13, o_14⟩ := hw
  have hP : va_P D vwCl [(mm, .inr (9, fl 77 gn_11)), (tp, .inl (Y 3, 400, .inl fn_12))] H := hP
  have hD : va_D A [(mm, .inr (9, fl 77 gn_11)), (tp, .inl (Y 3, 400, .inl fn_12))] := hD
  refine W.widen (k := 0) (n := 0) (Nat.le_of_ble_eq_true rfl) (Nat.le_of_ble_eq_true rfl) ?_
  refine lv_aload_n hx hb dX10_feed_35 rfl (lv_at hl 0 rfl) ?_
  refine lv_iload hx hb dX10_feed_36 (lv_at hl 4 rfl) ?_
  refine goV (wr := []) (runV (n := 1) (As := [.int v4]) (rest := []) (C := RX10) (T := TX10) (N := 77) (ci := 9) F hK hZ hP hD hS hA (c_puts l D Y mm tp (((0 + 1 + 1 + 1 + 1) + 1 + 1 + 1 + 1) + 1 + 1 + 1 + 1) v4 gn_11 fn_12 o_13 o_14 (by decide)) 0 rfl rfl [0, 1] rfl rfl m_197 m_198 m_199 m_196 m_195 (by decide +kernel) rfl ⟨Nat.le_of_ble_eq_true rfl, Nat.le_of_ble_eq_true rfl⟩ hl.1 rfl (Nat.le_of_ble_eq_true rfl) dX10_feed_38 ⟨Nat.le_of_ble_eq_true rfl, Nat.le_of_ble_eq_true rfl⟩) hP hD hS hA [0, 1] [] rfl rfl rfl (by decide) (fun u H locs hw hP hD hS => ?_)
  obtain ⟨gn_16, fn_17⟩ := u
  obtain ⟨o_18, o_19⟩ := hw
  have hP : va_P D vwCl [(mm, .inr (9, fl 77 gn_16)), (tp, .inl (Y 3, 400, .inl fn_17))] H := hP
  have hD : va_D A [(mm, .inr (9, fl 77 gn_16)), (tp, .inl (Y 3, 400, .inl fn_17))] := hD
  refine W.widen (k := 0) (n := 0) (Nat.le_of_ble_eq_true rfl) (Nat.le_of_ble_eq_true rfl) ?_
  refine lv_aload_n hx hb dX10_feed_41 rfl (lv_at hl 0 rfl) ?_
  refine lv_iload hx hb dX10_feed_42 (lv_at hl 5 rfl) ?_
  refine goV (wr := []) (runV (n := 1) (As := [.int v5]) (rest := []) (C := RX10) (T := TX10) (N := 77) (ci := 9) F hK hZ hP hD hS hA (c_puts l D Y mm tp ((((0 + 1 + 1 + 1 + 1) + 1 + 1 + 1 + 1) + 1 + 1 + 1 + 1) + 1 + 1 + 1 + 1) v5 gn_16 fn_17 o_18 o_19 (by decide)) 0 rfl rfl [0, 1] rfl rfl m_197 m_198 m_199 m_196 m_195 (by decide +kernel) rfl ⟨Nat.le_of_ble_eq_true rfl, Nat.le_of_ble_eq_true rfl⟩ hl.1 rfl (Nat.le_of_ble_eq_true rfl) dX10_feed_44 ⟨Nat.le_of_ble_eq_true rfl, Nat.le_of_ble_eq_true rfl⟩) hP hD hS hA [0, 1] [] rfl rfl rfl (by decide) (fun u H locs hw hP hD hS => ?_)
  obtain ⟨gn_21, fn_22⟩ := u
  obtain ⟨o_23, o_24⟩ := hw
  have hP : va_P D vwCl [(mm, .inr (9, fl 77 gn_21)), (tp, .inl (Y 3, 400, .inl fn_22))] H := hP
  have hD : va_D A [(mm, .inr (9, fl 77 gn_21)), (tp, .inl (Y 3, 400, .inl fn_22))] := hD
  refine W.widen (k := 0) (n := 0) (Nat.le_of_ble_eq_true rfl) (Nat.le_of_ble_eq_true rfl) ?_
  refine lv_aload_n hx hb dX10_feed_47 rfl (lv_at hl 0 rfl) ?_
  refine gF (C := RX10) (T := TX10) (ci := 9) (v := .int (nI (((((0 + 1 + 1 + 1 + 1) + 1 + 1 + 1 + 1) + 1 + 1 + 1 + 1) + 1 + 1 + 1 + 1) + 1 + 1 + 1 + 1))) F hK hP 0 rfl rfl iwX10 20 (by decide) m_194 (fun _ h => h) o_24 dX10_feed_48 ?_
  exact retI F hr hlocks rfl hP hD hS () [] rfl rfl (Nat.le_of_ble_eq_true rfl) (Nat.le_of_ble_eq_true rfl) dX10_feed_51 rfl
set_option maxRecDepth 100000 in
set_option maxHeartbeats 4000000 in
theorem m_fault (l : Launch) (D : va_G) (Y : Nat → ClassId) (mm : Nat) (g : Nat → Value) (g_26 : g 26 = .int (-1))  : cM l D Y yX10_fault cX10_fault 1 (some .int) 1 0 0 [.ref mm] [(mm, .inr (9, fl 77 g))] (qI D (fun (r : Int32) (u : Unit) => r = (-1)) (fun (u : Unit) => [])) := by
  refine cM.mk RX10 rfl (by decide) (Nat.le_of_ble_eq_true rfl) ?_
  intro p e s m below meth c A F hr hlocks hin hK hZ hP hD hA hS ls hl
  have hx := F.1
  have hb := F.2.1
  have hl : lv_has ls 1 [(0, .ref mm)] := hl
  refine lv_aload_n hx hb dX10_fault_0 rfl (lv_at hl 0 rfl) ?_
  refine lv_iconst (v := 0) hx hb dX10_fault_1 (by decide) ?_
  refine pF (C := RX10) (T := TX10) (ci := 9) F hK hP hD hS 0 rfl rfl iwX10 tyX10 tyX10_ok nmX10 0 (by decide) m_191 (fun _ h => h) rfl rfl rfl dX10_fault_2 (fun H locs hP hD hS => ?_)
  have hP : va_P D vwCl [(mm, .inr (9, fl 77 (va_up g 0 (.int 0))))] H := hP
  have hD : va_D A [(mm, .inr (9, fl 77 (va_up g 0 (.int 0))))] := hD
  refine lv_aload_n hx hb dX10_fault_5 rfl (lv_at hl 0 rfl) ?_
  refine gF (C := RX10) (T := TX10) (ci := 9) (v := .int (-1)) F hK hP 0 rfl rfl iwX10 26 (by decide) m_200 (fun _ h => h) g_26 dX10_fault_6 ?_
  exact retI F hr hlocks rfl hP hD hS () [] rfl rfl (Nat.le_of_ble_eq_true rfl) (Nat.le_of_ble_eq_true rfl) dX10_fault_9 rfl
set_option maxRecDepth 100000 in
set_option maxHeartbeats 4000000 in
theorem m_isG0 (l : Launch) (D : va_G) (Y : Nat → ClassId) (mm : Nat) (rf : Nat) (j1 : Int32) (j2 : Int32) (j3 : Int32) (g : Nat → Value) (f : Nat → Int32) (g_0 : g 0 = .int 0) (g_1 : g 1 = .ref rf) (g_2 : g 2 = .int 0)  : cM l D Y yX10_isGiven cX10_isGiven 8 (some .boolean) 2 0 0 [.ref mm, .int j1, .int j2, .int j3, .int 0, .int 2] [(mm, .inr (9, fl 77 g)), (rf, .inl (Y 0, 3, .inl f))] (qI D (fun (r : Int32) (u : Nat → Value) => r = 0 ∧ u 0 = .int 1) (fun (u : Nat → Value) => [(mm, .inr (9, fl 77 u))])) := by
  refine cM.mk RX10 rfl (by decide) (Nat.le_of_ble_eq_true rfl) ?_
  intro p e s m below meth c A F hr hlocks hin hK hZ hP hD hA hS ls hl
  have hx := F.1
  have hb := F.2.1
  have hl : lv_has ls 8 [(0, .ref mm), (1, .int j1), (2, .int j2), (3, .int j3), (4, .int 0), (5, .int 2)] := hl
  refine lv_iload_n hx hb dX10_isGiven_0 rfl (lv_at hl 1 rfl) ?_
  refine lv_iconst (v := 0) hx hb dX10_isGiven_1 (by decide) ?_
  refine lv_aload_n hx hb dX10_isGiven_2 rfl (lv_at hl 0 rfl) ?_
  refine gF (C := RX10) (T := TX10) (ci := 9) (v := .int 0) F hK hP 0 rfl rfl iwX10 2 (by decide) m_201 (fun _ h => h) g_2 dX10_isGiven_3 ?_
  refine lv_iconst (v := 1) hx hb dX10_isGiven_6 (by decide) ?_
  refine lv_isub hx hb dX10_isGiven_7 ?_
  refine lv_toc (v := (-1)) (by decide) ?_
  refine goI (wr := [(mm, .inr (9, fl 77 g)), (rf, .inl (Y 0, 3, .inl f))]) (runS (n := 3) (As := [.int j1, .int 0, .int (-1)]) (rest := []) F hK hZ hP hD hS hA (c_within0 l D Y j1 0 (-1)  (no_in j1)) [] rfl rfl m_203 m_204 m_196 m_202 (by decide +kernel) rfl ⟨Nat.le_of_ble_eq_true rfl, Nat.le_of_ble_eq_true rfl⟩ hl.1 rfl (Nat.le_of_ble_eq_true rfl) dX10_isGiven_8 ⟨Nat.le_of_ble_eq_true rfl, Nat.le_of_ble_eq_true rfl⟩) hP hD hS hA [] [0, 1] rfl rfl rfl (by decide) (fun r_1 u H locs hw hP hD hS => ?_)
  have hrr := hw
  have hP : va_P D vwCl [(mm, .inr (9, fl 77 g)), (rf, .inl (Y 0, 3, .inl f))] H := hP
  have hD : va_D A [(mm, .inr (9, fl 77 g)), (rf, .inl (Y 0, 3, .inl f))] := hD
  subst hrr
  refine W.widen (k := 0) (n := 0) (Nat.le_of_ble_eq_true rfl) (Nat.le_of_ble_eq_true rfl) ?_
  refine lv_if_eq (tgt := 42) hx hb dX10_isGiven_11 (by decide) (fun _ => ?_) (fun c9 => absurd (by decide) c9)
  refine lv_iconst (v := 0) hx hb dX10_isGiven_42 (by decide) ?_
  refine lv_istore (lv' := [(6, .int 0), (0, .ref mm), (1, .int j1), (2, .int j2), (3, .int j3), (4, .int 0), (5, .int 2)]) hx hb dX10_isGiven_43 hl (by decide) rfl (fun ls hl => ?_)
  refine lv_aload_n hx hb dX10_isGiven_45 rfl (lv_at hl 1 rfl) ?_
  refine lv_iload hx hb dX10_isGiven_46 (lv_at hl 0 rfl) ?_
  refine lv_iconst (v := 1) hx hb dX10_isGiven_48 (by decide) ?_
  refine lv_iconst (v := 0) hx hb dX10_isGiven_49 (by decide) ?_
  refine goI (wr := []) (runV (n := 3) (As := [.int 0, .int 1, .int 0]) (rest := []) (C := RX10) (T := TX10) (N := 77) (ci := 9) F hK hZ hP hD hS hA (c_isF0_10 l D Y mm rf g f g_0 g_1 ) 0 rfl rfl [0, 1] rfl rfl m_206 m_207 m_208 m_196 m_205 (by decide +kernel) rfl ⟨Nat.le_of_ble_eq_true rfl, Nat.le_of_ble_eq_true rfl⟩ hl.1 rfl (Nat.le_of_ble_eq_true rfl) dX10_isGiven_50 ⟨Nat.le_of_ble_eq_true rfl, Nat.le_of_ble_eq_true rfl⟩) hP hD hS hA [0, 1] [] rfl rfl rfl (by decide) (fun r_5 u H locs hw hP hD hS => ?_)
  obtain ⟨gn_2, fn_3⟩ := u
  obtain ⟨hrr, o_4⟩ := hw
  have hP : va_P D vwCl [(mm, .inr (9, fl 77 gn_2)), (rf, .inl (Y 0, 3, .inl fn_3))] H := hP
  have hD : va_D A [(mm, .inr (9, fl 77 gn_2)), (rf, .inl (Y 0, 3, .inl fn_3))] := hD
  subst hrr
  refine W.widen (k := 0) (n := 0) (Nat.le_of_ble_eq_true rfl) (Nat.le_of_ble_eq_true rfl) ?_
  refine lv_if_ne (tgt := 58) hx hb dX10_isGiven_53 (by decide) (fun c9 => absurd (by decide) c9) (fun _ => ?_)
  refine lv_iconst (v := 0) hx hb dX10_isGiven_56 (by decide) ?_
  exact retI F hr hlocks rfl hP hD hS gn_2 [0] rfl rfl (Nat.le_of_ble_eq_true rfl) (Nat.le_of_ble_eq_true rfl) dX10_isGiven_57 ⟨rfl, o_4⟩
set_option maxRecDepth 100000 in
set_option maxHeartbeats 4000000 in
theorem m_isG1 (l : Launch) (D : va_G) (Y : Nat → ClassId) (mm : Nat) (rf : Nat) (j1 : Int32) (j2 : Int32) (j3 : Int32) (g : Nat → Value) (f : Nat → Int32) (g_0 : g 0 = .int 0) (g_1 : g 1 = .ref rf) (g_2 : g 2 = .int 0)  : cM l D Y yX10_isGiven cX10_isGiven 8 (some .boolean) 2 0 0 [.ref mm, .int j1, .int j2, .int j3, .int 1, .int 2] [(mm, .inr (9, fl 77 g)), (rf, .inl (Y 0, 3, .inl f))] (qI D (fun (r : Int32) (u : Nat → Value) => r = 0 ∧ u 0 = .int 1) (fun (u : Nat → Value) => [(mm, .inr (9, fl 77 u))])) := by
  refine cM.mk RX10 rfl (by decide) (Nat.le_of_ble_eq_true rfl) ?_
  intro p e s m below meth c A F hr hlocks hin hK hZ hP hD hA hS ls hl
  have hx := F.1
  have hb := F.2.1
  have hl : lv_has ls 8 [(0, .ref mm), (1, .int j1), (2, .int j2), (3, .int j3), (4, .int 1), (5, .int 2)] := hl
  refine lv_iload_n hx hb dX10_isGiven_0 rfl (lv_at hl 1 rfl) ?_
  refine lv_iconst (v := 0) hx hb dX10_isGiven_1 (by decide) ?_
  refine lv_aload_n hx hb dX10_isGiven_2 rfl (lv_at hl 0 rfl) ?_
  refine gF (C := RX10) (T := TX10) (ci := 9) (v := .int 0) F hK hP 0 rfl rfl iwX10 2 (by decide) m_201 (fun _ h => h) g_2 dX10_isGiven_3 ?_
  refine lv_iconst (v := 1) hx hb dX10_isGiven_6 (by decide) ?_
  refine lv_isub hx hb dX10_isGiven_7 ?_
  refine lv_toc (v := (-1)) (by decide) ?_
  refine goI (wr := [(mm, .inr (9, fl 77 g)), (rf, .inl (Y 0, 3, .inl f))]) (runS (n := 3) (As := [.int j1, .int 0, .int (-1)]) (rest := []) F hK hZ hP hD hS hA (c_within0 l D Y j1 0 (-1)  (no_in j1)) [] rfl rfl m_203 m_204 m_196 m_202 (by decide +kernel) rfl ⟨Nat.le_of_ble_eq_true rfl, Nat.le_of_ble_eq_true rfl⟩ hl.1 rfl (Nat.le_of_ble_eq_true rfl) dX10_isGiven_8 ⟨Nat.le_of_ble_eq_true rfl, Nat.le_of_ble_eq_true rfl⟩) hP hD hS hA [] [0, 1] rfl rfl rfl (by decide) (fun r_1 u H locs hw hP hD hS => ?_)
  have hrr := hw
  have hP : va_P D vwCl [(mm, .inr (9, fl 77 g)), (rf, .inl (Y 0, 3, .inl f))] H := hP
  have hD : va_D A [(mm, .inr (9, fl 77 g)), (rf, .inl (Y 0, 3, .inl f))] := hD
  subst hrr
  refine W.widen (k := 0) (n := 0) (Nat.le_of_ble_eq_true rfl) (Nat.le_of_ble_eq_true rfl) ?_
  refine lv_if_eq (tgt := 42) hx hb dX10_isGiven_11 (by decide) (fun _ => ?_) (fun c9 => absurd (by decide) c9)
  refine lv_iconst (v := 0) hx hb dX10_isGiven_42 (by decide) ?_
  refine lv_istore (lv' := [(6, .int 0), (0, .ref mm), (1, .int j1), (2, .int j2), (3, .int j3), (4, .int 1), (5, .int 2)]) hx hb dX10_isGiven_43 hl (by decide) rfl (fun ls hl => ?_)
  refine lv_aload_n hx hb dX10_isGiven_45 rfl (lv_at hl 1 rfl) ?_
  refine lv_iload hx hb dX10_isGiven_46 (lv_at hl 0 rfl) ?_
  refine lv_iconst (v := 1) hx hb dX10_isGiven_48 (by decide) ?_
  refine lv_iconst (v := 0) hx hb dX10_isGiven_49 (by decide) ?_
  refine goI (wr := []) (runV (n := 3) (As := [.int 0, .int 1, .int 0]) (rest := []) (C := RX10) (T := TX10) (N := 77) (ci := 9) F hK hZ hP hD hS hA (c_isF0_10 l D Y mm rf g f g_0 g_1 ) 0 rfl rfl [0, 1] rfl rfl m_206 m_207 m_208 m_196 m_205 (by decide +kernel) rfl ⟨Nat.le_of_ble_eq_true rfl, Nat.le_of_ble_eq_true rfl⟩ hl.1 rfl (Nat.le_of_ble_eq_true rfl) dX10_isGiven_50 ⟨Nat.le_of_ble_eq_true rfl, Nat.le_of_ble_eq_true rfl⟩) hP hD hS hA [0, 1] [] rfl rfl rfl (by decide) (fun r_5 u H locs hw hP hD hS => ?_)
  obtain ⟨gn_2, fn_3⟩ := u
  obtain ⟨hrr, o_4⟩ := hw
  have hP : va_P D vwCl [(mm, .inr (9, fl 77 gn_2)), (rf, .inl (Y 0, 3, .inl fn_3))] H := hP
  have hD : va_D A [(mm, .inr (9, fl 77 gn_2)), (rf, .inl (Y 0, 3, .inl fn_3))] := hD
  subst hrr
  refine W.widen (k := 0) (n := 0) (Nat.le_of_ble_eq_true rfl) (Nat.le_of_ble_eq_true rfl) ?_
  refine lv_if_ne (tgt := 58) hx hb dX10_isGiven_53 (by decide) (fun c9 => absurd (by decide) c9) (fun _ => ?_)
  refine lv_iconst (v := 0) hx hb dX10_isGiven_56 (by decide) ?_
  exact retI F hr hlocks rfl hP hD hS gn_2 [0] rfl rfl (Nat.le_of_ble_eq_true rfl) (Nat.le_of_ble_eq_true rfl) dX10_isGiven_57 ⟨rfl, o_4⟩
set_option maxRecDepth 100000 in
set_option maxHeartbeats 4000000 in
theorem m_assume (l : Launch) (D : va_G) (Y : Nat → ClassId) (mm : Nat) (rf : Nat) (j1 : Int32) (j2 : Int32) (j3 : Int32) (g : Nat → Value) (f : Nat → Int32) (g_1 : g 1 = .ref rf) (g_2 : g 2 = .int 0)  : cM l D Y yX10_assume cX10_assume 5 (some .int) 3 0 0 [.ref mm, .int j1, .int j2, .int j3] [(mm, .inr (9, fl 77 g)), (rf, .inl (Y 0, 3, .inl f))] (qI D (fun (r : Int32) (u : Nat → Value) => r = 0 ∧ u 0 = .int 1) (fun (u : Nat → Value) => [(mm, .inr (9, fl 77 u))])) := by
  refine cM.mk RX10 rfl (by decide) (Nat.le_of_ble_eq_true rfl) ?_
  intro p e s m below meth c A F hr hlocks hin hK hZ hP hD hA hS ls hl
  have hx := F.1
  have hb := F.2.1
  have hl : lv_has ls 5 [(0, .ref mm), (1, .int j1), (2, .int j2), (3, .int j3)] := hl
  refine lv_aload_n hx hb dX10_assume_0 rfl (lv_at hl 0 rfl) ?_
  refine lv_iconst (v := 0) hx hb dX10_assume_1 (by decide) ?_
  refine pF (C := RX10) (T := TX10) (ci := 9) F hK hP hD hS 0 rfl rfl iwX10 tyX10 tyX10_ok nmX10 0 (by decide) m_191 (fun _ h => h) rfl rfl rfl dX10_assume_2 (fun H locs hP hD hS => ?_)
  have hP : va_P D vwCl [(mm, .inr (9, fl 77 (va_up g 0 (.int 0)))), (rf, .inl (Y 0, 3, .inl f))] H := hP
  have hD : va_D A [(mm, .inr (9, fl 77 (va_up g 0 (.int 0)))), (rf, .inl (Y 0, 3, .inl f))] := hD
  refine lv_aload_n hx hb dX10_assume_5 rfl (lv_at hl 0 rfl) ?_
  refine lv_iload_n hx hb dX10_assume_6 rfl (lv_at hl 1 rfl) ?_
  refine lv_iload_n hx hb dX10_assume_7 rfl (lv_at hl 2 rfl) ?_
  refine lv_iload_n hx hb dX10_assume_8 rfl (lv_at hl 3 rfl) ?_
  refine lv_iconst (v := 0) hx hb dX10_assume_9 (by decide) ?_
  refine lv_iconst (v := 2) hx hb dX10_assume_10 (by decide) ?_
  refine goI (wr := []) (runV (n := 5) (As := [.int j1, .int j2, .int j3, .int 0, .int 2]) (rest := []) (C := RX10) (T := TX10) (N := 77) (ci := 9) F hK hZ hP hD hS hA (m_isG0 l D Y mm rf j1 j2 j3 (va_up g 0 (.int 0)) f rfl g_1 g_2 ) 0 rfl rfl [0, 1] rfl rfl m_210 m_211 m_212 m_196 m_209 (by decide +kernel) rfl ⟨Nat.le_of_ble_eq_true rfl, Nat.le_of_ble_eq_true rfl⟩ hl.1 rfl (Nat.le_of_ble_eq_true rfl) dX10_assume_11 ⟨Nat.le_of_ble_eq_true rfl, Nat.le_of_ble_eq_true rfl⟩) hP hD hS hA [0, 1] [] rfl rfl rfl (by decide) (fun r_3 gn_1 H locs hw hP hD hS => ?_)
  obtain ⟨hrr, o_2⟩ := hw
  have hP : va_P D vwCl [(mm, .inr (9, fl 77 gn_1))] H := hP
  have hD : va_D A [(mm, .inr (9, fl 77 gn_1))] := hD
  subst hrr
  refine W.widen (k := 0) (n := 0) (Nat.le_of_ble_eq_true rfl) (Nat.le_of_ble_eq_true rfl) ?_
  refine lv_if_ne (tgt := 19) hx hb dX10_assume_14 (by decide) (fun c9 => absurd (by decide) c9) (fun _ => ?_)
  refine lv_iconst (v := 0) hx hb dX10_assume_17 (by decide) ?_
  exact retI F hr hlocks rfl hP hD hS gn_1 [0] rfl rfl (Nat.le_of_ble_eq_true rfl) (Nat.le_of_ble_eq_true rfl) dX10_assume_18 ⟨rfl, o_2⟩
set_option maxRecDepth 100000 in
set_option maxHeartbeats 4000000 in
theorem m_retract (l : Launch) (D : va_G) (Y : Nat → ClassId) (mm : Nat) (rf : Nat) (j1 : Int32) (j2 : Int32) (j3 : Int32) (g : Nat → Value) (f : Nat → Int32) (g_1 : g 1 = .ref rf) (g_2 : g 2 = .int 0)  : cM l D Y yX10_retract cX10_retract 6 (some .int) 3 0 0 [.ref mm, .int j1, .int j2, .int j3] [(mm, .inr (9, fl 77 g)), (rf, .inl (Y 0, 3, .inl f))] (qI D (fun (r : Int32) (u : Nat → Value) => r = 0 ∧ u 0 = .int 1) (fun (u : Nat → Value) => [(mm, .inr (9, fl 77 u))])) := by
  refine cM.mk RX10 rfl (by decide) (Nat.le_of_ble_eq_true rfl) ?_
  intro p e s m below meth c A F hr hlocks hin hK hZ hP hD hA hS ls hl
  have hx := F.1
  have hb := F.2.1
  have hl : lv_has ls 6 [(0, .ref mm), (1, .int j1), (2, .int j2), (3, .int j3)] := hl
  refine lv_aload_n hx hb dX10_retract_0 rfl (lv_at hl 0 rfl) ?_
  refine lv_iconst (v := 0) hx hb dX10_retract_1 (by decide) ?_
  refine pF (C := RX10) (T := TX10) (ci := 9) F hK hP hD hS 0 rfl rfl iwX10 tyX10 tyX10_ok nmX10 0 (by decide) m_191 (fun _ h => h) rfl rfl rfl dX10_retract_2 (fun H locs hP hD hS => ?_)
  have hP : va_P D vwCl [(mm, .inr (9, fl 77 (va_up g 0 (.int 0)))), (rf, .inl (Y 0, 3, .inl f))] H := hP
  have hD : va_D A [(mm, .inr (9, fl 77 (va_up g 0 (.int 0)))), (rf, .inl (Y 0, 3, .inl f))] := hD
  refine lv_aload_n hx hb dX10_retract_5 rfl (lv_at hl 0 rfl) ?_
  refine lv_iload_n hx hb dX10_retract_6 rfl (lv_at hl 1 rfl) ?_
  refine lv_iload_n hx hb dX10_retract_7 rfl (lv_at hl 2 rfl) ?_
  refine lv_iload_n hx hb dX10_retract_8 rfl (lv_at hl 3 rfl) ?_
  refine lv_iconst (v := 0) hx hb dX10_retract_9 (by decide) ?_
  refine lv_iconst (v := 2) hx hb dX10_retract_10 (by decide) ?_
  refine goI (wr := []) (runV (n := 5) (As := [.int j1, .int j2, .int j3, .int 0, .int 2]) (rest := []) (C := RX10) (T := TX10) (N := 77) (ci := 9) F hK hZ hP hD hS hA (m_isG0 l D Y mm rf j1 j2 j3 (va_up g 0 (.int 0)) f rfl g_1 g_2 ) 0 rfl rfl [0, 1] rfl rfl m_210 m_211 m_212 m_196 m_209 (by decide +kernel) rfl ⟨Nat.le_of_ble_eq_true rfl, Nat.le_of_ble_eq_true rfl⟩ hl.1 rfl (Nat.le_of_ble_eq_true rfl) dX10_retract_11 ⟨Nat.le_of_ble_eq_true rfl, Nat.le_of_ble_eq_true rfl⟩) hP hD hS hA [0, 1] [] rfl rfl rfl (by decide) (fun r_3 gn_1 H locs hw hP hD hS => ?_)
  obtain ⟨hrr, o_2⟩ := hw
  have hP : va_P D vwCl [(mm, .inr (9, fl 77 gn_1))] H := hP
  have hD : va_D A [(mm, .inr (9, fl 77 gn_1))] := hD
  subst hrr
  refine W.widen (k := 0) (n := 0) (Nat.le_of_ble_eq_true rfl) (Nat.le_of_ble_eq_true rfl) ?_
  refine lv_if_ne (tgt := 19) hx hb dX10_retract_14 (by decide) (fun c9 => absurd (by decide) c9) (fun _ => ?_)
  refine lv_iconst (v := 0) hx hb dX10_retract_17 (by decide) ?_
  exact retI F hr hlocks rfl hP hD hS gn_1 [0] rfl rfl (Nat.le_of_ble_eq_true rfl) (Nat.le_of_ble_eq_true rfl) dX10_retract_18 ⟨rfl, o_2⟩
set_option maxRecDepth 100000 in
set_option maxHeartbeats 4000000 in
theorem m_ask (l : Launch) (D : va_G) (Y : Nat → ClassId) (mm : Nat) (rf : Nat) (j1 : Int32) (j2 : Int32) (j3 : Int32) (g : Nat → Value) (f : Nat → Int32) (g_1 : g 1 = .ref rf) (g_2 : g 2 = .int 0)  : cM l D Y yX10_ask cX10_ask 5 (some .int) 3 0 0 [.ref mm, .int j1, .int j2, .int j3] [(mm, .inr (9, fl 77 g)), (rf, .inl (Y 0, 3, .inl f))] (qI D (fun (r : Int32) (u : Nat → Value) => r = 0 ∧ u 0 = .int 1) (fun (u : Nat → Value) => [(mm, .inr (9, fl 77 u))])) := by
  refine cM.mk RX10 rfl (by decide) (Nat.le_of_ble_eq_true rfl) ?_
  intro p e s m below meth c A F hr hlocks hin hK hZ hP hD hA hS ls hl
  have hx := F.1
  have hb := F.2.1
  have hl : lv_has ls 5 [(0, .ref mm), (1, .int j1), (2, .int j2), (3, .int j3)] := hl
  refine lv_aload_n hx hb dX10_ask_0 rfl (lv_at hl 0 rfl) ?_
  refine lv_iconst (v := 0) hx hb dX10_ask_1 (by decide) ?_
  refine pF (C := RX10) (T := TX10) (ci := 9) F hK hP hD hS 0 rfl rfl iwX10 tyX10 tyX10_ok nmX10 0 (by decide) m_191 (fun _ h => h) rfl rfl rfl dX10_ask_2 (fun H locs hP hD hS => ?_)
  have hP : va_P D vwCl [(mm, .inr (9, fl 77 (va_up g 0 (.int 0)))), (rf, .inl (Y 0, 3, .inl f))] H := hP
  have hD : va_D A [(mm, .inr (9, fl 77 (va_up g 0 (.int 0)))), (rf, .inl (Y 0, 3, .inl f))] := hD
  refine lv_aload_n hx hb dX10_ask_5 rfl (lv_at hl 0 rfl) ?_
  refine lv_iload_n hx hb dX10_ask_6 rfl (lv_at hl 1 rfl) ?_
  refine lv_iload_n hx hb dX10_ask_7 rfl (lv_at hl 2 rfl) ?_
  refine lv_iload_n hx hb dX10_ask_8 rfl (lv_at hl 3 rfl) ?_
  refine lv_iconst (v := 1) hx hb dX10_ask_9 (by decide) ?_
  refine lv_iconst (v := 2) hx hb dX10_ask_10 (by decide) ?_
  refine goI (wr := []) (runV (n := 5) (As := [.int j1, .int j2, .int j3, .int 1, .int 2]) (rest := []) (C := RX10) (T := TX10) (N := 77) (ci := 9) F hK hZ hP hD hS hA (m_isG1 l D Y mm rf j1 j2 j3 (va_up g 0 (.int 0)) f rfl g_1 g_2 ) 0 rfl rfl [0, 1] rfl rfl m_210 m_211 m_212 m_196 m_209 (by decide +kernel) rfl ⟨Nat.le_of_ble_eq_true rfl, Nat.le_of_ble_eq_true rfl⟩ hl.1 rfl (Nat.le_of_ble_eq_true rfl) dX10_ask_11 ⟨Nat.le_of_ble_eq_true rfl, Nat.le_of_ble_eq_true rfl⟩) hP hD hS hA [0, 1] [] rfl rfl rfl (by decide) (fun r_3 gn_1 H locs hw hP hD hS => ?_)
  obtain ⟨hrr, o_2⟩ := hw
  have hP : va_P D vwCl [(mm, .inr (9, fl 77 gn_1))] H := hP
  have hD : va_D A [(mm, .inr (9, fl 77 gn_1))] := hD
  subst hrr
  refine W.widen (k := 0) (n := 0) (Nat.le_of_ble_eq_true rfl) (Nat.le_of_ble_eq_true rfl) ?_
  refine lv_if_ne (tgt := 19) hx hb dX10_ask_14 (by decide) (fun c9 => absurd (by decide) c9) (fun _ => ?_)
  refine lv_iconst (v := 0) hx hb dX10_ask_17 (by decide) ?_
  exact retI F hr hlocks rfl hP hD hS gn_1 [0] rfl rfl (Nat.le_of_ble_eq_true rfl) (Nat.le_of_ble_eq_true rfl) dX10_ask_18 ⟨rfl, o_2⟩
set_option maxRecDepth 100000 in
set_option maxHeartbeats 4000000 in
theorem m_value (l : Launch) (D : va_G) (Y : Nat → ClassId) (mm : Nat) (rf : Nat) (j1 : Int32) (j2 : Int32) (j3 : Int32) (g : Nat → Value) (f : Nat → Int32) (g_1 : g 1 = .ref rf) (g_2 : g 2 = .int 0)  : cM l D Y yX10_value cX10_value 4 (some .int) 3 0 0 [.ref mm, .int j1, .int j2, .int j3] [(mm, .inr (9, fl 77 g)), (rf, .inl (Y 0, 3, .inl f))] (qI D (fun (r : Int32) (u : Nat → Value) => r = 0 ∧ u 0 = .int 1) (fun (u : Nat → Value) => [(mm, .inr (9, fl 77 u))])) := by
  refine cM.mk RX10 rfl (by decide) (Nat.le_of_ble_eq_true rfl) ?_
  intro p e s m below meth c A F hr hlocks hin hK hZ hP hD hA hS ls hl
  have hx := F.1
  have hb := F.2.1
  have hl : lv_has ls 4 [(0, .ref mm), (1, .int j1), (2, .int j2), (3, .int j3)] := hl
  refine lv_aload_n hx hb dX10_value_0 rfl (lv_at hl 0 rfl) ?_
  refine lv_iconst (v := 0) hx hb dX10_value_1 (by decide) ?_
  refine pF (C := RX10) (T := TX10) (ci := 9) F hK hP hD hS 0 rfl rfl iwX10 tyX10 tyX10_ok nmX10 0 (by decide) m_191 (fun _ h => h) rfl rfl rfl dX10_value_2 (fun H locs hP hD hS => ?_)
  have hP : va_P D vwCl [(mm, .inr (9, fl 77 (va_up g 0 (.int 0)))), (rf, .inl (Y 0, 3, .inl f))] H := hP
  have hD : va_D A [(mm, .inr (9, fl 77 (va_up g 0 (.int 0)))), (rf, .inl (Y 0, 3, .inl f))] := hD
  refine lv_aload_n hx hb dX10_value_5 rfl (lv_at hl 0 rfl) ?_
  refine lv_iload_n hx hb dX10_value_6 rfl (lv_at hl 1 rfl) ?_
  refine lv_iload_n hx hb dX10_value_7 rfl (lv_at hl 2 rfl) ?_
  refine lv_iload_n hx hb dX10_value_8 rfl (lv_at hl 3 rfl) ?_
  refine lv_iconst (v := 0) hx hb dX10_value_9 (by decide) ?_
  refine lv_iconst (v := 2) hx hb dX10_value_10 (by decide) ?_
  refine goI (wr := []) (runV (n := 5) (As := [.int j1, .int j2, .int j3, .int 0, .int 2]) (rest := []) (C := RX10) (T := TX10) (N := 77) (ci := 9) F hK hZ hP hD hS hA (m_isG0 l D Y mm rf j1 j2 j3 (va_up g 0 (.int 0)) f rfl g_1 g_2 ) 0 rfl rfl [0, 1] rfl rfl m_210 m_211 m_212 m_196 m_209 (by decide +kernel) rfl ⟨Nat.le_of_ble_eq_true rfl, Nat.le_of_ble_eq_true rfl⟩ hl.1 rfl (Nat.le_of_ble_eq_true rfl) dX10_value_11 ⟨Nat.le_of_ble_eq_true rfl, Nat.le_of_ble_eq_true rfl⟩) hP hD hS hA [0, 1] [] rfl rfl rfl (by decide) (fun r_3 gn_1 H locs hw hP hD hS => ?_)
  obtain ⟨hrr, o_2⟩ := hw
  have hP : va_P D vwCl [(mm, .inr (9, fl 77 gn_1))] H := hP
  have hD : va_D A [(mm, .inr (9, fl 77 gn_1))] := hD
  subst hrr
  refine W.widen (k := 0) (n := 0) (Nat.le_of_ble_eq_true rfl) (Nat.le_of_ble_eq_true rfl) ?_
  refine lv_if_ne (tgt := 19) hx hb dX10_value_14 (by decide) (fun c9 => absurd (by decide) c9) (fun _ => ?_)
  refine lv_iconst (v := 0) hx hb dX10_value_17 (by decide) ?_
  exact retI F hr hlocks rfl hP hD hS gn_1 [0] rfl rfl (Nat.le_of_ble_eq_true rfl) (Nat.le_of_ble_eq_true rfl) dX10_value_18 ⟨rfl, o_2⟩
set_option maxRecDepth 100000 in
set_option maxHeartbeats 4000000 in
theorem m_stage (l : Launch) (D : va_G) (Y : Nat → ClassId) (mm : Nat) (rf : Nat) (j1 : Int32) (j2 : Int32) (j3 : Int32) (g : Nat → Value) (f : Nat → Int32) (g_1 : g 1 = .ref rf) (g_2 : g 2 = .int 0)  : cM l D Y yX10_stage cX10_stage 6 (some .int) 3 0 0 [.ref mm, .int j1, .int j2, .int j3] [(mm, .inr (9, fl 77 g)), (rf, .inl (Y 0, 3, .inl f))] (qI D (fun (r : Int32) (u : Nat → Value) => r = 0 ∧ u 0 = .int 1) (fun (u : Nat → Value) => [(mm, .inr (9, fl 77 u))])) := by
  refine cM.mk RX10 rfl (by decide) (Nat.le_of_ble_eq_true rfl) ?_
  intro p e s m below meth c A F hr hlocks hin hK hZ hP hD hA hS ls hl
  have hx := F.1
  have hb := F.2.1
  have hl : lv_has ls 6 [(0, .ref mm), (1, .int j1), (2, .int j2), (3, .int j3)] := hl
  refine lv_aload_n hx hb dX10_stage_0 rfl (lv_at hl 0 rfl) ?_
  refine lv_iconst (v := 0) hx hb dX10_stage_1 (by decide) ?_
  refine pF (C := RX10) (T := TX10) (ci := 9) F hK hP hD hS 0 rfl rfl iwX10 tyX10 tyX10_ok nmX10 0 (by decide) m_191 (fun _ h => h) rfl rfl rfl dX10_stage_2 (fun H locs hP hD hS => ?_)
  have hP : va_P D vwCl [(mm, .inr (9, fl 77 (va_up g 0 (.int 0)))), (rf, .inl (Y 0, 3, .inl f))] H := hP
  have hD : va_D A [(mm, .inr (9, fl 77 (va_up g 0 (.int 0)))), (rf, .inl (Y 0, 3, .inl f))] := hD
  refine lv_aload_n hx hb dX10_stage_5 rfl (lv_at hl 0 rfl) ?_
  refine lv_iload_n hx hb dX10_stage_6 rfl (lv_at hl 1 rfl) ?_
  refine lv_iload_n hx hb dX10_stage_7 rfl (lv_at hl 2 rfl) ?_
  refine lv_iload_n hx hb dX10_stage_8 rfl (lv_at hl 3 rfl) ?_
  refine lv_iconst (v := 0) hx hb dX10_stage_9 (by decide) ?_
  refine lv_iconst (v := 2) hx hb dX10_stage_10 (by decide) ?_
  refine goI (wr := []) (runV (n := 5) (As := [.int j1, .int j2, .int j3, .int 0, .int 2]) (rest := []) (C := RX10) (T := TX10) (N := 77) (ci := 9) F hK hZ hP hD hS hA (m_isG0 l D Y mm rf j1 j2 j3 (va_up g 0 (.int 0)) f rfl g_1 g_2 ) 0 rfl rfl [0, 1] rfl rfl m_210 m_211 m_212 m_196 m_209 (by decide +kernel) rfl ⟨Nat.le_of_ble_eq_true rfl, Nat.le_of_ble_eq_true rfl⟩ hl.1 rfl (Nat.le_of_ble_eq_true rfl) dX10_stage_11 ⟨Nat.le_of_ble_eq_true rfl, Nat.le_of_ble_eq_true rfl⟩) hP hD hS hA [0, 1] [] rfl rfl rfl (by decide) (fun r_3 gn_1 H locs hw hP hD hS => ?_)
  obtain ⟨hrr, o_2⟩ := hw
  have hP : va_P D vwCl [(mm, .inr (9, fl 77 gn_1))] H := hP
  have hD : va_D A [(mm, .inr (9, fl 77 gn_1))] := hD
  subst hrr
  refine W.widen (k := 0) (n := 0) (Nat.le_of_ble_eq_true rfl) (Nat.le_of_ble_eq_true rfl) ?_
  refine lv_if_ne (tgt := 19) hx hb dX10_stage_14 (by decide) (fun c9 => absurd (by decide) c9) (fun _ => ?_)
  refine lv_iconst (v := 0) hx hb dX10_stage_17 (by decide) ?_
  exact retI F hr hlocks rfl hP hD hS gn_1 [0] rfl rfl (Nat.le_of_ble_eq_true rfl) (Nat.le_of_ble_eq_true rfl) dX10_stage_18 ⟨rfl, o_2⟩
set_option maxRecDepth 100000 in
set_option maxHeartbeats 4000000 in
theorem m_find (l : Launch) (D : va_G) (Y : Nat → ClassId) (mm : Nat) (rf : Nat) (j1 : Int32) (j2 : Int32) (j3 : Int32) (g : Nat → Value) (f : Nat → Int32) (g_1 : g 1 = .ref rf) (g_2 : g 2 = .int 0)  : cM l D Y yX10_find cX10_find 4 (some .int) 3 0 0 [.ref mm, .int j1, .int j2, .int j3] [(mm, .inr (9, fl 77 g)), (rf, .inl (Y 0, 3, .inl f))] (qI D (fun (r : Int32) (u : Nat → Value) => r = 0 ∧ u 0 = .int 1) (fun (u : Nat → Value) => [(mm, .inr (9, fl 77 u))])) := by
  refine cM.mk RX10 rfl (by decide) (Nat.le_of_ble_eq_true rfl) ?_
  intro p e s m below meth c A F hr hlocks hin hK hZ hP hD hA hS ls hl
  have hx := F.1
  have hb := F.2.1
  have hl : lv_has ls 4 [(0, .ref mm), (1, .int j1), (2, .int j2), (3, .int j3)] := hl
  refine lv_aload_n hx hb dX10_find_0 rfl (lv_at hl 0 rfl) ?_
  refine lv_iconst (v := 0) hx hb dX10_find_1 (by decide) ?_
  refine pF (C := RX10) (T := TX10) (ci := 9) F hK hP hD hS 0 rfl rfl iwX10 tyX10 tyX10_ok nmX10 0 (by decide) m_191 (fun _ h => h) rfl rfl rfl dX10_find_2 (fun H locs hP hD hS => ?_)
  have hP : va_P D vwCl [(mm, .inr (9, fl 77 (va_up g 0 (.int 0)))), (rf, .inl (Y 0, 3, .inl f))] H := hP
  have hD : va_D A [(mm, .inr (9, fl 77 (va_up g 0 (.int 0)))), (rf, .inl (Y 0, 3, .inl f))] := hD
  refine lv_aload_n hx hb dX10_find_5 rfl (lv_at hl 0 rfl) ?_
  refine lv_iload_n hx hb dX10_find_6 rfl (lv_at hl 1 rfl) ?_
  refine lv_iload_n hx hb dX10_find_7 rfl (lv_at hl 2 rfl) ?_
  refine lv_iload_n hx hb dX10_find_8 rfl (lv_at hl 3 rfl) ?_
  refine lv_iconst (v := 1) hx hb dX10_find_9 (by decide) ?_
  refine lv_iconst (v := 2) hx hb dX10_find_10 (by decide) ?_
  refine goI (wr := []) (runV (n := 5) (As := [.int j1, .int j2, .int j3, .int 1, .int 2]) (rest := []) (C := RX10) (T := TX10) (N := 77) (ci := 9) F hK hZ hP hD hS hA (m_isG1 l D Y mm rf j1 j2 j3 (va_up g 0 (.int 0)) f rfl g_1 g_2 ) 0 rfl rfl [0, 1] rfl rfl m_210 m_211 m_212 m_196 m_209 (by decide +kernel) rfl ⟨Nat.le_of_ble_eq_true rfl, Nat.le_of_ble_eq_true rfl⟩ hl.1 rfl (Nat.le_of_ble_eq_true rfl) dX10_find_11 ⟨Nat.le_of_ble_eq_true rfl, Nat.le_of_ble_eq_true rfl⟩) hP hD hS hA [0, 1] [] rfl rfl rfl (by decide) (fun r_3 gn_1 H locs hw hP hD hS => ?_)
  obtain ⟨hrr, o_2⟩ := hw
  have hP : va_P D vwCl [(mm, .inr (9, fl 77 gn_1))] H := hP
  have hD : va_D A [(mm, .inr (9, fl 77 gn_1))] := hD
  subst hrr
  refine W.widen (k := 0) (n := 0) (Nat.le_of_ble_eq_true rfl) (Nat.le_of_ble_eq_true rfl) ?_
  refine lv_if_eq (tgt := 31) hx hb dX10_find_14 (by decide) (fun _ => ?_) (fun c9 => absurd (by decide) c9)
  refine lv_iconst (v := 0) hx hb dX10_find_31 (by decide) ?_
  exact retI F hr hlocks rfl hP hD hS gn_1 [0] rfl rfl (Nat.le_of_ble_eq_true rfl) (Nat.le_of_ble_eq_true rfl) dX10_find_32 ⟨rfl, o_2⟩
set_option maxRecDepth 100000 in
set_option maxHeartbeats 4000000 in
theorem m_reach (l : Launch) (D : va_G) (Y : Nat → ClassId) (mm : Nat) (rf : Nat) (j1 : Int32) (j2 : Int32) (j3 : Int32) (g : Nat → Value) (f : Nat → Int32) (g_1 : g 1 = .ref rf) (g_2 : g 2 = .int 0)  : cM l D Y yX10_reach cX10_reach 7 (some .int) 3 0 0 [.ref mm, .int j1, .int j2, .int j3] [(mm, .inr (9, fl 77 g)), (rf, .inl (Y 0, 3, .inl f))] (qI D (fun (r : Int32) (u : Nat → Value) => r = 0 ∧ u 0 = .int 1) (fun (u : Nat → Value) => [(mm, .inr (9, fl 77 u))])) := by
  refine cM.mk RX10 rfl (by decide) (Nat.le_of_ble_eq_true rfl) ?_
  intro p e s m below meth c A F hr hlocks hin hK hZ hP hD hA hS ls hl
  have hx := F.1
  have hb := F.2.1
  have hl : lv_has ls 7 [(0, .ref mm), (1, .int j1), (2, .int j2), (3, .int j3)] := hl
  refine lv_aload_n hx hb dX10_reach_0 rfl (lv_at hl 0 rfl) ?_
  refine lv_iconst (v := 0) hx hb dX10_reach_1 (by decide) ?_
  refine pF (C := RX10) (T := TX10) (ci := 9) F hK hP hD hS 0 rfl rfl iwX10 tyX10 tyX10_ok nmX10 0 (by decide) m_191 (fun _ h => h) rfl rfl rfl dX10_reach_2 (fun H locs hP hD hS => ?_)
  have hP : va_P D vwCl [(mm, .inr (9, fl 77 (va_up g 0 (.int 0)))), (rf, .inl (Y 0, 3, .inl f))] H := hP
  have hD : va_D A [(mm, .inr (9, fl 77 (va_up g 0 (.int 0)))), (rf, .inl (Y 0, 3, .inl f))] := hD
  refine lv_aload_n hx hb dX10_reach_5 rfl (lv_at hl 0 rfl) ?_
  refine lv_iload_n hx hb dX10_reach_6 rfl (lv_at hl 1 rfl) ?_
  refine lv_iload_n hx hb dX10_reach_7 rfl (lv_at hl 2 rfl) ?_
  refine lv_iload_n hx hb dX10_reach_8 rfl (lv_at hl 3 rfl) ?_
  refine lv_iconst (v := 1) hx hb dX10_reach_9 (by decide) ?_
  refine lv_iconst (v := 2) hx hb dX10_reach_10 (by decide) ?_
  refine goI (wr := []) (runV (n := 5) (As := [.int j1, .int j2, .int j3, .int 1, .int 2]) (rest := []) (C := RX10) (T := TX10) (N := 77) (ci := 9) F hK hZ hP hD hS hA (m_isG1 l D Y mm rf j1 j2 j3 (va_up g 0 (.int 0)) f rfl g_1 g_2 ) 0 rfl rfl [0, 1] rfl rfl m_210 m_211 m_212 m_196 m_209 (by decide +kernel) rfl ⟨Nat.le_of_ble_eq_true rfl, Nat.le_of_ble_eq_true rfl⟩ hl.1 rfl (Nat.le_of_ble_eq_true rfl) dX10_reach_11 ⟨Nat.le_of_ble_eq_true rfl, Nat.le_of_ble_eq_true rfl⟩) hP hD hS hA [0, 1] [] rfl rfl rfl (by decide) (fun r_3 gn_1 H locs hw hP hD hS => ?_)
  obtain ⟨hrr, o_2⟩ := hw
  have hP : va_P D vwCl [(mm, .inr (9, fl 77 gn_1))] H := hP
  have hD : va_D A [(mm, .inr (9, fl 77 gn_1))] := hD
  subst hrr
  refine W.widen (k := 0) (n := 0) (Nat.le_of_ble_eq_true rfl) (Nat.le_of_ble_eq_true rfl) ?_
  refine lv_if_ne (tgt := 19) hx hb dX10_reach_14 (by decide) (fun c9 => absurd (by decide) c9) (fun _ => ?_)
  refine lv_iconst (v := 0) hx hb dX10_reach_17 (by decide) ?_
  exact retI F hr hlocks rfl hP hD hS gn_1 [0] rfl rfl (Nat.le_of_ble_eq_true rfl) (Nat.le_of_ble_eq_true rfl) dX10_reach_18 ⟨rfl, o_2⟩
set_option maxRecDepth 100000 in
set_option maxHeartbeats 4000000 in
theorem m_condition (l : Launch) (D : va_G) (Y : Nat → ClassId) (mm : Nat) (rf : Nat) (j1 : Int32) (j2 : Int32) (j3 : Int32) (j4 : Int32) (j5 : Int32) (g : Nat → Value) (f : Nat → Int32) (g_1 : g 1 = .ref rf) (g_2 : g 2 = .int 0)  : cM l D Y yX10_condition cX10_condition 7 (some .int) 3 0 0 [.ref mm, .int j1, .int j2, .int j3, .int j4, .int j5] [(mm, .inr (9, fl 77 g)), (rf, .inl (Y 0, 3, .inl f))] (qI D (fun (r : Int32) (u : Nat → Value) => r = 0 ∧ u 0 = .int 1) (fun (u : Nat → Value) => [(mm, .inr (9, fl 77 u))])) := by
  refine cM.mk RX10 rfl (by decide) (Nat.le_of_ble_eq_true rfl) ?_
  intro p e s m below meth c A F hr hlocks hin hK hZ hP hD hA hS ls hl
  have hx := F.1
  have hb := F.2.1
  have hl : lv_has ls 7 [(0, .ref mm), (1, .int j1), (2, .int j2), (3, .int j3), (4, .int j4), (5, .int j5)] := hl
  refine lv_aload_n hx hb dX10_condition_0 rfl (lv_at hl 0 rfl) ?_
  refine lv_iconst (v := 0) hx hb dX10_condition_1 (by decide) ?_
  refine pF (C := RX10) (T := TX10) (ci := 9) F hK hP hD hS 0 rfl rfl iwX10 tyX10 tyX10_ok nmX10 0 (by decide) m_191 (fun _ h => h) rfl rfl rfl dX10_condition_2 (fun H locs hP hD hS => ?_)
  have hP : va_P D vwCl [(mm, .inr (9, fl 77 (va_up g 0 (.int 0)))), (rf, .inl (Y 0, 3, .inl f))] H := hP
  have hD : va_D A [(mm, .inr (9, fl 77 (va_up g 0 (.int 0)))), (rf, .inl (Y 0, 3, .inl f))] := hD
  refine lv_aload_n hx hb dX10_condition_5 rfl (lv_at hl 0 rfl) ?_
  refine lv_iload_n hx hb dX10_condition_6 rfl (lv_at hl 1 rfl) ?_
  refine lv_iload_n hx hb dX10_condition_7 rfl (lv_at hl 2 rfl) ?_
  refine lv_iload_n hx hb dX10_condition_8 rfl (lv_at hl 3 rfl) ?_
  refine lv_iconst (v := 0) hx hb dX10_condition_9 (by decide) ?_
  refine lv_iconst (v := 2) hx hb dX10_condition_10 (by decide) ?_
  refine goI (wr := []) (runV (n := 5) (As := [.int j1, .int j2, .int j3, .int 0, .int 2]) (rest := []) (C := RX10) (T := TX10) (N := 77) (ci := 9) F hK hZ hP hD hS hA (m_isG0 l D Y mm rf j1 j2 j3 (va_up g 0 (.int 0)) f rfl g_1 g_2 ) 0 rfl rfl [0, 1] rfl rfl m_210 m_211 m_212 m_196 m_209 (by decide +kernel) rfl ⟨Nat.le_of_ble_eq_true rfl, Nat.le_of_ble_eq_true rfl⟩ hl.1 rfl (Nat.le_of_ble_eq_true rfl) dX10_condition_11 ⟨Nat.le_of_ble_eq_true rfl, Nat.le_of_ble_eq_true rfl⟩) hP hD hS hA [0, 1] [] rfl rfl rfl (by decide) (fun r_3 gn_1 H locs hw hP hD hS => ?_)
  obtain ⟨hrr, o_2⟩ := hw
  have hP : va_P D vwCl [(mm, .inr (9, fl 77 gn_1))] H := hP
  have hD : va_D A [(mm, .inr (9, fl 77 gn_1))] := hD
  subst hrr
  refine W.widen (k := 0) (n := 0) (Nat.le_of_ble_eq_true rfl) (Nat.le_of_ble_eq_true rfl) ?_
  refine lv_if_ne (tgt := 19) hx hb dX10_condition_14 (by decide) (fun c9 => absurd (by decide) c9) (fun _ => ?_)
  refine lv_iconst (v := 0) hx hb dX10_condition_17 (by decide) ?_
  exact retI F hr hlocks rfl hP hD hS gn_1 [0] rfl rfl (Nat.le_of_ble_eq_true rfl) (Nat.le_of_ble_eq_true rfl) dX10_condition_18 ⟨rfl, o_2⟩
set_option maxRecDepth 100000 in
set_option maxHeartbeats 4000000 in
theorem m_predicate (l : Launch) (D : va_G) (Y : Nat → ClassId) (mm : Nat) (rf : Nat) (j1 : Int32) (j2 : Int32) (g : Nat → Value) (f : Nat → Int32) (g_1 : g 1 = .ref rf) (g_2 : g 2 = .int 0)  : cM l D Y yX10_predicate cX10_predicate 3 (some .int) 2 0 0 [.ref mm, .int j1, .int j2] [(mm, .inr (9, fl 77 g)), (rf, .inl (Y 0, 3, .inl f))] (qI D (fun (r : Int32) (u : Nat → Value) => r = 0 ∧ u 0 = .int 1) (fun (u : Nat → Value) => [(mm, .inr (9, fl 77 u))])) := by
  refine cM.mk RX10 rfl (by decide) (Nat.le_of_ble_eq_true rfl) ?_
  intro p e s m below meth c A F hr hlocks hin hK hZ hP hD hA hS ls hl
  have hx := F.1
  have hb := F.2.1
  have hl : lv_has ls 3 [(0, .ref mm), (1, .int j1), (2, .int j2)] := hl
  refine lv_aload_n hx hb dX10_predicate_0 rfl (lv_at hl 0 rfl) ?_
  refine lv_iconst (v := 0) hx hb dX10_predicate_1 (by decide) ?_
  refine pF (C := RX10) (T := TX10) (ci := 9) F hK hP hD hS 0 rfl rfl iwX10 tyX10 tyX10_ok nmX10 0 (by decide) m_191 (fun _ h => h) rfl rfl rfl dX10_predicate_2 (fun H locs hP hD hS => ?_)
  have hP : va_P D vwCl [(mm, .inr (9, fl 77 (va_up g 0 (.int 0)))), (rf, .inl (Y 0, 3, .inl f))] H := hP
  have hD : va_D A [(mm, .inr (9, fl 77 (va_up g 0 (.int 0)))), (rf, .inl (Y 0, 3, .inl f))] := hD
  refine lv_aload_n hx hb dX10_predicate_5 rfl (lv_at hl 0 rfl) ?_
  refine lv_iload_n hx hb dX10_predicate_6 rfl (lv_at hl 1 rfl) ?_
  refine lv_iconst (v := 0) hx hb dX10_predicate_7 (by decide) ?_
  refine lv_aload_n hx hb dX10_predicate_8 rfl (lv_at hl 0 rfl) ?_
  refine gF (C := RX10) (T := TX10) (ci := 9) (v := .int 0) F hK hP 0 rfl rfl iwX10 2 (by decide) m_201 (fun _ h => h) g_2 dX10_predicate_9 ?_
  refine lv_iconst (v := 1) hx hb dX10_predicate_12 (by decide) ?_
  refine lv_isub hx hb dX10_predicate_13 ?_
  refine lv_toc (v := (-1)) (by decide) ?_
  refine goI (wr := [(mm, .inr (9, fl 77 (va_up g 0 (.int 0)))), (rf, .inl (Y 0, 3, .inl f))]) (runS (n := 3) (As := [.int j1, .int 0, .int (-1)]) (rest := [.ref mm]) F hK hZ hP hD hS hA (c_within0 l D Y j1 0 (-1)  (no_in j1)) [] rfl rfl m_203 m_204 m_196 m_202 (by decide +kernel) rfl ⟨Nat.le_of_ble_eq_true rfl, Nat.le_of_ble_eq_true rfl⟩ hl.1 rfl (Nat.le_of_ble_eq_true rfl) dX10_predicate_14 ⟨Nat.le_of_ble_eq_true rfl, Nat.le_of_ble_eq_true rfl⟩) hP hD hS hA [] [0, 1] rfl rfl rfl (by decide) (fun r_1 u H locs hw hP hD hS => ?_)
  have hrr := hw
  have hP : va_P D vwCl [(mm, .inr (9, fl 77 (va_up g 0 (.int 0)))), (rf, .inl (Y 0, 3, .inl f))] H := hP
  have hD : va_D A [(mm, .inr (9, fl 77 (va_up g 0 (.int 0)))), (rf, .inl (Y 0, 3, .inl f))] := hD
  subst hrr
  refine W.widen (k := 0) (n := 0) (Nat.le_of_ble_eq_true rfl) (Nat.le_of_ble_eq_true rfl) ?_
  refine lv_iconst (v := 1) hx hb dX10_predicate_17 (by decide) ?_
  refine lv_iconst (v := 0) hx hb dX10_predicate_18 (by decide) ?_
  refine goI (wr := []) (runV (n := 3) (As := [.int 0, .int 1, .int 0]) (rest := []) (C := RX10) (T := TX10) (N := 77) (ci := 9) F hK hZ hP hD hS hA (c_isF0_10 l D Y mm rf (va_up g 0 (.int 0)) f rfl g_1 ) 0 rfl rfl [0, 1] rfl rfl m_206 m_207 m_208 m_196 m_205 (by decide +kernel) rfl ⟨Nat.le_of_ble_eq_true rfl, Nat.le_of_ble_eq_true rfl⟩ hl.1 rfl (Nat.le_of_ble_eq_true rfl) dX10_predicate_19 ⟨Nat.le_of_ble_eq_true rfl, Nat.le_of_ble_eq_true rfl⟩) hP hD hS hA [0, 1] [] rfl rfl rfl (by decide) (fun r_5 u H locs hw hP hD hS => ?_)
  obtain ⟨gn_2, fn_3⟩ := u
  obtain ⟨hrr, o_4⟩ := hw
  have hP : va_P D vwCl [(mm, .inr (9, fl 77 gn_2)), (rf, .inl (Y 0, 3, .inl fn_3))] H := hP
  have hD : va_D A [(mm, .inr (9, fl 77 gn_2)), (rf, .inl (Y 0, 3, .inl fn_3))] := hD
  subst hrr
  refine W.widen (k := 0) (n := 0) (Nat.le_of_ble_eq_true rfl) (Nat.le_of_ble_eq_true rfl) ?_
  refine lv_if_eq (tgt := 40) hx hb dX10_predicate_22 (by decide) (fun _ => ?_) (fun c9 => absurd (by decide) c9)
  refine lv_iconst (v := 0) hx hb dX10_predicate_40 (by decide) ?_
  exact retI F hr hlocks rfl hP hD hS gn_2 [0] rfl rfl (Nat.le_of_ble_eq_true rfl) (Nat.le_of_ble_eq_true rfl) dX10_predicate_41 ⟨rfl, o_4⟩
set_option maxRecDepth 100000 in
set_option maxHeartbeats 4000000 in
theorem m_clause (l : Launch) (D : va_G) (Y : Nat → ClassId) (mm : Nat) (rf : Nat) (j1 : Int32) (j2 : Int32) (j3 : Int32) (g : Nat → Value) (f : Nat → Int32) (g_1 : g 1 = .ref rf) (g_4 : g 4 = .int 0)  : cM l D Y yX10_clause cX10_clause 5 (some .int) 2 0 0 [.ref mm, .int j1, .int j2, .int j3] [(mm, .inr (9, fl 77 g)), (rf, .inl (Y 0, 3, .inl f))] (qI D (fun (r : Int32) (u : Nat → Value) => r = 0 ∧ u 0 = .int 1) (fun (u : Nat → Value) => [(mm, .inr (9, fl 77 u))])) := by
  refine cM.mk RX10 rfl (by decide) (Nat.le_of_ble_eq_true rfl) ?_
  intro p e s m below meth c A F hr hlocks hin hK hZ hP hD hA hS ls hl
  have hx := F.1
  have hb := F.2.1
  have hl : lv_has ls 5 [(0, .ref mm), (1, .int j1), (2, .int j2), (3, .int j3)] := hl
  refine lv_aload_n hx hb dX10_clause_0 rfl (lv_at hl 0 rfl) ?_
  refine lv_iconst (v := 0) hx hb dX10_clause_1 (by decide) ?_
  refine pF (C := RX10) (T := TX10) (ci := 9) F hK hP hD hS 0 rfl rfl iwX10 tyX10 tyX10_ok nmX10 0 (by decide) m_191 (fun _ h => h) rfl rfl rfl dX10_clause_2 (fun H locs hP hD hS => ?_)
  have hP : va_P D vwCl [(mm, .inr (9, fl 77 (va_up g 0 (.int 0)))), (rf, .inl (Y 0, 3, .inl f))] H := hP
  have hD : va_D A [(mm, .inr (9, fl 77 (va_up g 0 (.int 0)))), (rf, .inl (Y 0, 3, .inl f))] := hD
  refine lv_iload_n hx hb dX10_clause_5 rfl (lv_at hl 1 rfl) ?_
  refine lv_iconst (v := 0) hx hb dX10_clause_6 (by decide) ?_
  refine lv_aload_n hx hb dX10_clause_7 rfl (lv_at hl 0 rfl) ?_
  refine gF (C := RX10) (T := TX10) (ci := 9) (v := .int 0) F hK hP 0 rfl rfl iwX10 4 (by decide) m_213 (fun _ h => h) g_4 dX10_clause_8 ?_
  refine lv_iconst (v := 1) hx hb dX10_clause_11 (by decide) ?_
  refine lv_isub hx hb dX10_clause_12 ?_
  refine lv_toc (v := (-1)) (by decide) ?_
  refine goI (wr := [(mm, .inr (9, fl 77 (va_up g 0 (.int 0)))), (rf, .inl (Y 0, 3, .inl f))]) (runS (n := 3) (As := [.int j1, .int 0, .int (-1)]) (rest := []) F hK hZ hP hD hS hA (c_within0 l D Y j1 0 (-1)  (no_in j1)) [] rfl rfl m_203 m_204 m_196 m_202 (by decide +kernel) rfl ⟨Nat.le_of_ble_eq_true rfl, Nat.le_of_ble_eq_true rfl⟩ hl.1 rfl (Nat.le_of_ble_eq_true rfl) dX10_clause_13 ⟨Nat.le_of_ble_eq_true rfl, Nat.le_of_ble_eq_true rfl⟩) hP hD hS hA [] [0, 1] rfl rfl rfl (by decide) (fun r_1 u H locs hw hP hD hS => ?_)
  have hrr := hw
  have hP : va_P D vwCl [(mm, .inr (9, fl 77 (va_up g 0 (.int 0)))), (rf, .inl (Y 0, 3, .inl f))] H := hP
  have hD : va_D A [(mm, .inr (9, fl 77 (va_up g 0 (.int 0)))), (rf, .inl (Y 0, 3, .inl f))] := hD
  subst hrr
  refine W.widen (k := 0) (n := 0) (Nat.le_of_ble_eq_true rfl) (Nat.le_of_ble_eq_true rfl) ?_
  refine lv_if_eq (tgt := 38) hx hb dX10_clause_16 (by decide) (fun _ => ?_) (fun c9 => absurd (by decide) c9)
  refine lv_iconst (v := 0) hx hb dX10_clause_38 (by decide) ?_
  refine lv_istore (lv' := [(4, .int 0), (0, .ref mm), (1, .int j1), (2, .int j2), (3, .int j3)]) hx hb dX10_clause_39 hl (by decide) rfl (fun ls hl => ?_)
  refine lv_aload_n hx hb dX10_clause_41 rfl (lv_at hl 1 rfl) ?_
  refine lv_iload hx hb dX10_clause_42 (lv_at hl 0 rfl) ?_
  refine lv_iconst (v := 1) hx hb dX10_clause_44 (by decide) ?_
  refine lv_iconst (v := 0) hx hb dX10_clause_45 (by decide) ?_
  refine goI (wr := []) (runV (n := 3) (As := [.int 0, .int 1, .int 0]) (rest := []) (C := RX10) (T := TX10) (N := 77) (ci := 9) F hK hZ hP hD hS hA (c_isF0_10 l D Y mm rf (va_up g 0 (.int 0)) f rfl g_1 ) 0 rfl rfl [0, 1] rfl rfl m_206 m_207 m_208 m_196 m_205 (by decide +kernel) rfl ⟨Nat.le_of_ble_eq_true rfl, Nat.le_of_ble_eq_true rfl⟩ hl.1 rfl (Nat.le_of_ble_eq_true rfl) dX10_clause_46 ⟨Nat.le_of_ble_eq_true rfl, Nat.le_of_ble_eq_true rfl⟩) hP hD hS hA [0, 1] [] rfl rfl rfl (by decide) (fun r_5 u H locs hw hP hD hS => ?_)
  obtain ⟨gn_2, fn_3⟩ := u
  obtain ⟨hrr, o_4⟩ := hw
  have hP : va_P D vwCl [(mm, .inr (9, fl 77 gn_2)), (rf, .inl (Y 0, 3, .inl fn_3))] H := hP
  have hD : va_D A [(mm, .inr (9, fl 77 gn_2)), (rf, .inl (Y 0, 3, .inl fn_3))] := hD
  subst hrr
  refine W.widen (k := 0) (n := 0) (Nat.le_of_ble_eq_true rfl) (Nat.le_of_ble_eq_true rfl) ?_
  refine lv_if_eq (tgt := 67) hx hb dX10_clause_49 (by decide) (fun _ => ?_) (fun c9 => absurd (by decide) c9)
  refine lv_iconst (v := 0) hx hb dX10_clause_67 (by decide) ?_
  exact retI F hr hlocks rfl hP hD hS gn_2 [0] rfl rfl (Nat.le_of_ble_eq_true rfl) (Nat.le_of_ble_eq_true rfl) dX10_clause_68 ⟨rfl, o_4⟩
set_option maxRecDepth 100000 in
set_option maxHeartbeats 4000000 in
theorem m_literals (l : Launch) (D : va_G) (Y : Nat → ClassId) (mm : Nat) (rf : Nat) (j1 : Int32) (g : Nat → Value) (f : Nat → Int32) (g_1 : g 1 = .ref rf) (g_4 : g 4 = .int 0)  : cM l D Y yX10_literals cX10_literals 2 (some .int) 2 0 0 [.ref mm, .int j1] [(mm, .inr (9, fl 77 g)), (rf, .inl (Y 0, 3, .inl f))] (qI D (fun (r : Int32) (u : Nat → Value) => r = 0 ∧ u 0 = .int 1) (fun (u : Nat → Value) => [(mm, .inr (9, fl 77 u))])) := by
  refine cM.mk RX10 rfl (by decide) (Nat.le_of_ble_eq_true rfl) ?_
  intro p e s m below meth c A F hr hlocks hin hK hZ hP hD hA hS ls hl
  have hx := F.1
  have hb := F.2.1
  have hl : lv_has ls 2 [(0, .ref mm), (1, .int j1)] := hl
  refine lv_aload_n hx hb dX10_literals_0 rfl (lv_at hl 0 rfl) ?_
  refine lv_iconst (v := 0) hx hb dX10_literals_1 (by decide) ?_
  refine pF (C := RX10) (T := TX10) (ci := 9) F hK hP hD hS 0 rfl rfl iwX10 tyX10 tyX10_ok nmX10 0 (by decide) m_191 (fun _ h => h) rfl rfl rfl dX10_literals_2 (fun H locs hP hD hS => ?_)
  have hP : va_P D vwCl [(mm, .inr (9, fl 77 (va_up g 0 (.int 0)))), (rf, .inl (Y 0, 3, .inl f))] H := hP
  have hD : va_D A [(mm, .inr (9, fl 77 (va_up g 0 (.int 0)))), (rf, .inl (Y 0, 3, .inl f))] := hD
  refine lv_aload_n hx hb dX10_literals_5 rfl (lv_at hl 0 rfl) ?_
  refine lv_iload_n hx hb dX10_literals_6 rfl (lv_at hl 1 rfl) ?_
  refine lv_iconst (v := 0) hx hb dX10_literals_7 (by decide) ?_
  refine lv_aload_n hx hb dX10_literals_8 rfl (lv_at hl 0 rfl) ?_
  refine gF (C := RX10) (T := TX10) (ci := 9) (v := .int 0) F hK hP 0 rfl rfl iwX10 4 (by decide) m_213 (fun _ h => h) g_4 dX10_literals_9 ?_
  refine lv_iconst (v := 1) hx hb dX10_literals_12 (by decide) ?_
  refine lv_isub hx hb dX10_literals_13 ?_
  refine lv_toc (v := (-1)) (by decide) ?_
  refine goI (wr := [(mm, .inr (9, fl 77 (va_up g 0 (.int 0)))), (rf, .inl (Y 0, 3, .inl f))]) (runS (n := 3) (As := [.int j1, .int 0, .int (-1)]) (rest := [.ref mm]) F hK hZ hP hD hS hA (c_within0 l D Y j1 0 (-1)  (no_in j1)) [] rfl rfl m_203 m_204 m_196 m_202 (by decide +kernel) rfl ⟨Nat.le_of_ble_eq_true rfl, Nat.le_of_ble_eq_true rfl⟩ hl.1 rfl (Nat.le_of_ble_eq_true rfl) dX10_literals_14 ⟨Nat.le_of_ble_eq_true rfl, Nat.le_of_ble_eq_true rfl⟩) hP hD hS hA [] [0, 1] rfl rfl rfl (by decide) (fun r_1 u H locs hw hP hD hS => ?_)
  have hrr := hw
  have hP : va_P D vwCl [(mm, .inr (9, fl 77 (va_up g 0 (.int 0)))), (rf, .inl (Y 0, 3, .inl f))] H := hP
  have hD : va_D A [(mm, .inr (9, fl 77 (va_up g 0 (.int 0)))), (rf, .inl (Y 0, 3, .inl f))] := hD
  subst hrr
  refine W.widen (k := 0) (n := 0) (Nat.le_of_ble_eq_true rfl) (Nat.le_of_ble_eq_true rfl) ?_
  refine lv_iconst (v := 1) hx hb dX10_literals_17 (by decide) ?_
  refine lv_iconst (v := 0) hx hb dX10_literals_18 (by decide) ?_
  refine goI (wr := []) (runV (n := 3) (As := [.int 0, .int 1, .int 0]) (rest := []) (C := RX10) (T := TX10) (N := 77) (ci := 9) F hK hZ hP hD hS hA (c_isF0_10 l D Y mm rf (va_up g 0 (.int 0)) f rfl g_1 ) 0 rfl rfl [0, 1] rfl rfl m_206 m_207 m_208 m_196 m_205 (by decide +kernel) rfl ⟨Nat.le_of_ble_eq_true rfl, Nat.le_of_ble_eq_true rfl⟩ hl.1 rfl (Nat.le_of_ble_eq_true rfl) dX10_literals_19 ⟨Nat.le_of_ble_eq_true rfl, Nat.le_of_ble_eq_true rfl⟩) hP hD hS hA [0, 1] [] rfl rfl rfl (by decide) (fun r_5 u H locs hw hP hD hS => ?_)
  obtain ⟨gn_2, fn_3⟩ := u
  obtain ⟨hrr, o_4⟩ := hw
  have hP : va_P D vwCl [(mm, .inr (9, fl 77 gn_2)), (rf, .inl (Y 0, 3, .inl fn_3))] H := hP
  have hD : va_D A [(mm, .inr (9, fl 77 gn_2)), (rf, .inl (Y 0, 3, .inl fn_3))] := hD
  subst hrr
  refine W.widen (k := 0) (n := 0) (Nat.le_of_ble_eq_true rfl) (Nat.le_of_ble_eq_true rfl) ?_
  refine lv_if_eq (tgt := 33) hx hb dX10_literals_22 (by decide) (fun _ => ?_) (fun c9 => absurd (by decide) c9)
  refine lv_iconst (v := 0) hx hb dX10_literals_33 (by decide) ?_
  exact retI F hr hlocks rfl hP hD hS gn_2 [0] rfl rfl (Nat.le_of_ble_eq_true rfl) (Nat.le_of_ble_eq_true rfl) dX10_literals_34 ⟨rfl, o_4⟩
set_option maxRecDepth 100000 in
set_option maxHeartbeats 4000000 in
theorem m_isT (l : Launch) (D : va_G) (Y : Nat → ClassId) (mm : Nat) (j1 : Int32) (g : Nat → Value) (g_46 : g 46 = .int 0)  : cM l D Y yX10_isTable cX10_isTable 2 (some .boolean) 2 0 0 [.ref mm, .int j1] [(mm, .inr (9, fl 77 g))] (qI D (fun (r : Int32) (u : Unit) => r = 0) (fun (u : Unit) => [(mm, .inr (9, fl 77 g))])) := by
  refine cM.mk RX10 rfl (by decide) (Nat.le_of_ble_eq_true rfl) ?_
  intro p e s m below meth c A F hr hlocks hin hK hZ hP hD hA hS ls hl
  have hx := F.1
  have hb := F.2.1
  have hl : lv_has ls 2 [(0, .ref mm), (1, .int j1)] := hl
  refine lv_iload_n hx hb dX10_isTable_0 rfl (lv_at hl 1 rfl) ?_
  refine lv_iconst (v := 0) hx hb dX10_isTable_1 (by decide) ?_
  refine lv_aload_n hx hb dX10_isTable_2 rfl (lv_at hl 0 rfl) ?_
  refine gF (C := RX10) (T := TX10) (ci := 9) (v := .int 0) F hK hP 0 rfl rfl iwX10 46 (by decide) m_214 (fun _ h => h) g_46 dX10_isTable_3 ?_
  refine lv_iconst (v := 1) hx hb dX10_isTable_6 (by decide) ?_
  refine lv_isub hx hb dX10_isTable_7 ?_
  refine lv_toc (v := (-1)) (by decide) ?_
  refine goI (wr := [(mm, .inr (9, fl 77 g))]) (runS (n := 3) (As := [.int j1, .int 0, .int (-1)]) (rest := []) F hK hZ hP hD hS hA (c_within0 l D Y j1 0 (-1)  (no_in j1)) [] rfl rfl m_203 m_204 m_196 m_202 (by decide +kernel) rfl ⟨Nat.le_of_ble_eq_true rfl, Nat.le_of_ble_eq_true rfl⟩ hl.1 rfl (Nat.le_of_ble_eq_true rfl) dX10_isTable_8 ⟨Nat.le_of_ble_eq_true rfl, Nat.le_of_ble_eq_true rfl⟩) hP hD hS hA [] [0] rfl rfl rfl (by decide) (fun r_1 u H locs hw hP hD hS => ?_)
  have hrr := hw
  have hP : va_P D vwCl [(mm, .inr (9, fl 77 g))] H := hP
  have hD : va_D A [(mm, .inr (9, fl 77 g))] := hD
  subst hrr
  refine W.widen (k := 0) (n := 0) (Nat.le_of_ble_eq_true rfl) (Nat.le_of_ble_eq_true rfl) ?_
  exact retI F hr hlocks rfl hP hD hS () [0] rfl rfl (Nat.le_of_ble_eq_true rfl) (Nat.le_of_ble_eq_true rfl) dX10_isTable_11 rfl
set_option maxRecDepth 100000 in
set_option maxHeartbeats 4000000 in
theorem m_table (l : Launch) (D : va_G) (Y : Nat → ClassId) (mm : Nat) (rf : Nat) (j1 : Int32) (j2 : Int32) (g : Nat → Value) (f : Nat → Int32) (g_1 : g 1 = .ref rf) (g_46 : g 46 = .int 0)  : cM l D Y yX10_table cX10_table 3 (some .int) 3 0 0 [.ref mm, .int j1, .int j2] [(mm, .inr (9, fl 77 g)), (rf, .inl (Y 0, 3, .inl f))] (qI D (fun (r : Int32) (u : Nat → Value) => r = 0 ∧ u 0 = .int 1) (fun (u : Nat → Value) => [(mm, .inr (9, fl 77 u))])) := by
  refine cM.mk RX10 rfl (by decide) (Nat.le_of_ble_eq_true rfl) ?_
  intro p e s m below meth c A F hr hlocks hin hK hZ hP hD hA hS ls hl
  have hx := F.1
  have hb := F.2.1
  have hl : lv_has ls 3 [(0, .ref mm), (1, .int j1), (2, .int j2)] := hl
  refine lv_aload_n hx hb dX10_table_0 rfl (lv_at hl 0 rfl) ?_
  refine lv_iconst (v := 0) hx hb dX10_table_1 (by decide) ?_
  refine pF (C := RX10) (T := TX10) (ci := 9) F hK hP hD hS 0 rfl rfl iwX10 tyX10 tyX10_ok nmX10 0 (by decide) m_191 (fun _ h => h) rfl rfl rfl dX10_table_2 (fun H locs hP hD hS => ?_)
  have hP : va_P D vwCl [(mm, .inr (9, fl 77 (va_up g 0 (.int 0)))), (rf, .inl (Y 0, 3, .inl f))] H := hP
  have hD : va_D A [(mm, .inr (9, fl 77 (va_up g 0 (.int 0)))), (rf, .inl (Y 0, 3, .inl f))] := hD
  refine lv_aload_n hx hb dX10_table_5 rfl (lv_at hl 0 rfl) ?_
  refine lv_aload_n hx hb dX10_table_6 rfl (lv_at hl 0 rfl) ?_
  refine lv_iload_n hx hb dX10_table_7 rfl (lv_at hl 1 rfl) ?_
  refine goI (wr := [(rf, .inl (Y 0, 3, .inl f))]) (runV (n := 1) (As := [.int j1]) (rest := [.ref mm]) (C := RX10) (T := TX10) (N := 77) (ci := 9) F hK hZ hP hD hS hA (m_isT l D Y mm j1 (va_up g 0 (.int 0)) g_46 ) 0 rfl rfl [0] rfl rfl m_216 m_217 m_218 m_196 m_215 (by decide +kernel) rfl ⟨Nat.le_of_ble_eq_true rfl, Nat.le_of_ble_eq_true rfl⟩ hl.1 rfl (Nat.le_of_ble_eq_true rfl) dX10_table_8 ⟨Nat.le_of_ble_eq_true rfl, Nat.le_of_ble_eq_true rfl⟩) hP hD hS hA [0] [1] rfl rfl rfl (by decide) (fun r_1 u H locs hw hP hD hS => ?_)
  have hrr := hw
  have hP : va_P D vwCl [(rf, .inl (Y 0, 3, .inl f)), (mm, .inr (9, fl 77 (va_up g 0 (.int 0))))] H := hP
  have hD : va_D A [(rf, .inl (Y 0, 3, .inl f)), (mm, .inr (9, fl 77 (va_up g 0 (.int 0))))] := hD
  subst hrr
  refine W.widen (k := 0) (n := 0) (Nat.le_of_ble_eq_true rfl) (Nat.le_of_ble_eq_true rfl) ?_
  refine lv_iconst (v := 1) hx hb dX10_table_11 (by decide) ?_
  refine lv_iconst (v := 0) hx hb dX10_table_12 (by decide) ?_
  refine goI (wr := []) (runV (n := 3) (As := [.int 0, .int 1, .int 0]) (rest := []) (C := RX10) (T := TX10) (N := 77) (ci := 9) F hK hZ hP hD hS hA (c_isF0_10 l D Y mm rf (va_up g 0 (.int 0)) f rfl g_1 ) 1 rfl rfl [1, 0] rfl rfl m_206 m_207 m_208 m_196 m_205 (by decide +kernel) rfl ⟨Nat.le_of_ble_eq_true rfl, Nat.le_of_ble_eq_true rfl⟩ hl.1 rfl (Nat.le_of_ble_eq_true rfl) dX10_table_13 ⟨Nat.le_of_ble_eq_true rfl, Nat.le_of_ble_eq_true rfl⟩) hP hD hS hA [1, 0] [] rfl rfl rfl (by decide) (fun r_5 u H locs hw hP hD hS => ?_)
  obtain ⟨gn_2, fn_3⟩ := u
  obtain ⟨hrr, o_4⟩ := hw
  have hP : va_P D vwCl [(mm, .inr (9, fl 77 gn_2)), (rf, .inl (Y 0, 3, .inl fn_3))] H := hP
  have hD : va_D A [(mm, .inr (9, fl 77 gn_2)), (rf, .inl (Y 0, 3, .inl fn_3))] := hD
  subst hrr
  refine W.widen (k := 0) (n := 0) (Nat.le_of_ble_eq_true rfl) (Nat.le_of_ble_eq_true rfl) ?_
  refine lv_if_eq (tgt := 35) hx hb dX10_table_16 (by decide) (fun _ => ?_) (fun c9 => absurd (by decide) c9)
  refine lv_iconst (v := 0) hx hb dX10_table_35 (by decide) ?_
  exact retI F hr hlocks rfl hP hD hS gn_2 [0] rfl rfl (Nat.le_of_ble_eq_true rfl) (Nat.le_of_ble_eq_true rfl) dX10_table_36 ⟨rfl, o_4⟩
set_option maxRecDepth 100000 in
set_option maxHeartbeats 4000000 in
theorem m_calls (l : Launch) (D : va_G) (Y : Nat → ClassId) (mm : Nat) (rf : Nat) (j1 : Int32) (j2 : Int32) (j3 : Int32) (g : Nat → Value) (f : Nat → Int32) (g_1 : g 1 = .ref rf) (g_46 : g 46 = .int 0)  : cM l D Y yX10_calls cX10_calls 4 (some .int) 3 0 0 [.ref mm, .int j1, .int j2, .int j3] [(mm, .inr (9, fl 77 g)), (rf, .inl (Y 0, 3, .inl f))] (qI D (fun (r : Int32) (u : Nat → Value) => r = 0 ∧ u 0 = .int 1) (fun (u : Nat → Value) => [(mm, .inr (9, fl 77 u))])) := by
  refine cM.mk RX10 rfl (by decide) (Nat.le_of_ble_eq_true rfl) ?_
  intro p e s m below meth c A F hr hlocks hin hK hZ hP hD hA hS ls hl
  have hx := F.1
  have hb := F.2.1
  have hl : lv_has ls 4 [(0, .ref mm), (1, .int j1), (2, .int j2), (3, .int j3)] := hl
  refine lv_aload_n hx hb dX10_calls_0 rfl (lv_at hl 0 rfl) ?_
  refine lv_iconst (v := 0) hx hb dX10_calls_1 (by decide) ?_
  refine pF (C := RX10) (T := TX10) (ci := 9) F hK hP hD hS 0 rfl rfl iwX10 tyX10 tyX10_ok nmX10 0 (by decide) m_191 (fun _ h => h) rfl rfl rfl dX10_calls_2 (fun H locs hP hD hS => ?_)
  have hP : va_P D vwCl [(mm, .inr (9, fl 77 (va_up g 0 (.int 0)))), (rf, .inl (Y 0, 3, .inl f))] H := hP
  have hD : va_D A [(mm, .inr (9, fl 77 (va_up g 0 (.int 0)))), (rf, .inl (Y 0, 3, .inl f))] := hD
  refine lv_aload_n hx hb dX10_calls_5 rfl (lv_at hl 0 rfl) ?_
  refine lv_aload_n hx hb dX10_calls_6 rfl (lv_at hl 0 rfl) ?_
  refine lv_iload_n hx hb dX10_calls_7 rfl (lv_at hl 1 rfl) ?_
  refine goI (wr := [(rf, .inl (Y 0, 3, .inl f))]) (runV (n := 1) (As := [.int j1]) (rest := [.ref mm]) (C := RX10) (T := TX10) (N := 77) (ci := 9) F hK hZ hP hD hS hA (m_isT l D Y mm j1 (va_up g 0 (.int 0)) g_46 ) 0 rfl rfl [0] rfl rfl m_216 m_217 m_218 m_196 m_215 (by decide +kernel) rfl ⟨Nat.le_of_ble_eq_true rfl, Nat.le_of_ble_eq_true rfl⟩ hl.1 rfl (Nat.le_of_ble_eq_true rfl) dX10_calls_8 ⟨Nat.le_of_ble_eq_true rfl, Nat.le_of_ble_eq_true rfl⟩) hP hD hS hA [0] [1] rfl rfl rfl (by decide) (fun r_1 u H locs hw hP hD hS => ?_)
  have hrr := hw
  have hP : va_P D vwCl [(rf, .inl (Y 0, 3, .inl f)), (mm, .inr (9, fl 77 (va_up g 0 (.int 0))))] H := hP
  have hD : va_D A [(rf, .inl (Y 0, 3, .inl f)), (mm, .inr (9, fl 77 (va_up g 0 (.int 0))))] := hD
  subst hrr
  refine W.widen (k := 0) (n := 0) (Nat.le_of_ble_eq_true rfl) (Nat.le_of_ble_eq_true rfl) ?_
  refine lv_if_eq (tgt := 46) hx hb dX10_calls_11 (by decide) (fun _ => ?_) (fun c9 => absurd (by decide) c9)
  refine lv_iconst (v := 0) hx hb dX10_calls_46 (by decide) ?_
  refine lv_iconst (v := 1) hx hb dX10_calls_47 (by decide) ?_
  refine lv_iconst (v := 0) hx hb dX10_calls_48 (by decide) ?_
  refine goI (wr := []) (runV (n := 3) (As := [.int 0, .int 1, .int 0]) (rest := []) (C := RX10) (T := TX10) (N := 77) (ci := 9) F hK hZ hP hD hS hA (c_isF0_10 l D Y mm rf (va_up g 0 (.int 0)) f rfl g_1 ) 1 rfl rfl [1, 0] rfl rfl m_206 m_207 m_208 m_196 m_205 (by decide +kernel) rfl ⟨Nat.le_of_ble_eq_true rfl, Nat.le_of_ble_eq_true rfl⟩ hl.1 rfl (Nat.le_of_ble_eq_true rfl) dX10_calls_49 ⟨Nat.le_of_ble_eq_true rfl, Nat.le_of_ble_eq_true rfl⟩) hP hD hS hA [1, 0] [] rfl rfl rfl (by decide) (fun r_5 u H locs hw hP hD hS => ?_)
  obtain ⟨gn_2, fn_3⟩ := u
  obtain ⟨hrr, o_4⟩ := hw
  have hP : va_P D vwCl [(mm, .inr (9, fl 77 gn_2)), (rf, .inl (Y 0, 3, .inl fn_3))] H := hP
  have hD : va_D A [(mm, .inr (9, fl 77 gn_2)), (rf, .inl (Y 0, 3, .inl fn_3))] := hD
  subst hrr
  refine W.widen (k := 0) (n := 0) (Nat.le_of_ble_eq_true rfl) (Nat.le_of_ble_eq_true rfl) ?_
  refine lv_if_eq (tgt := 70) hx hb dX10_calls_52 (by decide) (fun _ => ?_) (fun c9 => absurd (by decide) c9)
  refine lv_iconst (v := 0) hx hb dX10_calls_70 (by decide) ?_
  exact retI F hr hlocks rfl hP hD hS gn_2 [0] rfl rfl (Nat.le_of_ble_eq_true rfl) (Nat.le_of_ble_eq_true rfl) dX10_calls_71 ⟨rfl, o_4⟩
set_option maxRecDepth 100000 in
set_option maxHeartbeats 4000000 in
theorem m_answer (l : Launch) (D : va_G) (Y : Nat → ClassId) (mm : Nat) (rf : Nat) (j1 : Int32) (j2 : Int32) (j3 : Int32) (g : Nat → Value) (f : Nat → Int32) (g_1 : g 1 = .ref rf) (g_46 : g 46 = .int 0)  : cM l D Y yX10_answer cX10_answer 7 (some .int) 3 0 0 [.ref mm, .int j1, .int j2, .int j3] [(mm, .inr (9, fl 77 g)), (rf, .inl (Y 0, 3, .inl f))] (qI D (fun (r : Int32) (u : Nat → Value) => r = 0 ∧ u 0 = .int 1) (fun (u : Nat → Value) => [(mm, .inr (9, fl 77 u))])) := by
  refine cM.mk RX10 rfl (by decide) (Nat.le_of_ble_eq_true rfl) ?_
  intro p e s m below meth c A F hr hlocks hin hK hZ hP hD hA hS ls hl
  have hx := F.1
  have hb := F.2.1
  have hl : lv_has ls 7 [(0, .ref mm), (1, .int j1), (2, .int j2), (3, .int j3)] := hl
  refine lv_aload_n hx hb dX10_answer_0 rfl (lv_at hl 0 rfl) ?_
  refine lv_iconst (v := 0) hx hb dX10_answer_1 (by decide) ?_
  refine pF (C := RX10) (T := TX10) (ci := 9) F hK hP hD hS 0 rfl rfl iwX10 tyX10 tyX10_ok nmX10 0 (by decide) m_191 (fun _ h => h) rfl rfl rfl dX10_answer_2 (fun H locs hP hD hS => ?_)
  have hP : va_P D vwCl [(mm, .inr (9, fl 77 (va_up g 0 (.int 0)))), (rf, .inl (Y 0, 3, .inl f))] H := hP
  have hD : va_D A [(mm, .inr (9, fl 77 (va_up g 0 (.int 0)))), (rf, .inl (Y 0, 3, .inl f))] := hD
  refine lv_iconst (v := (-1)) hx hb dX10_answer_5 (by decide) ?_
  refine lv_istore (lv' := [(4, .int (-1)), (0, .ref mm), (1, .int j1), (2, .int j2), (3, .int j3)]) hx hb dX10_answer_6 hl (by decide) rfl (fun ls hl => ?_)
  refine lv_iconst (v := 0) hx hb dX10_answer_8 (by decide) ?_
  refine lv_istore (lv' := [(5, .int 0), (4, .int (-1)), (0, .ref mm), (1, .int j1), (2, .int j2), (3, .int j3)]) hx hb dX10_answer_9 hl (by decide) rfl (fun ls hl => ?_)
  refine lv_iconst (v := 0) hx hb dX10_answer_11 (by decide) ?_
  refine lv_istore (lv' := [(6, .int 0), (5, .int 0), (4, .int (-1)), (0, .ref mm), (1, .int j1), (2, .int j2), (3, .int j3)]) hx hb dX10_answer_12 hl (by decide) rfl (fun ls hl => ?_)
  refine lv_iload hx hb dX10_answer_14 (lv_at hl 0 rfl) ?_
  refine lv_bipush (v := 64) hx hb dX10_answer_16 (by decide) ?_
  refine lv_icmp_ge (tgt := 66) hx hb dX10_answer_18 (by decide) (fun c9 => absurd c9 (by decide)) (fun _ => ?_)
  refine lv_aload_n hx hb dX10_answer_21 rfl (lv_at hl 3 rfl) ?_
  refine lv_iload_n hx hb dX10_answer_22 rfl (lv_at hl 4 rfl) ?_
  refine goI (wr := [(rf, .inl (Y 0, 3, .inl f))]) (runV (n := 1) (As := [.int j1]) (rest := []) (C := RX10) (T := TX10) (N := 77) (ci := 9) F hK hZ hP hD hS hA (m_isT l D Y mm j1 (va_up g 0 (.int 0)) g_46 ) 0 rfl rfl [0] rfl rfl m_216 m_217 m_218 m_196 m_215 (by decide +kernel) rfl ⟨Nat.le_of_ble_eq_true rfl, Nat.le_of_ble_eq_true rfl⟩ hl.1 rfl (Nat.le_of_ble_eq_true rfl) dX10_answer_23 ⟨Nat.le_of_ble_eq_true rfl, Nat.le_of_ble_eq_true rfl⟩) hP hD hS hA [0] [1] rfl rfl rfl (by decide) (fun r_1 u H locs hw hP hD hS => ?_)
  have hrr := hw
  have hP : va_P D vwCl [(rf, .inl (Y 0, 3, .inl f)), (mm, .inr (9, fl 77 (va_up g 0 (.int 0))))] H := hP
  have hD : va_D A [(rf, .inl (Y 0, 3, .inl f)), (mm, .inr (9, fl 77 (va_up g 0 (.int 0))))] := hD
  subst hrr
  refine W.widen (k := 0) (n := 0) (Nat.le_of_ble_eq_true rfl) (Nat.le_of_ble_eq_true rfl) ?_
  refine lv_if_eq (tgt := 66) hx hb dX10_answer_26 (by decide) (fun _ => ?_) (fun c9 => absurd (by decide) c9)
  refine lv_aload_n hx hb dX10_answer_66 rfl (lv_at hl 3 rfl) ?_
  refine lv_iload hx hb dX10_answer_67 (lv_at hl 2 rfl) ?_
  refine lv_iconst (v := (-1)) hx hb dX10_answer_69 (by decide) ?_
  refine lv_icmp_eq (tgt := 77) hx hb dX10_answer_70 (by decide) (fun _ => ?_) (fun c9 => absurd (by decide) c9)
  refine lv_iconst (v := 0) hx hb dX10_answer_77 (by decide) ?_
  refine lv_iconst (v := 1) hx hb dX10_answer_78 (by decide) ?_
  refine lv_iconst (v := 0) hx hb dX10_answer_79 (by decide) ?_
  refine goI (wr := []) (runV (n := 3) (As := [.int 0, .int 1, .int 0]) (rest := []) (C := RX10) (T := TX10) (N := 77) (ci := 9) F hK hZ hP hD hS hA (c_isF0_10 l D Y mm rf (va_up g 0 (.int 0)) f rfl g_1 ) 1 rfl rfl [1, 0] rfl rfl m_206 m_207 m_208 m_196 m_205 (by decide +kernel) rfl ⟨Nat.le_of_ble_eq_true rfl, Nat.le_of_ble_eq_true rfl⟩ hl.1 rfl (Nat.le_of_ble_eq_true rfl) dX10_answer_80 ⟨Nat.le_of_ble_eq_true rfl, Nat.le_of_ble_eq_true rfl⟩) hP hD hS hA [1, 0] [] rfl rfl rfl (by decide) (fun r_5 u H locs hw hP hD hS => ?_)
  obtain ⟨gn_2, fn_3⟩ := u
  obtain ⟨hrr, o_4⟩ := hw
  have hP : va_P D vwCl [(mm, .inr (9, fl 77 gn_2)), (rf, .inl (Y 0, 3, .inl fn_3))] H := hP
  have hD : va_D A [(mm, .inr (9, fl 77 gn_2)), (rf, .inl (Y 0, 3, .inl fn_3))] := hD
  subst hrr
  refine W.widen (k := 0) (n := 0) (Nat.le_of_ble_eq_true rfl) (Nat.le_of_ble_eq_true rfl) ?_
  refine lv_if_eq (tgt := 101) hx hb dX10_answer_83 (by decide) (fun _ => ?_) (fun c9 => absurd (by decide) c9)
  refine lv_iconst (v := 0) hx hb dX10_answer_101 (by decide) ?_
  exact retI F hr hlocks rfl hP hD hS gn_2 [0] rfl rfl (Nat.le_of_ble_eq_true rfl) (Nat.le_of_ble_eq_true rfl) dX10_answer_102 ⟨rfl, o_4⟩
set_option maxRecDepth 100000 in
set_option maxHeartbeats 4000000 in
theorem m_compl (l : Launch) (D : va_G) (Y : Nat → ClassId) (mm : Nat) (j1 : Int32) (g : Nat → Value) (g_66 : g 66 = .int 0)  : cM l D Y yX10_completed cX10_completed 2 (some .int) 2 0 0 [.ref mm, .int j1] [(mm, .inr (9, fl 77 g))] (qI D (fun (r : Int32) (u : Unit) => r = (-1)) (fun (u : Unit) => [])) := by
  refine cM.mk RX10 rfl (by decide) (Nat.le_of_ble_eq_true rfl) ?_
  intro p e s m below meth c A F hr hlocks hin hK hZ hP hD hA hS ls hl
  have hx := F.1
  have hb := F.2.1
  have hl : lv_has ls 2 [(0, .ref mm), (1, .int j1)] := hl
  refine lv_aload_n hx hb dX10_completed_0 rfl (lv_at hl 0 rfl) ?_
  refine lv_iconst (v := 0) hx hb dX10_completed_1 (by decide) ?_
  refine pF (C := RX10) (T := TX10) (ci := 9) F hK hP hD hS 0 rfl rfl iwX10 tyX10 tyX10_ok nmX10 0 (by decide) m_191 (fun _ h => h) rfl rfl rfl dX10_completed_2 (fun H locs hP hD hS => ?_)
  have hP : va_P D vwCl [(mm, .inr (9, fl 77 (va_up g 0 (.int 0))))] H := hP
  have hD : va_D A [(mm, .inr (9, fl 77 (va_up g 0 (.int 0))))] := hD
  refine lv_iload_n hx hb dX10_completed_5 rfl (lv_at hl 1 rfl) ?_
  refine lv_iconst (v := 0) hx hb dX10_completed_6 (by decide) ?_
  refine lv_aload_n hx hb dX10_completed_7 rfl (lv_at hl 0 rfl) ?_
  refine gF (C := RX10) (T := TX10) (ci := 9) (v := .int 0) F hK hP 0 rfl rfl iwX10 66 (by decide) m_219 (fun _ h => h) g_66 dX10_completed_8 ?_
  refine lv_iconst (v := 1) hx hb dX10_completed_11 (by decide) ?_
  refine lv_isub hx hb dX10_completed_12 ?_
  refine lv_toc (v := (-1)) (by decide) ?_
  refine goI (wr := [(mm, .inr (9, fl 77 (va_up g 0 (.int 0))))]) (runS (n := 3) (As := [.int j1, .int 0, .int (-1)]) (rest := []) F hK hZ hP hD hS hA (c_within0 l D Y j1 0 (-1)  (no_in j1)) [] rfl rfl m_203 m_204 m_196 m_202 (by decide +kernel) rfl ⟨Nat.le_of_ble_eq_true rfl, Nat.le_of_ble_eq_true rfl⟩ hl.1 rfl (Nat.le_of_ble_eq_true rfl) dX10_completed_13 ⟨Nat.le_of_ble_eq_true rfl, Nat.le_of_ble_eq_true rfl⟩) hP hD hS hA [] [0] rfl rfl rfl (by decide) (fun r_1 u H locs hw hP hD hS => ?_)
  have hrr := hw
  have hP : va_P D vwCl [(mm, .inr (9, fl 77 (va_up g 0 (.int 0))))] H := hP
  have hD : va_D A [(mm, .inr (9, fl 77 (va_up g 0 (.int 0))))] := hD
  subst hrr
  refine W.widen (k := 0) (n := 0) (Nat.le_of_ble_eq_true rfl) (Nat.le_of_ble_eq_true rfl) ?_
  refine lv_if_eq (tgt := 28) hx hb dX10_completed_16 (by decide) (fun _ => ?_) (fun c9 => absurd (by decide) c9)
  refine lv_iconst (v := (-1)) hx hb dX10_completed_28 (by decide) ?_
  exact retI F hr hlocks rfl hP hD hS () [] rfl rfl (Nat.le_of_ble_eq_true rfl) (Nat.le_of_ble_eq_true rfl) dX10_completed_29 rfl
set_option maxRecDepth 100000 in
set_option maxHeartbeats 4000000 in
theorem m_print (l : Launch) (D : va_G) (Y : Nat → ClassId) (mm : Nat) (g : Nat → Value) (g_46 : g 46 = .int 0)  : cM l D Y yX10_print cX10_print 4 (some .long) 1 0 0 [.ref mm] [(mm, .inr (9, fl 77 g))] (qL D (fun (r : Int64) (u : Unit) => r = 0) (fun (u : Unit) => [])) := by
  refine cM.mk RX10 rfl (by decide) (Nat.le_of_ble_eq_true rfl) ?_
  intro p e s m below meth c A F hr hlocks hin hK hZ hP hD hA hS ls hl
  have hx := F.1
  have hb := F.2.1
  have hl : lv_has ls 4 [(0, .ref mm)] := hl
  refine lv_aload_n hx hb dX10_print_0 rfl (lv_at hl 0 rfl) ?_
  refine lv_iconst (v := 0) hx hb dX10_print_1 (by decide) ?_
  refine pF (C := RX10) (T := TX10) (ci := 9) F hK hP hD hS 0 rfl rfl iwX10 tyX10 tyX10_ok nmX10 0 (by decide) m_191 (fun _ h => h) rfl rfl rfl dX10_print_2 (fun H locs hP hD hS => ?_)
  have hP : va_P D vwCl [(mm, .inr (9, fl 77 (va_up g 0 (.int 0))))] H := hP
  have hD : va_D A [(mm, .inr (9, fl 77 (va_up g 0 (.int 0))))] := hD
  refine lv_lconst (v := 0) hx hb dX10_print_5 (by decide) ?_
  refine lv_lstore_n (lv' := [(1, .long 0), (0, .ref mm)]) hx hb dX10_print_6 rfl hl (by decide) rfl (fun ls hl => ?_)
  refine lv_iconst (v := 0) hx hb dX10_print_7 (by decide) ?_
  refine lv_istore_n (lv' := [(3, .int 0), (1, .long 0), (0, .ref mm)]) hx hb dX10_print_8 rfl hl (by decide) rfl (fun ls hl => ?_)
  refine lv_iload_n hx hb dX10_print_9 rfl (lv_at hl 0 rfl) ?_
  refine lv_aload_n hx hb dX10_print_10 rfl (lv_at hl 2 rfl) ?_
  refine gF (C := RX10) (T := TX10) (ci := 9) (v := .int 0) F hK hP 0 rfl rfl iwX10 46 (by decide) m_214 (fun _ h => h) g_46 dX10_print_11 ?_
  refine lv_icmp_ge (tgt := 68) hx hb dX10_print_14 (by decide) (fun _ => ?_) (fun c9 => absurd (by decide) c9)
  refine lv_lload_n hx hb dX10_print_68 rfl (lv_at hl 1 rfl) ?_
  exact retL F hr hlocks hP hD hS () [] rfl rfl (Nat.le_of_ble_eq_true rfl) (Nat.le_of_ble_eq_true rfl) dX10_print_69 rfl
set_option maxRecDepth 100000 in
set_option maxHeartbeats 4000000 in
theorem m_statA (l : Launch) (D : va_G) (Y : Nat → ClassId) (mm : Nat) (rf : Nat) (j1 : Int32) (g : Nat → Value) (g_1 : g 1 = .ref rf) (h1 : ¬ j1 < 0) (h2 : ¬ 2 < j1) : cM l D Y yX10_status cX10_status 2 (some .int) 2 0 0 [.ref mm, .int j1] [(mm, .inr (9, fl 77 g)), (rf, .inl (Y 0, 3, .inl (fun _ => 0)))] (qI D (fun (r : Int32) (u : Unit) => r = 0) (fun (u : Unit) => [])) := by
  refine cM.mk RX10 rfl (by decide) (Nat.le_of_ble_eq_true rfl) ?_
  intro p e s m below meth c A F hr hlocks hin hK hZ hP hD hA hS ls hl
  have hx := F.1
  have hb := F.2.1
  have hl : lv_has ls 2 [(0, .ref mm), (1, .int j1)] := hl
  refine lv_aload_n hx hb dX10_status_0 rfl (lv_at hl 0 rfl) ?_
  refine lv_iconst (v := 0) hx hb dX10_status_1 (by decide) ?_
  refine pF (C := RX10) (T := TX10) (ci := 9) F hK hP hD hS 0 rfl rfl iwX10 tyX10 tyX10_ok nmX10 0 (by decide) m_191 (fun _ h => h) rfl rfl rfl dX10_status_2 (fun H locs hP hD hS => ?_)
  have hP : va_P D vwCl [(mm, .inr (9, fl 77 (va_up g 0 (.int 0)))), (rf, .inl (Y 0, 3, .inl (fun _ => 0)))] H := hP
  have hD : va_D A [(mm, .inr (9, fl 77 (va_up g 0 (.int 0)))), (rf, .inl (Y 0, 3, .inl (fun _ => 0)))] := hD
  refine lv_iload_n hx hb dX10_status_5 rfl (lv_at hl 1 rfl) ?_
  refine lv_iconst (v := 0) hx hb dX10_status_6 (by decide) ?_
  refine lv_iconst (v := 2) hx hb dX10_status_7 (by decide) ?_
  refine goI (wr := [(mm, .inr (9, fl 77 (va_up g 0 (.int 0)))), (rf, .inl (Y 0, 3, .inl (fun _ => 0)))]) (runS (n := 3) (As := [.int j1, .int 0, .int 2]) (rest := []) F hK hZ hP hD hS hA (c_within1 l D Y j1 0 2  h1 h2) [] rfl rfl m_203 m_204 m_196 m_202 (by decide +kernel) rfl ⟨Nat.le_of_ble_eq_true rfl, Nat.le_of_ble_eq_true rfl⟩ hl.1 rfl (Nat.le_of_ble_eq_true rfl) dX10_status_8 ⟨Nat.le_of_ble_eq_true rfl, Nat.le_of_ble_eq_true rfl⟩) hP hD hS hA [] [0, 1] rfl rfl rfl (by decide) (fun r_1 u H locs hw hP hD hS => ?_)
  have hrr := hw
  have hP : va_P D vwCl [(mm, .inr (9, fl 77 (va_up g 0 (.int 0)))), (rf, .inl (Y 0, 3, .inl (fun _ => 0)))] H := hP
  have hD : va_D A [(mm, .inr (9, fl 77 (va_up g 0 (.int 0)))), (rf, .inl (Y 0, 3, .inl (fun _ => 0)))] := hD
  subst hrr
  refine W.widen (k := 0) (n := 0) (Nat.le_of_ble_eq_true rfl) (Nat.le_of_ble_eq_true rfl) ?_
  refine lv_if_eq (tgt := 23) hx hb dX10_status_11 (by decide) (fun c9 => absurd c9 (by decide)) (fun _ => ?_)
  refine lv_aload_n hx hb dX10_status_14 rfl (lv_at hl 0 rfl) ?_
  refine gF (C := RX10) (T := TX10) (ci := 9) (v := .ref rf) F hK hP 0 rfl rfl iwX10 1 (by decide) m_192 (fun _ h => h) g_1 dX10_status_15 ?_
  refine lv_iload_n hx hb dX10_status_18 rfl (lv_at hl 1 rfl) ?_
  refine va_iald hx hb hK.1 hP 1 0 rfl rfl (vp_in_iff.mpr (st_in h1 (Int32.not_lt.mp h2))) dX10_status_19 ?_
  refine lv_toc (v := 0) rfl ?_
  refine lv_goto (tgt := 24) hx hb dX10_status_20 (by decide) ?_
  exact retI F hr hlocks rfl hP hD hS () [] rfl rfl (Nat.le_of_ble_eq_true rfl) (Nat.le_of_ble_eq_true rfl) dX10_status_24 rfl
set_option maxRecDepth 100000 in
set_option maxHeartbeats 4000000 in
theorem m_statB (l : Launch) (D : va_G) (Y : Nat → ClassId) (mm : Nat) (j1 : Int32) (g : Nat → Value)  (h1 : j1 < 0 ∨ 2 < j1) : cM l D Y yX10_status cX10_status 2 (some .int) 2 0 0 [.ref mm, .int j1] [(mm, .inr (9, fl 77 g))] (qI D (fun (r : Int32) (u : Unit) => r = (-1)) (fun (u : Unit) => [])) := by
  refine cM.mk RX10 rfl (by decide) (Nat.le_of_ble_eq_true rfl) ?_
  intro p e s m below meth c A F hr hlocks hin hK hZ hP hD hA hS ls hl
  have hx := F.1
  have hb := F.2.1
  have hl : lv_has ls 2 [(0, .ref mm), (1, .int j1)] := hl
  refine lv_aload_n hx hb dX10_status_0 rfl (lv_at hl 0 rfl) ?_
  refine lv_iconst (v := 0) hx hb dX10_status_1 (by decide) ?_
  refine pF (C := RX10) (T := TX10) (ci := 9) F hK hP hD hS 0 rfl rfl iwX10 tyX10 tyX10_ok nmX10 0 (by decide) m_191 (fun _ h => h) rfl rfl rfl dX10_status_2 (fun H locs hP hD hS => ?_)
  have hP : va_P D vwCl [(mm, .inr (9, fl 77 (va_up g 0 (.int 0))))] H := hP
  have hD : va_D A [(mm, .inr (9, fl 77 (va_up g 0 (.int 0))))] := hD
  refine lv_iload_n hx hb dX10_status_5 rfl (lv_at hl 1 rfl) ?_
  refine lv_iconst (v := 0) hx hb dX10_status_6 (by decide) ?_
  refine lv_iconst (v := 2) hx hb dX10_status_7 (by decide) ?_
  refine goI (wr := [(mm, .inr (9, fl 77 (va_up g 0 (.int 0))))]) (runS (n := 3) (As := [.int j1, .int 0, .int 2]) (rest := []) F hK hZ hP hD hS hA (c_within0 l D Y j1 0 2  h1) [] rfl rfl m_203 m_204 m_196 m_202 (by decide +kernel) rfl ⟨Nat.le_of_ble_eq_true rfl, Nat.le_of_ble_eq_true rfl⟩ hl.1 rfl (Nat.le_of_ble_eq_true rfl) dX10_status_8 ⟨Nat.le_of_ble_eq_true rfl, Nat.le_of_ble_eq_true rfl⟩) hP hD hS hA [] [0] rfl rfl rfl (by decide) (fun r_1 u H locs hw hP hD hS => ?_)
  have hrr := hw
  have hP : va_P D vwCl [(mm, .inr (9, fl 77 (va_up g 0 (.int 0))))] H := hP
  have hD : va_D A [(mm, .inr (9, fl 77 (va_up g 0 (.int 0))))] := hD
  subst hrr
  refine W.widen (k := 0) (n := 0) (Nat.le_of_ble_eq_true rfl) (Nat.le_of_ble_eq_true rfl) ?_
  refine lv_if_eq (tgt := 23) hx hb dX10_status_11 (by decide) (fun _ => ?_) (fun c9 => absurd (by decide) c9)
  refine lv_iconst (v := (-1)) hx hb dX10_status_23 (by decide) ?_
  exact retI F hr hlocks rfl hP hD hS () [] rfl rfl (Nat.le_of_ble_eq_true rfl) (Nat.le_of_ble_eq_true rfl) dX10_status_24 rfl
