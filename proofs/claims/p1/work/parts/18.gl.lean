theorem dL_text_0 : decode cL_text 0 = .ok (.aload_n 2, 1) := by decide +kernel
theorem dL_text_1 : decode cL_text 1 = .ok (.iconst 0, 1) := by decide +kernel
theorem dL_text_2 : decode cL_text 2 = .ok (.aload_n 0, 1) := by decide +kernel
theorem dL_text_3 : decode cL_text 3 = .ok (.iload_n 1, 1) := by decide +kernel
theorem dL_text_4 : decode cL_text 4 = .ok (.invokevirtual 7, 3) := by decide +kernel
theorem dL_text_7 : decode cL_text 7 = .ok (.i2l, 1) := by decide +kernel
theorem dL_text_8 : decode cL_text 8 = .ok (.lastore, 1) := by decide +kernel
theorem dL_text_9 : decode cL_text 9 = .ok (.goto 6, 3) := by decide +kernel
theorem dL_text_12 : decode cL_text 12 = .ok (.astore_n 3, 1) := by decide +kernel
theorem dL_text_13 : decode cL_text 13 = .ok (.iconst 1, 1) := by decide +kernel
theorem dL_text_14 : decode cL_text 14 = .ok (.ireturn, 1) := by decide +kernel
theorem dL_text_15 : decode cL_text 15 = .ok (.iconst 0, 1) := by decide +kernel
theorem dL_text_16 : decode cL_text 16 = .ok (.ireturn, 1) := by decide +kernel
theorem dL_assume_0 : decode cL_assume 0 = .ok (.aload 4, 2) := by decide +kernel
theorem dL_assume_2 : decode cL_assume 2 = .ok (.iconst 0, 1) := by decide +kernel
theorem dL_assume_3 : decode cL_assume 3 = .ok (.aload_n 0, 1) := by decide +kernel
theorem dL_assume_4 : decode cL_assume 4 = .ok (.iload_n 1, 1) := by decide +kernel
theorem dL_assume_5 : decode cL_assume 5 = .ok (.iload_n 2, 1) := by decide +kernel
theorem dL_assume_6 : decode cL_assume 6 = .ok (.iload_n 3, 1) := by decide +kernel
theorem dL_assume_7 : decode cL_assume 7 = .ok (.invokevirtual 15, 3) := by decide +kernel
theorem dL_assume_15 : decode cL_assume 15 = .ok (.astore 5, 2) := by decide +kernel
theorem dL_assume_17 : decode cL_assume 17 = .ok (.iconst 1, 1) := by decide +kernel
theorem dL_assume_18 : decode cL_assume 18 = .ok (.ireturn, 1) := by decide +kernel
theorem dL_retract_0 : decode cL_retract 0 = .ok (.aload 4, 2) := by decide +kernel
theorem dL_retract_2 : decode cL_retract 2 = .ok (.iconst 0, 1) := by decide +kernel
theorem dL_retract_3 : decode cL_retract 3 = .ok (.aload_n 0, 1) := by decide +kernel
theorem dL_retract_4 : decode cL_retract 4 = .ok (.iload_n 1, 1) := by decide +kernel
theorem dL_retract_5 : decode cL_retract 5 = .ok (.iload_n 2, 1) := by decide +kernel
theorem dL_retract_6 : decode cL_retract 6 = .ok (.iload_n 3, 1) := by decide +kernel
theorem dL_retract_7 : decode cL_retract 7 = .ok (.invokevirtual 23, 3) := by decide +kernel
theorem dL_retract_15 : decode cL_retract 15 = .ok (.astore 5, 2) := by decide +kernel
theorem dL_retract_17 : decode cL_retract 17 = .ok (.iconst 1, 1) := by decide +kernel
theorem dL_retract_18 : decode cL_retract 18 = .ok (.ireturn, 1) := by decide +kernel
theorem dL_ask_0 : decode cL_ask 0 = .ok (.aload 4, 2) := by decide +kernel
theorem dL_ask_2 : decode cL_ask 2 = .ok (.iconst 0, 1) := by decide +kernel
theorem dL_ask_3 : decode cL_ask 3 = .ok (.aload_n 0, 1) := by decide +kernel
theorem dL_ask_4 : decode cL_ask 4 = .ok (.iload_n 1, 1) := by decide +kernel
theorem dL_ask_5 : decode cL_ask 5 = .ok (.iload_n 2, 1) := by decide +kernel
theorem dL_ask_6 : decode cL_ask 6 = .ok (.iload_n 3, 1) := by decide +kernel
theorem dL_ask_7 : decode cL_ask 7 = .ok (.invokevirtual 26, 3) := by decide +kernel
theorem dL_ask_15 : decode cL_ask 15 = .ok (.astore 5, 2) := by decide +kernel
theorem dL_ask_17 : decode cL_ask 17 = .ok (.iconst 1, 1) := by decide +kernel
theorem dL_ask_18 : decode cL_ask 18 = .ok (.ireturn, 1) := by decide +kernel
theorem dL_value_0 : decode cL_value 0 = .ok (.aload 4, 2) := by decide +kernel
theorem dL_value_2 : decode cL_value 2 = .ok (.iconst 0, 1) := by decide +kernel
theorem dL_value_3 : decode cL_value 3 = .ok (.aload_n 0, 1) := by decide +kernel
theorem dL_value_4 : decode cL_value 4 = .ok (.iload_n 1, 1) := by decide +kernel
theorem dL_value_5 : decode cL_value 5 = .ok (.iload_n 2, 1) := by decide +kernel
theorem dL_value_6 : decode cL_value 6 = .ok (.iload_n 3, 1) := by decide +kernel
theorem dL_value_7 : decode cL_value 7 = .ok (.invokevirtual 45, 3) := by decide +kernel
theorem dL_value_15 : decode cL_value 15 = .ok (.astore 5, 2) := by decide +kernel
theorem dL_value_17 : decode cL_value 17 = .ok (.iconst 1, 1) := by decide +kernel
theorem dL_value_18 : decode cL_value 18 = .ok (.ireturn, 1) := by decide +kernel
theorem dL_stage_0 : decode cL_stage 0 = .ok (.aload 4, 2) := by decide +kernel
theorem dL_stage_2 : decode cL_stage 2 = .ok (.iconst 0, 1) := by decide +kernel
theorem dL_stage_3 : decode cL_stage 3 = .ok (.aload_n 0, 1) := by decide +kernel
theorem dL_stage_4 : decode cL_stage 4 = .ok (.iload_n 1, 1) := by decide +kernel
theorem dL_stage_5 : decode cL_stage 5 = .ok (.iload_n 2, 1) := by decide +kernel
theorem dL_stage_6 : decode cL_stage 6 = .ok (.iload_n 3, 1) := by decide +kernel
theorem dL_stage_7 : decode cL_stage 7 = .ok (.invokevirtual 48, 3) := by decide +kernel
theorem dL_stage_15 : decode cL_stage 15 = .ok (.astore 5, 2) := by decide +kernel
theorem dL_stage_17 : decode cL_stage 17 = .ok (.iconst 1, 1) := by decide +kernel
theorem dL_stage_18 : decode cL_stage 18 = .ok (.ireturn, 1) := by decide +kernel
theorem dL_find_0 : decode cL_find 0 = .ok (.aload 4, 2) := by decide +kernel
theorem dL_find_2 : decode cL_find 2 = .ok (.iconst 0, 1) := by decide +kernel
theorem dL_find_3 : decode cL_find 3 = .ok (.aload_n 0, 1) := by decide +kernel
theorem dL_find_4 : decode cL_find 4 = .ok (.iload_n 1, 1) := by decide +kernel
theorem dL_find_5 : decode cL_find 5 = .ok (.iload_n 2, 1) := by decide +kernel
theorem dL_find_6 : decode cL_find 6 = .ok (.iload_n 3, 1) := by decide +kernel
theorem dL_find_7 : decode cL_find 7 = .ok (.invokevirtual 51, 3) := by decide +kernel
theorem dL_find_15 : decode cL_find 15 = .ok (.astore 5, 2) := by decide +kernel
theorem dL_find_17 : decode cL_find 17 = .ok (.iconst 1, 1) := by decide +kernel
theorem dL_find_18 : decode cL_find 18 = .ok (.ireturn, 1) := by decide +kernel
theorem dL_reach_0 : decode cL_reach 0 = .ok (.aload 4, 2) := by decide +kernel
theorem dL_reach_2 : decode cL_reach 2 = .ok (.iconst 0, 1) := by decide +kernel
theorem dL_reach_3 : decode cL_reach 3 = .ok (.aload_n 0, 1) := by decide +kernel
theorem dL_reach_4 : decode cL_reach 4 = .ok (.iload_n 1, 1) := by decide +kernel
theorem dL_reach_5 : decode cL_reach 5 = .ok (.iload_n 2, 1) := by decide +kernel
theorem dL_reach_6 : decode cL_reach 6 = .ok (.iload_n 3, 1) := by decide +kernel
theorem dL_reach_7 : decode cL_reach 7 = .ok (.invokevirtual 67, 3) := by decide +kernel
theorem dL_reach_15 : decode cL_reach 15 = .ok (.astore 5, 2) := by decide +kernel
theorem dL_reach_17 : decode cL_reach 17 = .ok (.iconst 1, 1) := by decide +kernel
theorem dL_reach_18 : decode cL_reach 18 = .ok (.ireturn, 1) := by decide +kernel
theorem dL_condition_0 : decode cL_condition 0 = .ok (.aload 6, 2) := by decide +kernel
theorem dL_condition_2 : decode cL_condition 2 = .ok (.iconst 0, 1) := by decide +kernel
theorem dL_condition_3 : decode cL_condition 3 = .ok (.aload_n 0, 1) := by decide +kernel
theorem dL_condition_4 : decode cL_condition 4 = .ok (.iload_n 1, 1) := by decide +kernel
theorem dL_condition_5 : decode cL_condition 5 = .ok (.iload_n 2, 1) := by decide +kernel
theorem dL_condition_6 : decode cL_condition 6 = .ok (.iload_n 3, 1) := by decide +kernel
theorem dL_condition_7 : decode cL_condition 7 = .ok (.iload 4, 2) := by decide +kernel
theorem dL_condition_9 : decode cL_condition 9 = .ok (.iload 5, 2) := by decide +kernel
theorem dL_condition_11 : decode cL_condition 11 = .ok (.invokevirtual 63, 3) := by decide +kernel
theorem dL_condition_19 : decode cL_condition 19 = .ok (.astore 7, 2) := by decide +kernel
theorem dL_condition_21 : decode cL_condition 21 = .ok (.iconst 1, 1) := by decide +kernel
theorem dL_condition_22 : decode cL_condition 22 = .ok (.ireturn, 1) := by decide +kernel
theorem dL_predicate_0 : decode cL_predicate 0 = .ok (.aload_n 3, 1) := by decide +kernel
theorem dL_predicate_1 : decode cL_predicate 1 = .ok (.iconst 0, 1) := by decide +kernel
theorem dL_predicate_2 : decode cL_predicate 2 = .ok (.aload_n 0, 1) := by decide +kernel
theorem dL_predicate_3 : decode cL_predicate 3 = .ok (.iload_n 1, 1) := by decide +kernel
theorem dL_predicate_4 : decode cL_predicate 4 = .ok (.iload_n 2, 1) := by decide +kernel
theorem dL_predicate_5 : decode cL_predicate 5 = .ok (.invokevirtual 32, 3) := by decide +kernel
theorem dL_predicate_13 : decode cL_predicate 13 = .ok (.astore 4, 2) := by decide +kernel
theorem dL_predicate_15 : decode cL_predicate 15 = .ok (.iconst 1, 1) := by decide +kernel
theorem dL_predicate_16 : decode cL_predicate 16 = .ok (.ireturn, 1) := by decide +kernel
theorem dL_clause_0 : decode cL_clause 0 = .ok (.aload 4, 2) := by decide +kernel
theorem dL_clause_2 : decode cL_clause 2 = .ok (.iconst 0, 1) := by decide +kernel
theorem dL_clause_3 : decode cL_clause 3 = .ok (.aload_n 0, 1) := by decide +kernel
theorem dL_clause_4 : decode cL_clause 4 = .ok (.iload_n 1, 1) := by decide +kernel
theorem dL_clause_5 : decode cL_clause 5 = .ok (.iload_n 2, 1) := by decide +kernel
theorem dL_clause_6 : decode cL_clause 6 = .ok (.iload_n 3, 1) := by decide +kernel
theorem dL_clause_7 : decode cL_clause 7 = .ok (.invokevirtual 39, 3) := by decide +kernel
theorem dL_clause_15 : decode cL_clause 15 = .ok (.astore 5, 2) := by decide +kernel
theorem dL_clause_17 : decode cL_clause 17 = .ok (.iconst 1, 1) := by decide +kernel
theorem dL_clause_18 : decode cL_clause 18 = .ok (.ireturn, 1) := by decide +kernel
theorem dL_literals_0 : decode cL_literals 0 = .ok (.aload_n 2, 1) := by decide +kernel
theorem dL_literals_1 : decode cL_literals 1 = .ok (.iconst 0, 1) := by decide +kernel
theorem dL_literals_2 : decode cL_literals 2 = .ok (.aload_n 0, 1) := by decide +kernel
theorem dL_literals_3 : decode cL_literals 3 = .ok (.iload_n 1, 1) := by decide +kernel
theorem dL_literals_4 : decode cL_literals 4 = .ok (.invokevirtual 42, 3) := by decide +kernel
theorem dL_literals_12 : decode cL_literals 12 = .ok (.astore_n 3, 1) := by decide +kernel
theorem dL_literals_13 : decode cL_literals 13 = .ok (.iconst 1, 1) := by decide +kernel
theorem dL_literals_14 : decode cL_literals 14 = .ok (.ireturn, 1) := by decide +kernel
theorem dL_table_0 : decode cL_table 0 = .ok (.aload_n 3, 1) := by decide +kernel
theorem dL_table_1 : decode cL_table 1 = .ok (.iconst 0, 1) := by decide +kernel
theorem dL_table_2 : decode cL_table 2 = .ok (.aload_n 0, 1) := by decide +kernel
theorem dL_table_3 : decode cL_table 3 = .ok (.iload_n 1, 1) := by decide +kernel
theorem dL_table_4 : decode cL_table 4 = .ok (.iload_n 2, 1) := by decide +kernel
theorem dL_table_5 : decode cL_table 5 = .ok (.invokevirtual 54, 3) := by decide +kernel
theorem dL_table_13 : decode cL_table 13 = .ok (.astore 4, 2) := by decide +kernel
theorem dL_table_15 : decode cL_table 15 = .ok (.iconst 1, 1) := by decide +kernel
theorem dL_table_16 : decode cL_table 16 = .ok (.ireturn, 1) := by decide +kernel
theorem dL_calls_0 : decode cL_calls 0 = .ok (.aload 4, 2) := by decide +kernel
theorem dL_calls_2 : decode cL_calls 2 = .ok (.iconst 0, 1) := by decide +kernel
theorem dL_calls_3 : decode cL_calls 3 = .ok (.aload_n 0, 1) := by decide +kernel
theorem dL_calls_4 : decode cL_calls 4 = .ok (.iload_n 1, 1) := by decide +kernel
theorem dL_calls_5 : decode cL_calls 5 = .ok (.iload_n 2, 1) := by decide +kernel
theorem dL_calls_6 : decode cL_calls 6 = .ok (.iload_n 3, 1) := by decide +kernel
theorem dL_calls_7 : decode cL_calls 7 = .ok (.invokevirtual 57, 3) := by decide +kernel
theorem dL_calls_15 : decode cL_calls 15 = .ok (.astore 5, 2) := by decide +kernel
theorem dL_calls_17 : decode cL_calls 17 = .ok (.iconst 1, 1) := by decide +kernel
theorem dL_calls_18 : decode cL_calls 18 = .ok (.ireturn, 1) := by decide +kernel
theorem dL_answer_0 : decode cL_answer 0 = .ok (.aload 4, 2) := by decide +kernel
theorem dL_answer_2 : decode cL_answer 2 = .ok (.iconst 0, 1) := by decide +kernel
theorem dL_answer_3 : decode cL_answer 3 = .ok (.aload_n 0, 1) := by decide +kernel
theorem dL_answer_4 : decode cL_answer 4 = .ok (.iload_n 1, 1) := by decide +kernel
theorem dL_answer_5 : decode cL_answer 5 = .ok (.iload_n 2, 1) := by decide +kernel
theorem dL_answer_6 : decode cL_answer 6 = .ok (.iload_n 3, 1) := by decide +kernel
theorem dL_answer_7 : decode cL_answer 7 = .ok (.invokevirtual 60, 3) := by decide +kernel
theorem dL_answer_15 : decode cL_answer 15 = .ok (.astore 5, 2) := by decide +kernel
theorem dL_answer_17 : decode cL_answer 17 = .ok (.iconst 1, 1) := by decide +kernel
theorem dL_answer_18 : decode cL_answer 18 = .ok (.ireturn, 1) := by decide +kernel
theorem dL_told_0 : decode cL_told 0 = .ok (.aload_n 2, 1) := by decide +kernel
theorem dL_told_1 : decode cL_told 1 = .ok (.iconst 0, 1) := by decide +kernel
theorem dL_told_2 : decode cL_told 2 = .ok (.aload_n 0, 1) := by decide +kernel
theorem dL_told_3 : decode cL_told 3 = .ok (.iload_n 1, 1) := by decide +kernel
theorem dL_told_4 : decode cL_told 4 = .ok (.invokevirtual 29, 3) := by decide +kernel
theorem dL_told_7 : decode cL_told 7 = .ok (.i2l, 1) := by decide +kernel
theorem dL_told_8 : decode cL_told 8 = .ok (.lastore, 1) := by decide +kernel
theorem dL_told_9 : decode cL_told 9 = .ok (.goto 6, 3) := by decide +kernel
theorem dL_told_12 : decode cL_told 12 = .ok (.astore_n 3, 1) := by decide +kernel
theorem dL_told_13 : decode cL_told 13 = .ok (.iconst 1, 1) := by decide +kernel
theorem dL_told_14 : decode cL_told 14 = .ok (.ireturn, 1) := by decide +kernel
theorem dL_told_15 : decode cL_told 15 = .ok (.iconst 0, 1) := by decide +kernel
theorem dL_told_16 : decode cL_told 16 = .ok (.ireturn, 1) := by decide +kernel
theorem dL_nameAt_0 : decode cL_nameAt 0 = .ok (.aload 4, 2) := by decide +kernel
theorem dL_nameAt_2 : decode cL_nameAt 2 = .ok (.iconst 0, 1) := by decide +kernel
theorem dL_nameAt_3 : decode cL_nameAt 3 = .ok (.aload_n 0, 1) := by decide +kernel
theorem dL_nameAt_4 : decode cL_nameAt 4 = .ok (.iload_n 1, 1) := by decide +kernel
theorem dL_nameAt_5 : decode cL_nameAt 5 = .ok (.iload_n 2, 1) := by decide +kernel
theorem dL_nameAt_6 : decode cL_nameAt 6 = .ok (.iload_n 3, 1) := by decide +kernel
theorem dL_nameAt_7 : decode cL_nameAt 7 = .ok (.invokevirtual 36, 3) := by decide +kernel
theorem dL_nameAt_15 : decode cL_nameAt 15 = .ok (.astore 5, 2) := by decide +kernel
theorem dL_nameAt_17 : decode cL_nameAt 17 = .ok (.iconst 1, 1) := by decide +kernel
theorem dL_nameAt_18 : decode cL_nameAt 18 = .ok (.ireturn, 1) := by decide +kernel
theorem dL_nameAt_19 : decode cL_nameAt 19 = .ok (.astore 5, 2) := by decide +kernel
theorem dL_nameAt_21 : decode cL_nameAt 21 = .ok (.iconst 2, 1) := by decide +kernel
theorem dL_nameAt_22 : decode cL_nameAt 22 = .ok (.ireturn, 1) := by decide +kernel
set_option maxRecDepth 100000 in
set_option maxHeartbeats 4000000 in
theorem c_toldA (l : Launch) (D : va_G) (Y : Nat → ClassId) (h0 : Nat) (pr : Nat) (ta : Nat) (mo : Nat) (tr : Nat) (po : Nat) (gr : Nat) (fo : Nat) (so : Nat) (g : Nat → Value) (gp : Nat → Value) (gt : Nat → Value) (gm : Nat → Value) (gf : Nat → Value) (fs : Nat → Int32) (j1 : Int32) (g_1 : g 1 = .int 0) (g_4 : g 4 = .ref pr) (g_6 : g 6 = .ref mo) (g_8 : g 8 = .ref ta) (gp_0 : gp 0 = .int 0) (gp_1 : gp 1 = .int 0) (gp_2 : gp 2 = .int 0) (gt_0 : gt 0 = .int 0) (gt_1 : gt 1 = .int 0) (gt_2 : gt 2 = .int 0) (gm_0 : gm 0 = .int 0) (gm_2 : gm 2 = .ref tr) (gm_3 : gm 3 = .ref po) (gm_4 : gm 4 = .ref so) (gm_5 : gm 5 = .ref gr) (gm_6 : gm 6 = .ref fo) (hj : j1 = 0 ∨ j1 = 1 ∨ j1 = 2 ∨ j1 = 3 ∨ j1 = 4 ∨ j1 = 5 ∨ j1 = 6 ∨ j1 = 7 ∨ j1 = 8 ∨ j1 = 9 ∨ j1 = 10 ∨ j1 = 11) : cM l D Y yX9_told cX9_told 2 (some .int) 4 0 0 [.ref h0, .int j1] [(h0, .inr (8, fl 9 g)), (pr, .inr (3, fl 9 gp)), (ta, .inr (6, fl 14 gt)), (mo, .inr (2, fl 7 gm)), (tr, .inl (Y 1, 10, .inr (.inl (fun _ => 0)))), (po, .inl (Y 1, 10, .inr (.inl (fun _ => 0)))), (gr, .inl (Y 1, 10, .inr (.inl (fun _ => 0)))), (fo, .inr (1, fl 7 gf)), (so, .inl (Y 0, 640, .inl fs))] (qI D (fun (r : Int32) (u : Unit) => r = 0) (fun (u : Unit) => [])) := by
  rcases hj with rfl | rfl | rfl | rfl | rfl | rfl | rfl | rfl | rfl | rfl | rfl | rfl
  · exact c_told_0 l D Y h0 pr ta mo tr po gr fo so g gp gt gm gf fs g_1 g_4 g_6 g_8 gp_0 gp_1 gp_2 gt_0 gt_1 gt_2 gm_0 gm_2 gm_3 gm_4 gm_5 gm_6
  · exact c_told_1 l D Y h0 pr ta mo tr po gr fo so g gp gt gm gf fs g_1 g_4 g_6 g_8 gp_0 gp_1 gp_2 gt_0 gt_1 gt_2 gm_0 gm_2 gm_3 gm_4 gm_5 gm_6
  · exact c_told_2 l D Y h0 pr ta mo tr po gr fo so g gp gt gm gf fs g_1 g_4 g_6 g_8 gp_0 gp_1 gp_2 gt_0 gt_1 gt_2 gm_0 gm_2 gm_3 gm_4 gm_5 gm_6
  · exact c_told_3 l D Y h0 pr ta mo tr po gr fo so g gp gt gm gf fs g_1 g_4 g_6 g_8 gp_0 gp_1 gp_2 gt_0 gt_1 gt_2 gm_0 gm_2 gm_3 gm_4 gm_5 gm_6
  · exact c_told_4 l D Y h0 pr ta mo tr po gr fo so g gp gt gm gf fs g_1 g_4 g_6 g_8 gp_0 gp_1 gp_2 gt_0 gt_1 gt_2 gm_0 gm_2 gm_3 gm_4 gm_5 gm_6
  · exact c_told_5 l D Y h0 pr ta mo tr po gr fo so g gp gt gm gf fs g_1 g_4 g_6 g_8 gp_0 gp_1 gp_2 gt_0 gt_1 gt_2 gm_0 gm_2 gm_3 gm_4 gm_5 gm_6
  · exact c_told_6 l D Y h0 pr ta mo tr po gr fo so g gp gt gm gf fs g_1 g_4 g_6 g_8 gp_0 gp_1 gp_2 gt_0 gt_1 gt_2 gm_0 gm_2 gm_3 gm_4 gm_5 gm_6
  · exact c_told_7 l D Y h0 pr ta mo tr po gr fo so g gp gt gm gf fs g_1 g_4 g_6 g_8 gp_0 gp_1 gp_2 gt_0 gt_1 gt_2 gm_0 gm_2 gm_3 gm_4 gm_5 gm_6
  · exact c_told_8 l D Y h0 pr ta mo tr po gr fo so g gp gt gm gf fs g_1 g_4 g_6 g_8 gp_0 gp_1 gp_2 gt_0 gt_1 gt_2 gm_0 gm_2 gm_3 gm_4 gm_5 gm_6
  · exact c_told_9 l D Y h0 pr ta mo tr po gr fo so g gp gt gm gf fs g_1 g_4 g_6 g_8 gp_0 gp_1 gp_2 gt_0 gt_1 gt_2 gm_0 gm_2 gm_3 gm_4 gm_5 gm_6
  · exact c_told_10 l D Y h0 pr ta mo tr po gr fo so g gp gt gm gf fs g_1 g_4 g_6 g_8 gp_0 gp_1 gp_2 gt_0 gt_1 gt_2 gm_0 gm_2 gm_3 gm_4 gm_5 gm_6
  · exact c_told_11 l D Y h0 pr ta mo tr po gr fo so g gp gt gm gf fs g_1 g_4 g_6 g_8 gp_0 gp_1 gp_2 gt_0 gt_1 gt_2 gm_0 gm_2 gm_3 gm_4 gm_5 gm_6
set_option maxRecDepth 100000 in
set_option maxHeartbeats 4000000 in
theorem m_toldA (l : Launch) (D : va_G) (Y : Nat → ClassId) (mm : Nat) (kn : Nat) (ps : Nat) (nx : Nat) (ta : Nat) (fa : Nat) (j1 : Int32) (g : Nat → Value) (f1 : Nat → Int32) (f2 : Nat → Int32) (g_2 : g 2 = .int 0) (g_3 : g 3 = .int 0) (g_4 : g 4 = .int 0) (g_10 : g 10 = .ref kn) (g_11 : g 11 = .ref ps) (g_12 : g 12 = .ref nx) (g_13 : g 13 = .ref ta) (g_14 : g 14 = .ref fa) (g_16 : g 16 = .int 0) (g_20 : g 20 = .int 0) (g_46 : g 46 = .int 0) (g_47 : g 47 = .int 0) (g_48 : g 48 = .int 0) (hj : j1 = 0 ∨ j1 = 1 ∨ j1 = 2 ∨ j1 = 3 ∨ j1 = 4 ∨ j1 = 5 ∨ j1 = 6 ∨ j1 = 7 ∨ j1 = 8 ∨ j1 = 9 ∨ j1 = 10 ∨ j1 = 11) : cM l D Y yX10_told cX10_told 2 (some .int) 3 0 0 [.ref mm, .int j1] [(mm, .inr (9, fl 77 g)), (kn, .inl (Y 2, 640, .inl (fun _ => 0))), (ps, .inl (Y 2, 640, .inl (fun _ => 0))), (nx, .inl (Y 2, 640, .inl (fun _ => 0))), (ta, .inl (Y 0, 640, .inl f1)), (fa, .inl (Y 0, 640, .inl f2))] (qI D (fun (r : Int32) (u : Nat → Value) => r = 0 ∧ u 0 = .int 0) (fun (u : Nat → Value) => [(mm, .inr (9, fl 77 u))])) := by
  rcases hj with rfl | rfl | rfl | rfl | rfl | rfl | rfl | rfl | rfl | rfl | rfl | rfl
  · exact m_told_0 l D Y mm kn ps nx ta fa g f1 f2 g_2 g_3 g_4 g_10 g_11 g_12 g_13 g_14 g_16 g_20 g_46 g_47 g_48
  · exact m_told_1 l D Y mm kn ps nx ta fa g f1 f2 g_2 g_3 g_4 g_10 g_11 g_12 g_13 g_14 g_16 g_20 g_46 g_47 g_48
  · exact m_told_2 l D Y mm kn ps nx ta fa g f1 f2 g_2 g_3 g_4 g_10 g_11 g_12 g_13 g_14 g_16 g_20 g_46 g_47 g_48
  · exact m_told_3 l D Y mm kn ps nx ta fa g f1 f2 g_2 g_3 g_4 g_10 g_11 g_12 g_13 g_14 g_16 g_20 g_46 g_47 g_48
  · exact m_told_4 l D Y mm kn ps nx ta fa g f1 f2 g_2 g_3 g_4 g_10 g_11 g_12 g_13 g_14 g_16 g_20 g_46 g_47 g_48
  · exact m_told_5 l D Y mm kn ps nx ta fa g f1 f2 g_2 g_3 g_4 g_10 g_11 g_12 g_13 g_14 g_16 g_20 g_46 g_47 g_48
  · exact m_told_6 l D Y mm kn ps nx ta fa g f1 f2 g_2 g_3 g_4 g_10 g_11 g_12 g_13 g_14 g_16 g_20 g_46 g_47 g_48
  · exact m_told_7 l D Y mm kn ps nx ta fa g f1 f2 g_2 g_3 g_4 g_10 g_11 g_12 g_13 g_14 g_16 g_20 g_46 g_47 g_48
  · exact m_told_8 l D Y mm kn ps nx ta fa g f1 f2 g_2 g_3 g_4 g_10 g_11 g_12 g_13 g_14 g_16 g_20 g_46 g_47 g_48
  · exact m_told_9 l D Y mm kn ps nx ta fa g f1 f2 g_2 g_3 g_4 g_10 g_11 g_12 g_13 g_14 g_16 g_20 g_46 g_47 g_48
  · exact m_told_10 l D Y mm kn ps nx ta fa g f1 f2 g_2 g_3 g_4 g_10 g_11 g_12 g_13 g_14 g_16 g_20 g_46 g_47 g_48
  · exact m_told_11 l D Y mm kn ps nx ta fa g f1 f2 g_2 g_3 g_4 g_10 g_11 g_12 g_13 g_14 g_16 g_20 g_46 g_47 g_48
set_option maxRecDepth 100000 in
set_option maxHeartbeats 4000000 in
theorem w_text0 (l : Launch) (hfl : l.stackTraces = false) (D : va_G) (Y : Nat → ClassId) (h0 : Nat) (tp : Nat) (pr : Nat) (sp : Nat) (mo : Nat) (ta : Nat) (nu : Nat) (g : Nat → Value) (gp : Nat → Value) (gs : Nat → Value) (gm : Nat → Value) (gt : Nat → Value) (f : Nat → Int32) (fn : Nat → Int32) (ou : Nat) (g_0 : g 0 = .ref tp) (g_1 : g 1 = .int 0) (g_4 : g 4 = .ref pr) (g_5 : g 5 = .ref sp) (g_6 : g 6 = .ref mo) (g_8 : g 8 = .ref ta) (gt_5 : gt 5 = .ref nu)  : hM l D Y yL_text cL_text 4 (some .int) [(0, 9, 12, 13)] 5 3 16 [.ref h0, .int 0, .ref ou] [(h0, .inr (8, fl 9 g)), (tp, .inl (Y 0, 400, .inl f)), (pr, .inr (3, fl 9 gp)), (sp, .inr (3, fl 9 gs)), (mo, .inr (2, fl 7 gm)), (ta, .inr (6, fl 14 gt)), (nu, .inl (Y 0, 1000, .inl fn)), (ou, .inl (Y 1, 1, .inr (.inl (fun _ => 0))))] (qI D (fun (r : Int32) (u : Unit) => r = 0) (fun (u : Unit) => [(ou, .inl (Y 1, 1, .inr (.inl (fun _ => 0))))])) := by
  refine hM.mk RL rfl (by decide) (Nat.le_of_ble_eq_true rfl) ?_
  intro p e s m below meth c A F hr hlocks htab hK hZ hP hD hA hS ls hl
  have hx := F.1
  have hb := F.2.1
  have hl : lv_has ls 4 [(0, .ref h0), (1, .int 0), (2, .ref ou)] := hl
  refine lv_aload_n hx hb dL_text_0 rfl (lv_at hl 2 rfl) ?_
  refine lv_iconst (v := 0) hx hb dL_text_1 (by decide) ?_
  refine lv_aload_n hx hb dL_text_2 rfl (lv_at hl 0 rfl) ?_
  refine lv_iload_n hx hb dL_text_3 rfl (lv_at hl 1 rfl) ?_
  refine goI (wr := [(ou, .inl (Y 1, 1, .inr (.inl (fun _ => 0))))]) (runV (n := 1) (As := [.int 0]) (rest := [.int 0, .ref ou]) (C := RX9) (T := TX9) (N := 9) (ci := 8) F hK hZ hP hD hS hA (c_text0 l D Y h0 tp pr sp mo ta nu g gp gs gm gt f fn g_0 g_1 g_4 g_5 g_6 g_8 gt_5 ) 0 rfl rfl [0, 1, 2, 3, 4, 5, 6] rfl rfl m_393 m_394 m_395 m_6 m_392 (by decide +kernel) rfl ⟨Nat.le_of_ble_eq_true rfl, Nat.le_of_ble_eq_true rfl⟩ hl.1 rfl (Nat.le_of_ble_eq_true rfl) dL_text_4 ⟨Nat.le_of_ble_eq_true rfl, Nat.le_of_ble_eq_true rfl⟩) hP hD hS hA [0, 1, 2, 3, 4, 5, 6] [7] rfl rfl rfl (by decide) (fun r_1 u H locs hw hP hD hS => ?_)
  have hrr := hw
  have hP : va_P D vwCl [(ou, .inl (Y 1, 1, .inr (.inl (fun _ => 0))))] H := hP
  have hD : va_D A [(ou, .inl (Y 1, 1, .inr (.inl (fun _ => 0))))] := hD
  subst hrr
  refine W.widen (k := 3) (n := 16) (Nat.le_of_ble_eq_true rfl) (Nat.le_of_ble_eq_true rfl) ?_
  refine lv_i2l (v := 0) hx hb dL_text_7 (by decide) ?_
  refine va_last hx hb hK.1 hP hD hS 0 1 rfl rfl (by unfold vp_in; decide) dL_text_8 (fun H locs hP hD hS => ?_)
  have hP : va_P D vwCl [(ou, .inl (Y 1, 1, .inr (.inl (vp_updL (fun _ => 0) (0 : Int32).toNatClampNeg 0))))] H := hP
  have hD : va_D A [(ou, .inl (Y 1, 1, .inr (.inl (vp_updL (fun _ => 0) (0 : Int32).toNatClampNeg 0))))] := hD
  have e_f : (vp_updL (fun _ => 0) (0 : Int32).toNatClampNeg 0) = (fun _ => 0) := updL0 _
  rw [e_f] at hP hD
  clear e_f
  refine lv_goto (tgt := 15) hx hb dL_text_9 (by decide) ?_
  refine lv_iconst (v := 0) hx hb dL_text_15 (by decide) ?_
  exact retI F hr hlocks rfl hP hD hS () [0] rfl rfl (Nat.le_of_ble_eq_true rfl) (Nat.le_of_ble_eq_true rfl) dL_text_16 rfl
set_option maxRecDepth 100000 in
set_option maxHeartbeats 4000000 in
theorem w_textB (l : Launch) (hfl : l.stackTraces = false) (D : va_G) (Y : Nat → ClassId) (h0 : Nat) (rf : Nat) (g : Nat → Value) (f : Nat → Int32) (j : Int32) (ou : Nat) (g_1 : g 1 = .int 0) (g_3 : g 3 = .ref rf) (hj : ¬ j = 0) : hM l D Y yL_text cL_text 4 (some .int) [(0, 9, 12, 13)] 3 1 6 [.ref h0, .int j, .ref ou] [(h0, .inr (8, fl 9 g)), (rf, .inl (Y 0, 3, .inl f)), (ou, .inl (Y 1, 1, .inr (.inl (fun _ => 0))))] (qI D (fun (r : Int32) (u : Unit) => r = 1) (fun (u : Unit) => [(ou, .inl (Y 1, 1, .inr (.inl (fun _ => 0))))])) := by
  refine hM.mk RL rfl (by decide) (Nat.le_of_ble_eq_true rfl) ?_
  intro p e s m below meth c A F hr hlocks htab hK hZ hP hD hA hS ls hl
  have hx := F.1
  have hb := F.2.1
  have hl : lv_has ls 4 [(0, .ref h0), (1, .int j), (2, .ref ou)] := hl
  refine lv_aload_n hx hb dL_text_0 rfl (lv_at hl 2 rfl) ?_
  refine lv_iconst (v := 0) hx hb dL_text_1 (by decide) ?_
  refine lv_aload_n hx hb dL_text_2 rfl (lv_at hl 0 rfl) ?_
  refine lv_iload_n hx hb dL_text_3 rfl (lv_at hl 1 rfl) ?_
  refine xgoI (wr := [(ou, .inl (Y 1, 1, .inr (.inl (fun _ => 0))))]) (xrunV (n := 1) (As := [.int j]) (rest := [.int 0, .ref ou]) (C := RX9) (T := TX9) (N := 9) (ci := 8) F hK hZ hP hD hS hA (c_textB l hfl D Y h0 rf g f j g_1 g_3 hj) 0 rfl rfl [0, 1] rfl rfl m_393 m_394 m_395 m_6 m_392 (by decide +kernel) rfl ⟨Nat.le_of_ble_eq_true rfl, Nat.le_of_ble_eq_true rfl⟩ hl.1 rfl (Nat.le_of_ble_eq_true rfl) dL_text_4 ⟨Nat.le_of_ble_eq_true rfl, Nat.le_of_ble_eq_true rfl⟩) hP hD hS hA [0, 1] [2] rfl rfl rfl (by decide) (fun E ce q9 H locs hE hP hD hS h1 h2 h3 => ?_) (fun r_1 u H locs hw hP hD hS => ?_)
  · skip
    subst hE
    refine vx_catch (ls := ls) F.2.2.2.1 [] ⟨0, 9, 12, 13⟩ [] htab (fun z h => absurd h List.not_mem_nil) (by decide) (by decide) (F.2.2.2.2 _ m_396) (va_Nw.use rfl hK.2.2.2.2.2.2.1) h1 h2 h3 ?_
    have hP : va_P D vwCl [(ou, .inl (Y 1, 1, .inr (.inl (fun _ => 0))))] H := hP
    have hD : va_D A [(ou, .inl (Y 1, 1, .inr (.inl (fun _ => 0))))] := hD
    refine W.widen (k := 1) (n := 6) (Nat.le_of_ble_eq_true rfl) (Nat.le_of_ble_eq_true rfl) ?_
    refine lv_astore_n (lv' := [(3, .ref q9), (0, .ref h0), (1, .int j), (2, .ref ou)]) hx hb dL_text_12 rfl hl (by decide) rfl (fun ls hl => ?_)
    refine lv_iconst (v := 1) hx hb dL_text_13 (by decide) ?_
    exact retI F hr hlocks rfl hP hD hS () [0] rfl rfl (Nat.le_of_ble_eq_true rfl) (Nat.le_of_ble_eq_true rfl) dL_text_14 rfl
  · exact hw.elim
set_option maxRecDepth 100000 in
set_option maxHeartbeats 4000000 in
theorem w_assume (l : Launch) (hfl : l.stackTraces = false) (D : va_G) (Y : Nat → ClassId) (h0 : Nat) (rf : Nat) (pr : Nat) (g : Nat → Value) (gp : Nat → Value) (f : Nat → Int32) (j1 : Int32) (j2 : Int32) (j3 : Int32) (ou : Nat) (g_3 : g 3 = .ref rf) (g_4 : g 4 = .ref pr) (gp_0 : gp 0 = .int 0) (gp_1 : gp 1 = .int 0) (gp_2 : gp 2 = .int 0)  : hM l D Y yL_assume cL_assume 6 (some .int) [(0, 12, 15, 19), (0, 12, 19, 13), (0, 12, 23, 21)] 6 1 6 [.ref h0, .int j1, .int j2, .int j3, .ref ou] [(h0, .inr (8, fl 9 g)), (rf, .inl (Y 0, 3, .inl f)), (pr, .inr (3, fl 9 gp)), (ou, .inl (Y 1, 1, .inr (.inl (fun _ => 0))))] (qI D (fun (r : Int32) (u : Unit) => r = 1) (fun (u : Unit) => [(ou, .inl (Y 1, 1, .inr (.inl (fun _ => 0))))])) := by
  refine hM.mk RL rfl (by decide) (Nat.le_of_ble_eq_true rfl) ?_
  intro p e s m below meth c A F hr hlocks htab hK hZ hP hD hA hS ls hl
  have hx := F.1
  have hb := F.2.1
  have hl : lv_has ls 6 [(0, .ref h0), (1, .int j1), (2, .int j2), (3, .int j3), (4, .ref ou)] := hl
  refine lv_aload hx hb dL_assume_0 (lv_at hl 4 rfl) ?_
  refine lv_iconst (v := 0) hx hb dL_assume_2 (by decide) ?_
  refine lv_aload_n hx hb dL_assume_3 rfl (lv_at hl 0 rfl) ?_
  refine lv_iload_n hx hb dL_assume_4 rfl (lv_at hl 1 rfl) ?_
  refine lv_iload_n hx hb dL_assume_5 rfl (lv_at hl 2 rfl) ?_
  refine lv_iload_n hx hb dL_assume_6 rfl (lv_at hl 3 rfl) ?_
  refine xgoI (wr := [(ou, .inl (Y 1, 1, .inr (.inl (fun _ => 0))))]) (xrunV (n := 3) (As := [.int j1, .int j2, .int j3]) (rest := [.int 0, .ref ou]) (C := RX9) (T := TX9) (N := 9) (ci := 8) F hK hZ hP hD hS hA (c_xassume l hfl D Y h0 rf pr g gp f j1 j2 j3 g_3 g_4 gp_0 gp_1 gp_2 ) 0 rfl rfl [0, 1, 2] rfl rfl m_398 m_399 m_400 m_6 m_397 (by decide +kernel) rfl ⟨Nat.le_of_ble_eq_true rfl, Nat.le_of_ble_eq_true rfl⟩ hl.1 rfl (Nat.le_of_ble_eq_true rfl) dL_assume_7 ⟨Nat.le_of_ble_eq_true rfl, Nat.le_of_ble_eq_true rfl⟩) hP hD hS hA [0, 1, 2] [3] rfl rfl rfl (by decide) (fun E ce q9 H locs hE hP hD hS h1 h2 h3 => ?_) (fun r_1 u H locs hw hP hD hS => ?_)
  · skip
    subst hE
    refine vx_catch (ls := ls) F.2.2.2.1 [] ⟨0, 12, 15, 19⟩ [⟨0, 12, 19, 13⟩, ⟨0, 12, 23, 21⟩] htab (fun z h => absurd h List.not_mem_nil) (by decide) (by decide) (F.2.2.2.2 _ m_401) (va_Nw.use rfl hK.2.2.2.2.2.1) h1 h2 h3 ?_
    have hP : va_P D vwCl [(ou, .inl (Y 1, 1, .inr (.inl (fun _ => 0))))] H := hP
    have hD : va_D A [(ou, .inl (Y 1, 1, .inr (.inl (fun _ => 0))))] := hD
    refine W.widen (k := 1) (n := 6) (Nat.le_of_ble_eq_true rfl) (Nat.le_of_ble_eq_true rfl) ?_
    refine lv_astore (lv' := [(5, .ref q9), (0, .ref h0), (1, .int j1), (2, .int j2), (3, .int j3), (4, .ref ou)]) hx hb dL_assume_15 hl (by decide) rfl (fun ls hl => ?_)
    refine lv_iconst (v := 1) hx hb dL_assume_17 (by decide) ?_
    exact retI F hr hlocks rfl hP hD hS () [0] rfl rfl (Nat.le_of_ble_eq_true rfl) (Nat.le_of_ble_eq_true rfl) dL_assume_18 rfl
  · exact hw.elim
set_option maxRecDepth 100000 in
set_option maxHeartbeats 4000000 in
theorem w_retract (l : Launch) (hfl : l.stackTraces = false) (D : va_G) (Y : Nat → ClassId) (h0 : Nat) (rf : Nat) (pr : Nat) (g : Nat → Value) (gp : Nat → Value) (f : Nat → Int32) (j1 : Int32) (j2 : Int32) (j3 : Int32) (ou : Nat) (g_3 : g 3 = .ref rf) (g_4 : g 4 = .ref pr) (gp_0 : gp 0 = .int 0) (gp_1 : gp 1 = .int 0) (gp_2 : gp 2 = .int 0)  : hM l D Y yL_retract cL_retract 6 (some .int) [(0, 12, 15, 19), (0, 12, 19, 13)] 6 1 6 [.ref h0, .int j1, .int j2, .int j3, .ref ou] [(h0, .inr (8, fl 9 g)), (rf, .inl (Y 0, 3, .inl f)), (pr, .inr (3, fl 9 gp)), (ou, .inl (Y 1, 1, .inr (.inl (fun _ => 0))))] (qI D (fun (r : Int32) (u : Unit) => r = 1) (fun (u : Unit) => [(ou, .inl (Y 1, 1, .inr (.inl (fun _ => 0))))])) := by
  refine hM.mk RL rfl (by decide) (Nat.le_of_ble_eq_true rfl) ?_
  intro p e s m below meth c A F hr hlocks htab hK hZ hP hD hA hS ls hl
  have hx := F.1
  have hb := F.2.1
  have hl : lv_has ls 6 [(0, .ref h0), (1, .int j1), (2, .int j2), (3, .int j3), (4, .ref ou)] := hl
  refine lv_aload hx hb dL_retract_0 (lv_at hl 4 rfl) ?_
  refine lv_iconst (v := 0) hx hb dL_retract_2 (by decide) ?_
  refine lv_aload_n hx hb dL_retract_3 rfl (lv_at hl 0 rfl) ?_
  refine lv_iload_n hx hb dL_retract_4 rfl (lv_at hl 1 rfl) ?_
  refine lv_iload_n hx hb dL_retract_5 rfl (lv_at hl 2 rfl) ?_
  refine lv_iload_n hx hb dL_retract_6 rfl (lv_at hl 3 rfl) ?_
  refine xgoI (wr := [(ou, .inl (Y 1, 1, .inr (.inl (fun _ => 0))))]) (xrunV (n := 3) (As := [.int j1, .int j2, .int j3]) (rest := [.int 0, .ref ou]) (C := RX9) (T := TX9) (N := 9) (ci := 8) F hK hZ hP hD hS hA (c_xretract l hfl D Y h0 rf pr g gp f j1 j2 j3 g_3 g_4 gp_0 gp_1 gp_2 ) 0 rfl rfl [0, 1, 2] rfl rfl m_403 m_404 m_405 m_6 m_402 (by decide +kernel) rfl ⟨Nat.le_of_ble_eq_true rfl, Nat.le_of_ble_eq_true rfl⟩ hl.1 rfl (Nat.le_of_ble_eq_true rfl) dL_retract_7 ⟨Nat.le_of_ble_eq_true rfl, Nat.le_of_ble_eq_true rfl⟩) hP hD hS hA [0, 1, 2] [3] rfl rfl rfl (by decide) (fun E ce q9 H locs hE hP hD hS h1 h2 h3 => ?_) (fun r_1 u H locs hw hP hD hS => ?_)
  · skip
    subst hE
    refine vx_catch (ls := ls) F.2.2.2.1 [] ⟨0, 12, 15, 19⟩ [⟨0, 12, 19, 13⟩] htab (fun z h => absurd h List.not_mem_nil) (by decide) (by decide) (F.2.2.2.2 _ m_401) (va_Nw.use rfl hK.2.2.2.2.2.1) h1 h2 h3 ?_
    have hP : va_P D vwCl [(ou, .inl (Y 1, 1, .inr (.inl (fun _ => 0))))] H := hP
    have hD : va_D A [(ou, .inl (Y 1, 1, .inr (.inl (fun _ => 0))))] := hD
    refine W.widen (k := 1) (n := 6) (Nat.le_of_ble_eq_true rfl) (Nat.le_of_ble_eq_true rfl) ?_
    refine lv_astore (lv' := [(5, .ref q9), (0, .ref h0), (1, .int j1), (2, .int j2), (3, .int j3), (4, .ref ou)]) hx hb dL_retract_15 hl (by decide) rfl (fun ls hl => ?_)
    refine lv_iconst (v := 1) hx hb dL_retract_17 (by decide) ?_
    exact retI F hr hlocks rfl hP hD hS () [0] rfl rfl (Nat.le_of_ble_eq_true rfl) (Nat.le_of_ble_eq_true rfl) dL_retract_18 rfl
  · exact hw.elim
set_option maxRecDepth 100000 in
set_option maxHeartbeats 4000000 in
theorem w_ask (l : Launch) (hfl : l.stackTraces = false) (D : va_G) (Y : Nat → ClassId) (h0 : Nat) (rf : Nat) (pr : Nat) (g : Nat → Value) (gp : Nat → Value) (f : Nat → Int32) (j1 : Int32) (j2 : Int32) (j3 : Int32) (ou : Nat) (g_3 : g 3 = .ref rf) (g_4 : g 4 = .ref pr) (gp_0 : gp 0 = .int 0) (gp_1 : gp 1 = .int 0) (gp_2 : gp 2 = .int 0)  : hM l D Y yL_ask cL_ask 6 (some .int) [(0, 12, 15, 19), (0, 12, 19, 13)] 6 1 6 [.ref h0, .int j1, .int j2, .int j3, .ref ou] [(h0, .inr (8, fl 9 g)), (rf, .inl (Y 0, 3, .inl f)), (pr, .inr (3, fl 9 gp)), (ou, .inl (Y 1, 1, .inr (.inl (fun _ => 0))))] (qI D (fun (r : Int32) (u : Unit) => r = 1) (fun (u : Unit) => [(ou, .inl (Y 1, 1, .inr (.inl (fun _ => 0))))])) := by
  refine hM.mk RL rfl (by decide) (Nat.le_of_ble_eq_true rfl) ?_
  intro p e s m below meth c A F hr hlocks htab hK hZ hP hD hA hS ls hl
  have hx := F.1
  have hb := F.2.1
  have hl : lv_has ls 6 [(0, .ref h0), (1, .int j1), (2, .int j2), (3, .int j3), (4, .ref ou)] := hl
  refine lv_aload hx hb dL_ask_0 (lv_at hl 4 rfl) ?_
  refine lv_iconst (v := 0) hx hb dL_ask_2 (by decide) ?_
  refine lv_aload_n hx hb dL_ask_3 rfl (lv_at hl 0 rfl) ?_
  refine lv_iload_n hx hb dL_ask_4 rfl (lv_at hl 1 rfl) ?_
  refine lv_iload_n hx hb dL_ask_5 rfl (lv_at hl 2 rfl) ?_
  refine lv_iload_n hx hb dL_ask_6 rfl (lv_at hl 3 rfl) ?_
  refine xgoI (wr := [(ou, .inl (Y 1, 1, .inr (.inl (fun _ => 0))))]) (xrunV (n := 3) (As := [.int j1, .int j2, .int j3]) (rest := [.int 0, .ref ou]) (C := RX9) (T := TX9) (N := 9) (ci := 8) F hK hZ hP hD hS hA (c_xask l hfl D Y h0 rf pr g gp f j1 j2 j3 g_3 g_4 gp_0 gp_1 gp_2 ) 0 rfl rfl [0, 1, 2] rfl rfl m_407 m_408 m_409 m_6 m_406 (by decide +kernel) rfl ⟨Nat.le_of_ble_eq_true rfl, Nat.le_of_ble_eq_true rfl⟩ hl.1 rfl (Nat.le_of_ble_eq_true rfl) dL_ask_7 ⟨Nat.le_of_ble_eq_true rfl, Nat.le_of_ble_eq_true rfl⟩) hP hD hS hA [0, 1, 2] [3] rfl rfl rfl (by decide) (fun E ce q9 H locs hE hP hD hS h1 h2 h3 => ?_) (fun r_1 u H locs hw hP hD hS => ?_)
  · skip
    subst hE
    refine vx_catch (ls := ls) F.2.2.2.1 [] ⟨0, 12, 15, 19⟩ [⟨0, 12, 19, 13⟩] htab (fun z h => absurd h List.not_mem_nil) (by decide) (by decide) (F.2.2.2.2 _ m_401) (va_Nw.use rfl hK.2.2.2.2.2.1) h1 h2 h3 ?_
    have hP : va_P D vwCl [(ou, .inl (Y 1, 1, .inr (.inl (fun _ => 0))))] H := hP
    have hD : va_D A [(ou, .inl (Y 1, 1, .inr (.inl (fun _ => 0))))] := hD
    refine W.widen (k := 1) (n := 6) (Nat.le_of_ble_eq_true rfl) (Nat.le_of_ble_eq_true rfl) ?_
    refine lv_astore (lv' := [(5, .ref q9), (0, .ref h0), (1, .int j1), (2, .int j2), (3, .int j3), (4, .ref ou)]) hx hb dL_ask_15 hl (by decide) rfl (fun ls hl => ?_)
    refine lv_iconst (v := 1) hx hb dL_ask_17 (by decide) ?_
    exact retI F hr hlocks rfl hP hD hS () [0] rfl rfl (Nat.le_of_ble_eq_true rfl) (Nat.le_of_ble_eq_true rfl) dL_ask_18 rfl
  · exact hw.elim
set_option maxRecDepth 100000 in
set_option maxHeartbeats 4000000 in
theorem w_value (l : Launch) (hfl : l.stackTraces = false) (D : va_G) (Y : Nat → ClassId) (h0 : Nat) (rf : Nat) (pr : Nat) (g : Nat → Value) (gp : Nat → Value) (f : Nat → Int32) (j1 : Int32) (j2 : Int32) (j3 : Int32) (ou : Nat) (g_3 : g 3 = .ref rf) (g_4 : g 4 = .ref pr) (gp_0 : gp 0 = .int 0) (gp_1 : gp 1 = .int 0) (gp_2 : gp 2 = .int 0)  : hM l D Y yL_value cL_value 6 (some .int) [(0, 12, 15, 19), (0, 12, 19, 13)] 6 1 6 [.ref h0, .int j1, .int j2, .int j3, .ref ou] [(h0, .inr (8, fl 9 g)), (rf, .inl (Y 0, 3, .inl f)), (pr, .inr (3, fl 9 gp)), (ou, .inl (Y 1, 1, .inr (.inl (fun _ => 0))))] (qI D (fun (r : Int32) (u : Unit) => r = 1) (fun (u : Unit) => [(ou, .inl (Y 1, 1, .inr (.inl (fun _ => 0))))])) := by
  refine hM.mk RL rfl (by decide) (Nat.le_of_ble_eq_true rfl) ?_
  intro p e s m below meth c A F hr hlocks htab hK hZ hP hD hA hS ls hl
  have hx := F.1
  have hb := F.2.1
  have hl : lv_has ls 6 [(0, .ref h0), (1, .int j1), (2, .int j2), (3, .int j3), (4, .ref ou)] := hl
  refine lv_aload hx hb dL_value_0 (lv_at hl 4 rfl) ?_
  refine lv_iconst (v := 0) hx hb dL_value_2 (by decide) ?_
  refine lv_aload_n hx hb dL_value_3 rfl (lv_at hl 0 rfl) ?_
  refine lv_iload_n hx hb dL_value_4 rfl (lv_at hl 1 rfl) ?_
  refine lv_iload_n hx hb dL_value_5 rfl (lv_at hl 2 rfl) ?_
  refine lv_iload_n hx hb dL_value_6 rfl (lv_at hl 3 rfl) ?_
  refine xgoI (wr := [(ou, .inl (Y 1, 1, .inr (.inl (fun _ => 0))))]) (xrunV (n := 3) (As := [.int j1, .int j2, .int j3]) (rest := [.int 0, .ref ou]) (C := RX9) (T := TX9) (N := 9) (ci := 8) F hK hZ hP hD hS hA (c_xvalue l hfl D Y h0 rf pr g gp f j1 j2 j3 g_3 g_4 gp_0 gp_1 gp_2 ) 0 rfl rfl [0, 1, 2] rfl rfl m_411 m_412 m_413 m_6 m_410 (by decide +kernel) rfl ⟨Nat.le_of_ble_eq_true rfl, Nat.le_of_ble_eq_true rfl⟩ hl.1 rfl (Nat.le_of_ble_eq_true rfl) dL_value_7 ⟨Nat.le_of_ble_eq_true rfl, Nat.le_of_ble_eq_true rfl⟩) hP hD hS hA [0, 1, 2] [3] rfl rfl rfl (by decide) (fun E ce q9 H locs hE hP hD hS h1 h2 h3 => ?_) (fun r_1 u H locs hw hP hD hS => ?_)
  · skip
    subst hE
    refine vx_catch (ls := ls) F.2.2.2.1 [] ⟨0, 12, 15, 19⟩ [⟨0, 12, 19, 13⟩] htab (fun z h => absurd h List.not_mem_nil) (by decide) (by decide) (F.2.2.2.2 _ m_401) (va_Nw.use rfl hK.2.2.2.2.2.1) h1 h2 h3 ?_
    have hP : va_P D vwCl [(ou, .inl (Y 1, 1, .inr (.inl (fun _ => 0))))] H := hP
    have hD : va_D A [(ou, .inl (Y 1, 1, .inr (.inl (fun _ => 0))))] := hD
    refine W.widen (k := 1) (n := 6) (Nat.le_of_ble_eq_true rfl) (Nat.le_of_ble_eq_true rfl) ?_
    refine lv_astore (lv' := [(5, .ref q9), (0, .ref h0), (1, .int j1), (2, .int j2), (3, .int j3), (4, .ref ou)]) hx hb dL_value_15 hl (by decide) rfl (fun ls hl => ?_)
    refine lv_iconst (v := 1) hx hb dL_value_17 (by decide) ?_
    exact retI F hr hlocks rfl hP hD hS () [0] rfl rfl (Nat.le_of_ble_eq_true rfl) (Nat.le_of_ble_eq_true rfl) dL_value_18 rfl
  · exact hw.elim
set_option maxRecDepth 100000 in
set_option maxHeartbeats 4000000 in
theorem w_stage (l : Launch) (hfl : l.stackTraces = false) (D : va_G) (Y : Nat → ClassId) (h0 : Nat) (rf : Nat) (pr : Nat) (g : Nat → Value) (gp : Nat → Value) (f : Nat → Int32) (j1 : Int32) (j2 : Int32) (j3 : Int32) (ou : Nat) (g_3 : g 3 = .ref rf) (g_4 : g 4 = .ref pr) (gp_0 : gp 0 = .int 0) (gp_1 : gp 1 = .int 0) (gp_2 : gp 2 = .int 0)  : hM l D Y yL_stage cL_stage 6 (some .int) [(0, 12, 15, 19), (0, 12, 19, 13)] 6 1 6 [.ref h0, .int j1, .int j2, .int j3, .ref ou] [(h0, .inr (8, fl 9 g)), (rf, .inl (Y 0, 3, .inl f)), (pr, .inr (3, fl 9 gp)), (ou, .inl (Y 1, 1, .inr (.inl (fun _ => 0))))] (qI D (fun (r : Int32) (u : Unit) => r = 1) (fun (u : Unit) => [(ou, .inl (Y 1, 1, .inr (.inl (fun _ => 0))))])) := by
  refine hM.mk RL rfl (by decide) (Nat.le_of_ble_eq_true rfl) ?_
  intro p e s m below meth c A F hr hlocks htab hK hZ hP hD hA hS ls hl
  have hx := F.1
  have hb := F.2.1
  have hl : lv_has ls 6 [(0, .ref h0), (1, .int j1), (2, .int j2), (3, .int j3), (4, .ref ou)] := hl
  refine lv_aload hx hb dL_stage_0 (lv_at hl 4 rfl) ?_
  refine lv_iconst (v := 0) hx hb dL_stage_2 (by decide) ?_
  refine lv_aload_n hx hb dL_stage_3 rfl (lv_at hl 0 rfl) ?_
  refine lv_iload_n hx hb dL_stage_4 rfl (lv_at hl 1 rfl) ?_
  refine lv_iload_n hx hb dL_stage_5 rfl (lv_at hl 2 rfl) ?_
  refine lv_iload_n hx hb dL_stage_6 rfl (lv_at hl 3 rfl) ?_
  refine xgoI (wr := [(ou, .inl (Y 1, 1, .inr (.inl (fun _ => 0))))]) (xrunV (n := 3) (As := [.int j1, .int j2, .int j3]) (rest := [.int 0, .ref ou]) (C := RX9) (T := TX9) (N := 9) (ci := 8) F hK hZ hP hD hS hA (c_xstage l hfl D Y h0 rf pr g gp f j1 j2 j3 g_3 g_4 gp_0 gp_1 gp_2 ) 0 rfl rfl [0, 1, 2] rfl rfl m_415 m_416 m_417 m_6 m_414 (by decide +kernel) rfl ⟨Nat.le_of_ble_eq_true rfl, Nat.le_of_ble_eq_true rfl⟩ hl.1 rfl (Nat.le_of_ble_eq_true rfl) dL_stage_7 ⟨Nat.le_of_ble_eq_true rfl, Nat.le_of_ble_eq_true rfl⟩) hP hD hS hA [0, 1, 2] [3] rfl rfl rfl (by decide) (fun E ce q9 H locs hE hP hD hS h1 h2 h3 => ?_) (fun r_1 u H locs hw hP hD hS => ?_)
  · skip
    subst hE
    refine vx_catch (ls := ls) F.2.2.2.1 [] ⟨0, 12, 15, 19⟩ [⟨0, 12, 19, 13⟩] htab (fun z h => absurd h List.not_mem_nil) (by decide) (by decide) (F.2.2.2.2 _ m_401) (va_Nw.use rfl hK.2.2.2.2.2.1) h1 h2 h3 ?_
    have hP : va_P D vwCl [(ou, .inl (Y 1, 1, .inr (.inl (fun _ => 0))))] H := hP
    have hD : va_D A [(ou, .inl (Y 1, 1, .inr (.inl (fun _ => 0))))] := hD
    refine W.widen (k := 1) (n := 6) (Nat.le_of_ble_eq_true rfl) (Nat.le_of_ble_eq_true rfl) ?_
    refine lv_astore (lv' := [(5, .ref q9), (0, .ref h0), (1, .int j1), (2, .int j2), (3, .int j3), (4, .ref ou)]) hx hb dL_stage_15 hl (by decide) rfl (fun ls hl => ?_)
    refine lv_iconst (v := 1) hx hb dL_stage_17 (by decide) ?_
    exact retI F hr hlocks rfl hP hD hS () [0] rfl rfl (Nat.le_of_ble_eq_true rfl) (Nat.le_of_ble_eq_true rfl) dL_stage_18 rfl
  · exact hw.elim
set_option maxRecDepth 100000 in
set_option maxHeartbeats 4000000 in
theorem w_find (l : Launch) (hfl : l.stackTraces = false) (D : va_G) (Y : Nat → ClassId) (h0 : Nat) (rf : Nat) (pr : Nat) (g : Nat → Value) (gp : Nat → Value) (f : Nat → Int32) (j1 : Int32) (j2 : Int32) (j3 : Int32) (ou : Nat) (g_3 : g 3 = .ref rf) (g_4 : g 4 = .ref pr) (gp_0 : gp 0 = .int 0) (gp_1 : gp 1 = .int 0) (gp_2 : gp 2 = .int 0)  : hM l D Y yL_find cL_find 6 (some .int) [(0, 12, 15, 19), (0, 12, 19, 13)] 6 1 6 [.ref h0, .int j1, .int j2, .int j3, .ref ou] [(h0, .inr (8, fl 9 g)), (rf, .inl (Y 0, 3, .inl f)), (pr, .inr (3, fl 9 gp)), (ou, .inl (Y 1, 1, .inr (.inl (fun _ => 0))))] (qI D (fun (r : Int32) (u : Unit) => r = 1) (fun (u : Unit) => [(ou, .inl (Y 1, 1, .inr (.inl (fun _ => 0))))])) := by
  refine hM.mk RL rfl (by decide) (Nat.le_of_ble_eq_true rfl) ?_
  intro p e s m below meth c A F hr hlocks htab hK hZ hP hD hA hS ls hl
  have hx := F.1
  have hb := F.2.1
  have hl : lv_has ls 6 [(0, .ref h0), (1, .int j1), (2, .int j2), (3, .int j3), (4, .ref ou)] := hl
  refine lv_aload hx hb dL_find_0 (lv_at hl 4 rfl) ?_
  refine lv_iconst (v := 0) hx hb dL_find_2 (by decide) ?_
  refine lv_aload_n hx hb dL_find_3 rfl (lv_at hl 0 rfl) ?_
  refine lv_iload_n hx hb dL_find_4 rfl (lv_at hl 1 rfl) ?_
  refine lv_iload_n hx hb dL_find_5 rfl (lv_at hl 2 rfl) ?_
  refine lv_iload_n hx hb dL_find_6 rfl (lv_at hl 3 rfl) ?_
  refine xgoI (wr := [(ou, .inl (Y 1, 1, .inr (.inl (fun _ => 0))))]) (xrunV (n := 3) (As := [.int j1, .int j2, .int j3]) (rest := [.int 0, .ref ou]) (C := RX9) (T := TX9) (N := 9) (ci := 8) F hK hZ hP hD hS hA (c_xfind l hfl D Y h0 rf pr g gp f j1 j2 j3 g_3 g_4 gp_0 gp_1 gp_2 ) 0 rfl rfl [0, 1, 2] rfl rfl m_419 m_420 m_421 m_6 m_418 (by decide +kernel) rfl ⟨Nat.le_of_ble_eq_true rfl, Nat.le_of_ble_eq_true rfl⟩ hl.1 rfl (Nat.le_of_ble_eq_true rfl) dL_find_7 ⟨Nat.le_of_ble_eq_true rfl, Nat.le_of_ble_eq_true rfl⟩) hP hD hS hA [0, 1, 2] [3] rfl rfl rfl (by decide) (fun E ce q9 H locs hE hP hD hS h1 h2 h3 => ?_) (fun r_1 u H locs hw hP hD hS => ?_)
  · skip
    subst hE
    refine vx_catch (ls := ls) F.2.2.2.1 [] ⟨0, 12, 15, 19⟩ [⟨0, 12, 19, 13⟩] htab (fun z h => absurd h List.not_mem_nil) (by decide) (by decide) (F.2.2.2.2 _ m_401) (va_Nw.use rfl hK.2.2.2.2.2.1) h1 h2 h3 ?_
    have hP : va_P D vwCl [(ou, .inl (Y 1, 1, .inr (.inl (fun _ => 0))))] H := hP
    have hD : va_D A [(ou, .inl (Y 1, 1, .inr (.inl (fun _ => 0))))] := hD
    refine W.widen (k := 1) (n := 6) (Nat.le_of_ble_eq_true rfl) (Nat.le_of_ble_eq_true rfl) ?_
    refine lv_astore (lv' := [(5, .ref q9), (0, .ref h0), (1, .int j1), (2, .int j2), (3, .int j3), (4, .ref ou)]) hx hb dL_find_15 hl (by decide) rfl (fun ls hl => ?_)
    refine lv_iconst (v := 1) hx hb dL_find_17 (by decide) ?_
    exact retI F hr hlocks rfl hP hD hS () [0] rfl rfl (Nat.le_of_ble_eq_true rfl) (Nat.le_of_ble_eq_true rfl) dL_find_18 rfl
  · exact hw.elim
set_option maxRecDepth 100000 in
set_option maxHeartbeats 4000000 in
theorem w_reach (l : Launch) (hfl : l.stackTraces = false) (D : va_G) (Y : Nat → ClassId) (h0 : Nat) (rf : Nat) (pr : Nat) (g : Nat → Value) (gp : Nat → Value) (f : Nat → Int32) (j1 : Int32) (j2 : Int32) (j3 : Int32) (ou : Nat) (g_3 : g 3 = .ref rf) (g_4 : g 4 = .ref pr) (gp_0 : gp 0 = .int 0) (gp_1 : gp 1 = .int 0) (gp_2 : gp 2 = .int 0)  : hM l D Y yL_reach cL_reach 6 (some .int) [(0, 12, 15, 19), (0, 12, 19, 13)] 6 1 6 [.ref h0, .int j1, .int j2, .int j3, .ref ou] [(h0, .inr (8, fl 9 g)), (rf, .inl (Y 0, 3, .inl f)), (pr, .inr (3, fl 9 gp)), (ou, .inl (Y 1, 1, .inr (.inl (fun _ => 0))))] (qI D (fun (r : Int32) (u : Unit) => r = 1) (fun (u : Unit) => [(ou, .inl (Y 1, 1, .inr (.inl (fun _ => 0))))])) := by
  refine hM.mk RL rfl (by decide) (Nat.le_of_ble_eq_true rfl) ?_
  intro p e s m below meth c A F hr hlocks htab hK hZ hP hD hA hS ls hl
  have hx := F.1
  have hb := F.2.1
  have hl : lv_has ls 6 [(0, .ref h0), (1, .int j1), (2, .int j2), (3, .int j3), (4, .ref ou)] := hl
  refine lv_aload hx hb dL_reach_0 (lv_at hl 4 rfl) ?_
  refine lv_iconst (v := 0) hx hb dL_reach_2 (by decide) ?_
  refine lv_aload_n hx hb dL_reach_3 rfl (lv_at hl 0 rfl) ?_
  refine lv_iload_n hx hb dL_reach_4 rfl (lv_at hl 1 rfl) ?_
  refine lv_iload_n hx hb dL_reach_5 rfl (lv_at hl 2 rfl) ?_
  refine lv_iload_n hx hb dL_reach_6 rfl (lv_at hl 3 rfl) ?_
  refine xgoI (wr := [(ou, .inl (Y 1, 1, .inr (.inl (fun _ => 0))))]) (xrunV (n := 3) (As := [.int j1, .int j2, .int j3]) (rest := [.int 0, .ref ou]) (C := RX9) (T := TX9) (N := 9) (ci := 8) F hK hZ hP hD hS hA (c_xreach l hfl D Y h0 rf pr g gp f j1 j2 j3 g_3 g_4 gp_0 gp_1 gp_2 ) 0 rfl rfl [0, 1, 2] rfl rfl m_423 m_424 m_425 m_6 m_422 (by decide +kernel) rfl ⟨Nat.le_of_ble_eq_true rfl, Nat.le_of_ble_eq_true rfl⟩ hl.1 rfl (Nat.le_of_ble_eq_true rfl) dL_reach_7 ⟨Nat.le_of_ble_eq_true rfl, Nat.le_of_ble_eq_true rfl⟩) hP hD hS hA [0, 1, 2] [3] rfl rfl rfl (by decide) (fun E ce q9 H locs hE hP hD hS h1 h2 h3 => ?_) (fun r_1 u H locs hw hP hD hS => ?_)
  · skip
    subst hE
    refine vx_catch (ls := ls) F.2.2.2.1 [] ⟨0, 12, 15, 19⟩ [⟨0, 12, 19, 13⟩] htab (fun z h => absurd h List.not_mem_nil) (by decide) (by decide) (F.2.2.2.2 _ m_401) (va_Nw.use rfl hK.2.2.2.2.2.1) h1 h2 h3 ?_
    have hP : va_P D vwCl [(ou, .inl (Y 1, 1, .inr (.inl (fun _ => 0))))] H := hP
    have hD : va_D A [(ou, .inl (Y 1, 1, .inr (.inl (fun _ => 0))))] := hD
    refine W.widen (k := 1) (n := 6) (Nat.le_of_ble_eq_true rfl) (Nat.le_of_ble_eq_true rfl) ?_
    refine lv_astore (lv' := [(5, .ref q9), (0, .ref h0), (1, .int j1), (2, .int j2), (3, .int j3), (4, .ref ou)]) hx hb dL_reach_15 hl (by decide) rfl (fun ls hl => ?_)
    refine lv_iconst (v := 1) hx hb dL_reach_17 (by decide) ?_
    exact retI F hr hlocks rfl hP hD hS () [0] rfl rfl (Nat.le_of_ble_eq_true rfl) (Nat.le_of_ble_eq_true rfl) dL_reach_18 rfl
  · exact hw.elim
set_option maxRecDepth 100000 in
set_option maxHeartbeats 4000000 in
theorem w_condition (l : Launch) (hfl : l.stackTraces = false) (D : va_G) (Y : Nat → ClassId) (h0 : Nat) (rf : Nat) (pr : Nat) (g : Nat → Value) (gp : Nat → Value) (f : Nat → Int32) (j1 : Int32) (j2 : Int32) (j3 : Int32) (j4 : Int32) (j5 : Int32) (ou : Nat) (g_3 : g 3 = .ref rf) (g_4 : g 4 = .ref pr) (gp_0 : gp 0 = .int 0) (gp_1 : gp 1 = .int 0) (gp_2 : gp 2 = .int 0)  : hM l D Y yL_condition cL_condition 8 (some .int) [(0, 16, 19, 19), (0, 16, 23, 13)] 6 1 6 [.ref h0, .int j1, .int j2, .int j3, .int j4, .int j5, .ref ou] [(h0, .inr (8, fl 9 g)), (rf, .inl (Y 0, 3, .inl f)), (pr, .inr (3, fl 9 gp)), (ou, .inl (Y 1, 1, .inr (.inl (fun _ => 0))))] (qI D (fun (r : Int32) (u : Unit) => r = 1) (fun (u : Unit) => [(ou, .inl (Y 1, 1, .inr (.inl (fun _ => 0))))])) := by
  refine hM.mk RL rfl (by decide) (Nat.le_of_ble_eq_true rfl) ?_
  intro p e s m below meth c A F hr hlocks htab hK hZ hP hD hA hS ls hl
  have hx := F.1
  have hb := F.2.1
  have hl : lv_has ls 8 [(0, .ref h0), (1, .int j1), (2, .int j2), (3, .int j3), (4, .int j4), (5, .int j5), (6, .ref ou)] := hl
  refine lv_aload hx hb dL_condition_0 (lv_at hl 6 rfl) ?_
  refine lv_iconst (v := 0) hx hb dL_condition_2 (by decide) ?_
  refine lv_aload_n hx hb dL_condition_3 rfl (lv_at hl 0 rfl) ?_
  refine lv_iload_n hx hb dL_condition_4 rfl (lv_at hl 1 rfl) ?_
  refine lv_iload_n hx hb dL_condition_5 rfl (lv_at hl 2 rfl) ?_
  refine lv_iload_n hx hb dL_condition_6 rfl (lv_at hl 3 rfl) ?_
  refine lv_iload hx hb dL_condition_7 (lv_at hl 4 rfl) ?_
  refine lv_iload hx hb dL_condition_9 (lv_at hl 5 rfl) ?_
  refine xgoI (wr := [(ou, .inl (Y 1, 1, .inr (.inl (fun _ => 0))))]) (xrunV (n := 5) (As := [.int j1, .int j2, .int j3, .int j4, .int j5]) (rest := [.int 0, .ref ou]) (C := RX9) (T := TX9) (N := 9) (ci := 8) F hK hZ hP hD hS hA (c_xcondition l hfl D Y h0 rf pr g gp f j1 j2 j3 j4 j5 g_3 g_4 gp_0 gp_1 gp_2 ) 0 rfl rfl [0, 1, 2] rfl rfl m_427 m_428 m_429 m_6 m_426 (by decide +kernel) rfl ⟨Nat.le_of_ble_eq_true rfl, Nat.le_of_ble_eq_true rfl⟩ hl.1 rfl (Nat.le_of_ble_eq_true rfl) dL_condition_11 ⟨Nat.le_of_ble_eq_true rfl, Nat.le_of_ble_eq_true rfl⟩) hP hD hS hA [0, 1, 2] [3] rfl rfl rfl (by decide) (fun E ce q9 H locs hE hP hD hS h1 h2 h3 => ?_) (fun r_1 u H locs hw hP hD hS => ?_)
  · skip
    subst hE
    refine vx_catch (ls := ls) F.2.2.2.1 [] ⟨0, 16, 19, 19⟩ [⟨0, 16, 23, 13⟩] htab (fun z h => absurd h List.not_mem_nil) (by decide) (by decide) (F.2.2.2.2 _ m_401) (va_Nw.use rfl hK.2.2.2.2.2.1) h1 h2 h3 ?_
    have hP : va_P D vwCl [(ou, .inl (Y 1, 1, .inr (.inl (fun _ => 0))))] H := hP
    have hD : va_D A [(ou, .inl (Y 1, 1, .inr (.inl (fun _ => 0))))] := hD
    refine W.widen (k := 1) (n := 6) (Nat.le_of_ble_eq_true rfl) (Nat.le_of_ble_eq_true rfl) ?_
    refine lv_astore (lv' := [(7, .ref q9), (0, .ref h0), (1, .int j1), (2, .int j2), (3, .int j3), (4, .int j4), (5, .int j5), (6, .ref ou)]) hx hb dL_condition_19 hl (by decide) rfl (fun ls hl => ?_)
    refine lv_iconst (v := 1) hx hb dL_condition_21 (by decide) ?_
    exact retI F hr hlocks rfl hP hD hS () [0] rfl rfl (Nat.le_of_ble_eq_true rfl) (Nat.le_of_ble_eq_true rfl) dL_condition_22 rfl
  · exact hw.elim
set_option maxRecDepth 100000 in
set_option maxHeartbeats 4000000 in
theorem w_predicate (l : Launch) (hfl : l.stackTraces = false) (D : va_G) (Y : Nat → ClassId) (h0 : Nat) (rf : Nat) (pr : Nat) (g : Nat → Value) (gp : Nat → Value) (f : Nat → Int32) (j1 : Int32) (j2 : Int32) (ou : Nat) (g_3 : g 3 = .ref rf) (g_4 : g 4 = .ref pr) (gp_0 : gp 0 = .int 0) (gp_1 : gp 1 = .int 0) (gp_2 : gp 2 = .int 0)  : hM l D Y yL_predicate cL_predicate 5 (some .int) [(0, 10, 13, 19), (0, 10, 17, 13)] 5 1 6 [.ref h0, .int j1, .int j2, .ref ou] [(h0, .inr (8, fl 9 g)), (rf, .inl (Y 0, 3, .inl f)), (pr, .inr (3, fl 9 gp)), (ou, .inl (Y 1, 1, .inr (.inl (fun _ => 0))))] (qI D (fun (r : Int32) (u : Unit) => r = 1) (fun (u : Unit) => [(ou, .inl (Y 1, 1, .inr (.inl (fun _ => 0))))])) := by
  refine hM.mk RL rfl (by decide) (Nat.le_of_ble_eq_true rfl) ?_
  intro p e s m below meth c A F hr hlocks htab hK hZ hP hD hA hS ls hl
  have hx := F.1
  have hb := F.2.1
  have hl : lv_has ls 5 [(0, .ref h0), (1, .int j1), (2, .int j2), (3, .ref ou)] := hl
  refine lv_aload_n hx hb dL_predicate_0 rfl (lv_at hl 3 rfl) ?_
  refine lv_iconst (v := 0) hx hb dL_predicate_1 (by decide) ?_
  refine lv_aload_n hx hb dL_predicate_2 rfl (lv_at hl 0 rfl) ?_
  refine lv_iload_n hx hb dL_predicate_3 rfl (lv_at hl 1 rfl) ?_
  refine lv_iload_n hx hb dL_predicate_4 rfl (lv_at hl 2 rfl) ?_
  refine xgoI (wr := [(ou, .inl (Y 1, 1, .inr (.inl (fun _ => 0))))]) (xrunV (n := 2) (As := [.int j1, .int j2]) (rest := [.int 0, .ref ou]) (C := RX9) (T := TX9) (N := 9) (ci := 8) F hK hZ hP hD hS hA (c_xpredicate l hfl D Y h0 rf pr g gp f j1 j2 g_3 g_4 gp_0 gp_1 gp_2 ) 0 rfl rfl [0, 1, 2] rfl rfl m_431 m_432 m_433 m_6 m_430 (by decide +kernel) rfl ⟨Nat.le_of_ble_eq_true rfl, Nat.le_of_ble_eq_true rfl⟩ hl.1 rfl (Nat.le_of_ble_eq_true rfl) dL_predicate_5 ⟨Nat.le_of_ble_eq_true rfl, Nat.le_of_ble_eq_true rfl⟩) hP hD hS hA [0, 1, 2] [3] rfl rfl rfl (by decide) (fun E ce q9 H locs hE hP hD hS h1 h2 h3 => ?_) (fun r_1 u H locs hw hP hD hS => ?_)
  · skip
    subst hE
    refine vx_catch (ls := ls) F.2.2.2.1 [] ⟨0, 10, 13, 19⟩ [⟨0, 10, 17, 13⟩] htab (fun z h => absurd h List.not_mem_nil) (by decide) (by decide) (F.2.2.2.2 _ m_401) (va_Nw.use rfl hK.2.2.2.2.2.1) h1 h2 h3 ?_
    have hP : va_P D vwCl [(ou, .inl (Y 1, 1, .inr (.inl (fun _ => 0))))] H := hP
    have hD : va_D A [(ou, .inl (Y 1, 1, .inr (.inl (fun _ => 0))))] := hD
    refine W.widen (k := 1) (n := 6) (Nat.le_of_ble_eq_true rfl) (Nat.le_of_ble_eq_true rfl) ?_
    refine lv_astore (lv' := [(4, .ref q9), (0, .ref h0), (1, .int j1), (2, .int j2), (3, .ref ou)]) hx hb dL_predicate_13 hl (by decide) rfl (fun ls hl => ?_)
    refine lv_iconst (v := 1) hx hb dL_predicate_15 (by decide) ?_
    exact retI F hr hlocks rfl hP hD hS () [0] rfl rfl (Nat.le_of_ble_eq_true rfl) (Nat.le_of_ble_eq_true rfl) dL_predicate_16 rfl
  · exact hw.elim
set_option maxRecDepth 100000 in
set_option maxHeartbeats 4000000 in
theorem w_clause (l : Launch) (hfl : l.stackTraces = false) (D : va_G) (Y : Nat → ClassId) (h0 : Nat) (rf : Nat) (pr : Nat) (g : Nat → Value) (gp : Nat → Value) (f : Nat → Int32) (j1 : Int32) (j2 : Int32) (j3 : Int32) (ou : Nat) (g_3 : g 3 = .ref rf) (g_4 : g 4 = .ref pr) (gp_0 : gp 0 = .int 0) (gp_1 : gp 1 = .int 0) (gp_2 : gp 2 = .int 0)  : hM l D Y yL_clause cL_clause 6 (some .int) [(0, 12, 15, 19), (0, 12, 19, 13)] 5 1 6 [.ref h0, .int j1, .int j2, .int j3, .ref ou] [(h0, .inr (8, fl 9 g)), (rf, .inl (Y 0, 3, .inl f)), (pr, .inr (3, fl 9 gp)), (ou, .inl (Y 1, 1, .inr (.inl (fun _ => 0))))] (qI D (fun (r : Int32) (u : Unit) => r = 1) (fun (u : Unit) => [(ou, .inl (Y 1, 1, .inr (.inl (fun _ => 0))))])) := by
  refine hM.mk RL rfl (by decide) (Nat.le_of_ble_eq_true rfl) ?_
  intro p e s m below meth c A F hr hlocks htab hK hZ hP hD hA hS ls hl
  have hx := F.1
  have hb := F.2.1
  have hl : lv_has ls 6 [(0, .ref h0), (1, .int j1), (2, .int j2), (3, .int j3), (4, .ref ou)] := hl
  refine lv_aload hx hb dL_clause_0 (lv_at hl 4 rfl) ?_
  refine lv_iconst (v := 0) hx hb dL_clause_2 (by decide) ?_
  refine lv_aload_n hx hb dL_clause_3 rfl (lv_at hl 0 rfl) ?_
  refine lv_iload_n hx hb dL_clause_4 rfl (lv_at hl 1 rfl) ?_
  refine lv_iload_n hx hb dL_clause_5 rfl (lv_at hl 2 rfl) ?_
  refine lv_iload_n hx hb dL_clause_6 rfl (lv_at hl 3 rfl) ?_
  refine xgoI (wr := [(ou, .inl (Y 1, 1, .inr (.inl (fun _ => 0))))]) (xrunV (n := 3) (As := [.int j1, .int j2, .int j3]) (rest := [.int 0, .ref ou]) (C := RX9) (T := TX9) (N := 9) (ci := 8) F hK hZ hP hD hS hA (c_xclause l hfl D Y h0 rf pr g gp f j1 j2 j3 g_3 g_4 gp_0 gp_1 gp_2 ) 0 rfl rfl [0, 1, 2] rfl rfl m_435 m_436 m_437 m_6 m_434 (by decide +kernel) rfl ⟨Nat.le_of_ble_eq_true rfl, Nat.le_of_ble_eq_true rfl⟩ hl.1 rfl (Nat.le_of_ble_eq_true rfl) dL_clause_7 ⟨Nat.le_of_ble_eq_true rfl, Nat.le_of_ble_eq_true rfl⟩) hP hD hS hA [0, 1, 2] [3] rfl rfl rfl (by decide) (fun E ce q9 H locs hE hP hD hS h1 h2 h3 => ?_) (fun r_1 u H locs hw hP hD hS => ?_)
  · skip
    subst hE
    refine vx_catch (ls := ls) F.2.2.2.1 [] ⟨0, 12, 15, 19⟩ [⟨0, 12, 19, 13⟩] htab (fun z h => absurd h List.not_mem_nil) (by decide) (by decide) (F.2.2.2.2 _ m_401) (va_Nw.use rfl hK.2.2.2.2.2.1) h1 h2 h3 ?_
    have hP : va_P D vwCl [(ou, .inl (Y 1, 1, .inr (.inl (fun _ => 0))))] H := hP
    have hD : va_D A [(ou, .inl (Y 1, 1, .inr (.inl (fun _ => 0))))] := hD
    refine W.widen (k := 1) (n := 6) (Nat.le_of_ble_eq_true rfl) (Nat.le_of_ble_eq_true rfl) ?_
    refine lv_astore (lv' := [(5, .ref q9), (0, .ref h0), (1, .int j1), (2, .int j2), (3, .int j3), (4, .ref ou)]) hx hb dL_clause_15 hl (by decide) rfl (fun ls hl => ?_)
    refine lv_iconst (v := 1) hx hb dL_clause_17 (by decide) ?_
    exact retI F hr hlocks rfl hP hD hS () [0] rfl rfl (Nat.le_of_ble_eq_true rfl) (Nat.le_of_ble_eq_true rfl) dL_clause_18 rfl
  · exact hw.elim
set_option maxRecDepth 100000 in
set_option maxHeartbeats 4000000 in
theorem w_literals (l : Launch) (hfl : l.stackTraces = false) (D : va_G) (Y : Nat → ClassId) (h0 : Nat) (rf : Nat) (pr : Nat) (g : Nat → Value) (gp : Nat → Value) (f : Nat → Int32) (j1 : Int32) (ou : Nat) (g_3 : g 3 = .ref rf) (g_4 : g 4 = .ref pr) (gp_0 : gp 0 = .int 0) (gp_1 : gp 1 = .int 0) (gp_2 : gp 2 = .int 0)  : hM l D Y yL_literals cL_literals 4 (some .int) [(0, 9, 12, 19)] 5 1 6 [.ref h0, .int j1, .ref ou] [(h0, .inr (8, fl 9 g)), (rf, .inl (Y 0, 3, .inl f)), (pr, .inr (3, fl 9 gp)), (ou, .inl (Y 1, 1, .inr (.inl (fun _ => 0))))] (qI D (fun (r : Int32) (u : Unit) => r = 1) (fun (u : Unit) => [(ou, .inl (Y 1, 1, .inr (.inl (fun _ => 0))))])) := by
  refine hM.mk RL rfl (by decide) (Nat.le_of_ble_eq_true rfl) ?_
  intro p e s m below meth c A F hr hlocks htab hK hZ hP hD hA hS ls hl
  have hx := F.1
  have hb := F.2.1
  have hl : lv_has ls 4 [(0, .ref h0), (1, .int j1), (2, .ref ou)] := hl
  refine lv_aload_n hx hb dL_literals_0 rfl (lv_at hl 2 rfl) ?_
  refine lv_iconst (v := 0) hx hb dL_literals_1 (by decide) ?_
  refine lv_aload_n hx hb dL_literals_2 rfl (lv_at hl 0 rfl) ?_
  refine lv_iload_n hx hb dL_literals_3 rfl (lv_at hl 1 rfl) ?_
  refine xgoI (wr := [(ou, .inl (Y 1, 1, .inr (.inl (fun _ => 0))))]) (xrunV (n := 1) (As := [.int j1]) (rest := [.int 0, .ref ou]) (C := RX9) (T := TX9) (N := 9) (ci := 8) F hK hZ hP hD hS hA (c_xliterals l hfl D Y h0 rf pr g gp f j1 g_3 g_4 gp_0 gp_1 gp_2 ) 0 rfl rfl [0, 1, 2] rfl rfl m_439 m_440 m_441 m_6 m_438 (by decide +kernel) rfl ⟨Nat.le_of_ble_eq_true rfl, Nat.le_of_ble_eq_true rfl⟩ hl.1 rfl (Nat.le_of_ble_eq_true rfl) dL_literals_4 ⟨Nat.le_of_ble_eq_true rfl, Nat.le_of_ble_eq_true rfl⟩) hP hD hS hA [0, 1, 2] [3] rfl rfl rfl (by decide) (fun E ce q9 H locs hE hP hD hS h1 h2 h3 => ?_) (fun r_1 u H locs hw hP hD hS => ?_)
  · skip
    subst hE
    refine vx_catch (ls := ls) F.2.2.2.1 [] ⟨0, 9, 12, 19⟩ [] htab (fun z h => absurd h List.not_mem_nil) (by decide) (by decide) (F.2.2.2.2 _ m_401) (va_Nw.use rfl hK.2.2.2.2.2.1) h1 h2 h3 ?_
    have hP : va_P D vwCl [(ou, .inl (Y 1, 1, .inr (.inl (fun _ => 0))))] H := hP
    have hD : va_D A [(ou, .inl (Y 1, 1, .inr (.inl (fun _ => 0))))] := hD
    refine W.widen (k := 1) (n := 6) (Nat.le_of_ble_eq_true rfl) (Nat.le_of_ble_eq_true rfl) ?_
    refine lv_astore_n (lv' := [(3, .ref q9), (0, .ref h0), (1, .int j1), (2, .ref ou)]) hx hb dL_literals_12 rfl hl (by decide) rfl (fun ls hl => ?_)
    refine lv_iconst (v := 1) hx hb dL_literals_13 (by decide) ?_
    exact retI F hr hlocks rfl hP hD hS () [0] rfl rfl (Nat.le_of_ble_eq_true rfl) (Nat.le_of_ble_eq_true rfl) dL_literals_14 rfl
  · exact hw.elim
set_option maxRecDepth 100000 in
set_option maxHeartbeats 4000000 in
theorem w_table (l : Launch) (hfl : l.stackTraces = false) (D : va_G) (Y : Nat → ClassId) (h0 : Nat) (rf : Nat) (ta : Nat) (g : Nat → Value) (gt : Nat → Value) (f : Nat → Int32) (j1 : Int32) (j2 : Int32) (ou : Nat) (g_3 : g 3 = .ref rf) (g_8 : g 8 = .ref ta) (gt_0 : gt 0 = .int 0)  : hM l D Y yL_table cL_table 5 (some .int) [(0, 10, 13, 19), (0, 10, 17, 13)] 5 1 6 [.ref h0, .int j1, .int j2, .ref ou] [(h0, .inr (8, fl 9 g)), (rf, .inl (Y 0, 3, .inl f)), (ta, .inr (6, fl 14 gt)), (ou, .inl (Y 1, 1, .inr (.inl (fun _ => 0))))] (qI D (fun (r : Int32) (u : Unit) => r = 1) (fun (u : Unit) => [(ou, .inl (Y 1, 1, .inr (.inl (fun _ => 0))))])) := by
  refine hM.mk RL rfl (by decide) (Nat.le_of_ble_eq_true rfl) ?_
  intro p e s m below meth c A F hr hlocks htab hK hZ hP hD hA hS ls hl
  have hx := F.1
  have hb := F.2.1
  have hl : lv_has ls 5 [(0, .ref h0), (1, .int j1), (2, .int j2), (3, .ref ou)] := hl
  refine lv_aload_n hx hb dL_table_0 rfl (lv_at hl 3 rfl) ?_
  refine lv_iconst (v := 0) hx hb dL_table_1 (by decide) ?_
  refine lv_aload_n hx hb dL_table_2 rfl (lv_at hl 0 rfl) ?_
  refine lv_iload_n hx hb dL_table_3 rfl (lv_at hl 1 rfl) ?_
  refine lv_iload_n hx hb dL_table_4 rfl (lv_at hl 2 rfl) ?_
  refine xgoI (wr := [(ou, .inl (Y 1, 1, .inr (.inl (fun _ => 0))))]) (xrunV (n := 2) (As := [.int j1, .int j2]) (rest := [.int 0, .ref ou]) (C := RX9) (T := TX9) (N := 9) (ci := 8) F hK hZ hP hD hS hA (c_xtable l hfl D Y h0 rf ta g gt f j1 j2 g_3 g_8 gt_0 ) 0 rfl rfl [0, 1, 2] rfl rfl m_443 m_444 m_445 m_6 m_442 (by decide +kernel) rfl ⟨Nat.le_of_ble_eq_true rfl, Nat.le_of_ble_eq_true rfl⟩ hl.1 rfl (Nat.le_of_ble_eq_true rfl) dL_table_5 ⟨Nat.le_of_ble_eq_true rfl, Nat.le_of_ble_eq_true rfl⟩) hP hD hS hA [0, 1, 2] [3] rfl rfl rfl (by decide) (fun E ce q9 H locs hE hP hD hS h1 h2 h3 => ?_) (fun r_1 u H locs hw hP hD hS => ?_)
  · skip
    subst hE
    refine vx_catch (ls := ls) F.2.2.2.1 [] ⟨0, 10, 13, 19⟩ [⟨0, 10, 17, 13⟩] htab (fun z h => absurd h List.not_mem_nil) (by decide) (by decide) (F.2.2.2.2 _ m_401) (va_Nw.use rfl hK.2.2.2.2.2.1) h1 h2 h3 ?_
    have hP : va_P D vwCl [(ou, .inl (Y 1, 1, .inr (.inl (fun _ => 0))))] H := hP
    have hD : va_D A [(ou, .inl (Y 1, 1, .inr (.inl (fun _ => 0))))] := hD
    refine W.widen (k := 1) (n := 6) (Nat.le_of_ble_eq_true rfl) (Nat.le_of_ble_eq_true rfl) ?_
    refine lv_astore (lv' := [(4, .ref q9), (0, .ref h0), (1, .int j1), (2, .int j2), (3, .ref ou)]) hx hb dL_table_13 hl (by decide) rfl (fun ls hl => ?_)
    refine lv_iconst (v := 1) hx hb dL_table_15 (by decide) ?_
    exact retI F hr hlocks rfl hP hD hS () [0] rfl rfl (Nat.le_of_ble_eq_true rfl) (Nat.le_of_ble_eq_true rfl) dL_table_16 rfl
  · exact hw.elim
set_option maxRecDepth 100000 in
set_option maxHeartbeats 4000000 in
theorem w_calls (l : Launch) (hfl : l.stackTraces = false) (D : va_G) (Y : Nat → ClassId) (h0 : Nat) (rf : Nat) (ta : Nat) (g : Nat → Value) (gt : Nat → Value) (f : Nat → Int32) (j1 : Int32) (j2 : Int32) (j3 : Int32) (ou : Nat) (g_3 : g 3 = .ref rf) (g_8 : g 8 = .ref ta) (gt_0 : gt 0 = .int 0)  : hM l D Y yL_calls cL_calls 6 (some .int) [(0, 12, 15, 19), (0, 12, 19, 13)] 5 1 6 [.ref h0, .int j1, .int j2, .int j3, .ref ou] [(h0, .inr (8, fl 9 g)), (rf, .inl (Y 0, 3, .inl f)), (ta, .inr (6, fl 14 gt)), (ou, .inl (Y 1, 1, .inr (.inl (fun _ => 0))))] (qI D (fun (r : Int32) (u : Unit) => r = 1) (fun (u : Unit) => [(ou, .inl (Y 1, 1, .inr (.inl (fun _ => 0))))])) := by
  refine hM.mk RL rfl (by decide) (Nat.le_of_ble_eq_true rfl) ?_
  intro p e s m below meth c A F hr hlocks htab hK hZ hP hD hA hS ls hl
  have hx := F.1
  have hb := F.2.1
  have hl : lv_has ls 6 [(0, .ref h0), (1, .int j1), (2, .int j2), (3, .int j3), (4, .ref ou)] := hl
  refine lv_aload hx hb dL_calls_0 (lv_at hl 4 rfl) ?_
  refine lv_iconst (v := 0) hx hb dL_calls_2 (by decide) ?_
  refine lv_aload_n hx hb dL_calls_3 rfl (lv_at hl 0 rfl) ?_
  refine lv_iload_n hx hb dL_calls_4 rfl (lv_at hl 1 rfl) ?_
  refine lv_iload_n hx hb dL_calls_5 rfl (lv_at hl 2 rfl) ?_
  refine lv_iload_n hx hb dL_calls_6 rfl (lv_at hl 3 rfl) ?_
  refine xgoI (wr := [(ou, .inl (Y 1, 1, .inr (.inl (fun _ => 0))))]) (xrunV (n := 3) (As := [.int j1, .int j2, .int j3]) (rest := [.int 0, .ref ou]) (C := RX9) (T := TX9) (N := 9) (ci := 8) F hK hZ hP hD hS hA (c_xcalls l hfl D Y h0 rf ta g gt f j1 j2 j3 g_3 g_8 gt_0 ) 0 rfl rfl [0, 1, 2] rfl rfl m_447 m_448 m_449 m_6 m_446 (by decide +kernel) rfl ⟨Nat.le_of_ble_eq_true rfl, Nat.le_of_ble_eq_true rfl⟩ hl.1 rfl (Nat.le_of_ble_eq_true rfl) dL_calls_7 ⟨Nat.le_of_ble_eq_true rfl, Nat.le_of_ble_eq_true rfl⟩) hP hD hS hA [0, 1, 2] [3] rfl rfl rfl (by decide) (fun E ce q9 H locs hE hP hD hS h1 h2 h3 => ?_) (fun r_1 u H locs hw hP hD hS => ?_)
  · skip
    subst hE
    refine vx_catch (ls := ls) F.2.2.2.1 [] ⟨0, 12, 15, 19⟩ [⟨0, 12, 19, 13⟩] htab (fun z h => absurd h List.not_mem_nil) (by decide) (by decide) (F.2.2.2.2 _ m_401) (va_Nw.use rfl hK.2.2.2.2.2.1) h1 h2 h3 ?_
    have hP : va_P D vwCl [(ou, .inl (Y 1, 1, .inr (.inl (fun _ => 0))))] H := hP
    have hD : va_D A [(ou, .inl (Y 1, 1, .inr (.inl (fun _ => 0))))] := hD
    refine W.widen (k := 1) (n := 6) (Nat.le_of_ble_eq_true rfl) (Nat.le_of_ble_eq_true rfl) ?_
    refine lv_astore (lv' := [(5, .ref q9), (0, .ref h0), (1, .int j1), (2, .int j2), (3, .int j3), (4, .ref ou)]) hx hb dL_calls_15 hl (by decide) rfl (fun ls hl => ?_)
    refine lv_iconst (v := 1) hx hb dL_calls_17 (by decide) ?_
    exact retI F hr hlocks rfl hP hD hS () [0] rfl rfl (Nat.le_of_ble_eq_true rfl) (Nat.le_of_ble_eq_true rfl) dL_calls_18 rfl
  · exact hw.elim
set_option maxRecDepth 100000 in
set_option maxHeartbeats 4000000 in
theorem w_answer (l : Launch) (hfl : l.stackTraces = false) (D : va_G) (Y : Nat → ClassId) (h0 : Nat) (rf : Nat) (ta : Nat) (g : Nat → Value) (gt : Nat → Value) (f : Nat → Int32) (j1 : Int32) (j2 : Int32) (j3 : Int32) (ou : Nat) (g_3 : g 3 = .ref rf) (g_8 : g 8 = .ref ta) (gt_0 : gt 0 = .int 0)  : hM l D Y yL_answer cL_answer 6 (some .int) [(0, 12, 15, 19), (0, 12, 19, 13)] 5 1 6 [.ref h0, .int j1, .int j2, .int j3, .ref ou] [(h0, .inr (8, fl 9 g)), (rf, .inl (Y 0, 3, .inl f)), (ta, .inr (6, fl 14 gt)), (ou, .inl (Y 1, 1, .inr (.inl (fun _ => 0))))] (qI D (fun (r : Int32) (u : Unit) => r = 1) (fun (u : Unit) => [(ou, .inl (Y 1, 1, .inr (.inl (fun _ => 0))))])) := by
  refine hM.mk RL rfl (by decide) (Nat.le_of_ble_eq_true rfl) ?_
  intro p e s m below meth c A F hr hlocks htab hK hZ hP hD hA hS ls hl
  have hx := F.1
  have hb := F.2.1
  have hl : lv_has ls 6 [(0, .ref h0), (1, .int j1), (2, .int j2), (3, .int j3), (4, .ref ou)] := hl
  refine lv_aload hx hb dL_answer_0 (lv_at hl 4 rfl) ?_
  refine lv_iconst (v := 0) hx hb dL_answer_2 (by decide) ?_
  refine lv_aload_n hx hb dL_answer_3 rfl (lv_at hl 0 rfl) ?_
  refine lv_iload_n hx hb dL_answer_4 rfl (lv_at hl 1 rfl) ?_
  refine lv_iload_n hx hb dL_answer_5 rfl (lv_at hl 2 rfl) ?_
  refine lv_iload_n hx hb dL_answer_6 rfl (lv_at hl 3 rfl) ?_
  refine xgoI (wr := [(ou, .inl (Y 1, 1, .inr (.inl (fun _ => 0))))]) (xrunV (n := 3) (As := [.int j1, .int j2, .int j3]) (rest := [.int 0, .ref ou]) (C := RX9) (T := TX9) (N := 9) (ci := 8) F hK hZ hP hD hS hA (c_xanswer l hfl D Y h0 rf ta g gt f j1 j2 j3 g_3 g_8 gt_0 ) 0 rfl rfl [0, 1, 2] rfl rfl m_451 m_452 m_453 m_6 m_450 (by decide +kernel) rfl ⟨Nat.le_of_ble_eq_true rfl, Nat.le_of_ble_eq_true rfl⟩ hl.1 rfl (Nat.le_of_ble_eq_true rfl) dL_answer_7 ⟨Nat.le_of_ble_eq_true rfl, Nat.le_of_ble_eq_true rfl⟩) hP hD hS hA [0, 1, 2] [3] rfl rfl rfl (by decide) (fun E ce q9 H locs hE hP hD hS h1 h2 h3 => ?_) (fun r_1 u H locs hw hP hD hS => ?_)
  · skip
    subst hE
    refine vx_catch (ls := ls) F.2.2.2.1 [] ⟨0, 12, 15, 19⟩ [⟨0, 12, 19, 13⟩] htab (fun z h => absurd h List.not_mem_nil) (by decide) (by decide) (F.2.2.2.2 _ m_401) (va_Nw.use rfl hK.2.2.2.2.2.1) h1 h2 h3 ?_
    have hP : va_P D vwCl [(ou, .inl (Y 1, 1, .inr (.inl (fun _ => 0))))] H := hP
    have hD : va_D A [(ou, .inl (Y 1, 1, .inr (.inl (fun _ => 0))))] := hD
    refine W.widen (k := 1) (n := 6) (Nat.le_of_ble_eq_true rfl) (Nat.le_of_ble_eq_true rfl) ?_
    refine lv_astore (lv' := [(5, .ref q9), (0, .ref h0), (1, .int j1), (2, .int j2), (3, .int j3), (4, .ref ou)]) hx hb dL_answer_15 hl (by decide) rfl (fun ls hl => ?_)
    refine lv_iconst (v := 1) hx hb dL_answer_17 (by decide) ?_
    exact retI F hr hlocks rfl hP hD hS () [0] rfl rfl (Nat.le_of_ble_eq_true rfl) (Nat.le_of_ble_eq_true rfl) dL_answer_18 rfl
  · exact hw.elim
set_option maxRecDepth 100000 in
set_option maxHeartbeats 4000000 in
theorem w_toldA (l : Launch) (hfl : l.stackTraces = false) (D : va_G) (Y : Nat → ClassId) (h0 : Nat) (pr : Nat) (ta : Nat) (mo : Nat) (tr : Nat) (po : Nat) (gr : Nat) (fo : Nat) (so : Nat) (g : Nat → Value) (gp : Nat → Value) (gt : Nat → Value) (gm : Nat → Value) (gf : Nat → Value) (fs : Nat → Int32) (j1 : Int32) (ou : Nat) (g_1 : g 1 = .int 0) (g_4 : g 4 = .ref pr) (g_6 : g 6 = .ref mo) (g_8 : g 8 = .ref ta) (gp_0 : gp 0 = .int 0) (gp_1 : gp 1 = .int 0) (gp_2 : gp 2 = .int 0) (gt_0 : gt 0 = .int 0) (gt_1 : gt 1 = .int 0) (gt_2 : gt 2 = .int 0) (gm_0 : gm 0 = .int 0) (gm_2 : gm 2 = .ref tr) (gm_3 : gm 3 = .ref po) (gm_4 : gm 4 = .ref so) (gm_5 : gm 5 = .ref gr) (gm_6 : gm 6 = .ref fo) (hj : j1 = 0 ∨ j1 = 1 ∨ j1 = 2 ∨ j1 = 3 ∨ j1 = 4 ∨ j1 = 5 ∨ j1 = 6 ∨ j1 = 7 ∨ j1 = 8 ∨ j1 = 9 ∨ j1 = 10 ∨ j1 = 11) : hM l D Y yL_told cL_told 4 (some .int) [(0, 9, 12, 13)] 5 0 0 [.ref h0, .int j1, .ref ou] [(h0, .inr (8, fl 9 g)), (pr, .inr (3, fl 9 gp)), (ta, .inr (6, fl 14 gt)), (mo, .inr (2, fl 7 gm)), (tr, .inl (Y 1, 10, .inr (.inl (fun _ => 0)))), (po, .inl (Y 1, 10, .inr (.inl (fun _ => 0)))), (gr, .inl (Y 1, 10, .inr (.inl (fun _ => 0)))), (fo, .inr (1, fl 7 gf)), (so, .inl (Y 0, 640, .inl fs)), (ou, .inl (Y 1, 1, .inr (.inl (fun _ => 0))))] (qI D (fun (r : Int32) (u : Unit) => r = 0) (fun (u : Unit) => [(ou, .inl (Y 1, 1, .inr (.inl (fun _ => 0))))])) := by
  refine hM.mk RL rfl (by decide) (Nat.le_of_ble_eq_true rfl) ?_
  intro p e s m below meth c A F hr hlocks htab hK hZ hP hD hA hS ls hl
  have hx := F.1
  have hb := F.2.1
  have hl : lv_has ls 4 [(0, .ref h0), (1, .int j1), (2, .ref ou)] := hl
  refine lv_aload_n hx hb dL_told_0 rfl (lv_at hl 2 rfl) ?_
  refine lv_iconst (v := 0) hx hb dL_told_1 (by decide) ?_
  refine lv_aload_n hx hb dL_told_2 rfl (lv_at hl 0 rfl) ?_
  refine lv_iload_n hx hb dL_told_3 rfl (lv_at hl 1 rfl) ?_
  refine goI (wr := [(ou, .inl (Y 1, 1, .inr (.inl (fun _ => 0))))]) (runV (n := 1) (As := [.int j1]) (rest := [.int 0, .ref ou]) (C := RX9) (T := TX9) (N := 9) (ci := 8) F hK hZ hP hD hS hA (c_toldA l D Y h0 pr ta mo tr po gr fo so g gp gt gm gf fs j1 g_1 g_4 g_6 g_8 gp_0 gp_1 gp_2 gt_0 gt_1 gt_2 gm_0 gm_2 gm_3 gm_4 gm_5 gm_6 hj) 0 rfl rfl [0, 1, 2, 3, 4, 5, 6, 7, 8] rfl rfl m_455 m_456 m_457 m_6 m_454 (by decide +kernel) rfl ⟨Nat.le_of_ble_eq_true rfl, Nat.le_of_ble_eq_true rfl⟩ hl.1 rfl (Nat.le_of_ble_eq_true rfl) dL_told_4 ⟨Nat.le_of_ble_eq_true rfl, Nat.le_of_ble_eq_true rfl⟩) hP hD hS hA [0, 1, 2, 3, 4, 5, 6, 7, 8] [9] rfl rfl rfl (by decide) (fun r_1 u H locs hw hP hD hS => ?_)
  have hrr := hw
  have hP : va_P D vwCl [(ou, .inl (Y 1, 1, .inr (.inl (fun _ => 0))))] H := hP
  have hD : va_D A [(ou, .inl (Y 1, 1, .inr (.inl (fun _ => 0))))] := hD
  subst hrr
  refine W.widen (k := 0) (n := 0) (Nat.le_of_ble_eq_true rfl) (Nat.le_of_ble_eq_true rfl) ?_
  refine lv_i2l (v := 0) hx hb dL_told_7 (by decide) ?_
  refine va_last hx hb hK.1 hP hD hS 0 1 rfl rfl (by unfold vp_in; decide) dL_told_8 (fun H locs hP hD hS => ?_)
  have hP : va_P D vwCl [(ou, .inl (Y 1, 1, .inr (.inl (vp_updL (fun _ => 0) (0 : Int32).toNatClampNeg 0))))] H := hP
  have hD : va_D A [(ou, .inl (Y 1, 1, .inr (.inl (vp_updL (fun _ => 0) (0 : Int32).toNatClampNeg 0))))] := hD
  have e_f : (vp_updL (fun _ => 0) (0 : Int32).toNatClampNeg 0) = (fun _ => 0) := updL0 _
  rw [e_f] at hP hD
  clear e_f
  refine lv_goto (tgt := 15) hx hb dL_told_9 (by decide) ?_
  refine lv_iconst (v := 0) hx hb dL_told_15 (by decide) ?_
  exact retI F hr hlocks rfl hP hD hS () [0] rfl rfl (Nat.le_of_ble_eq_true rfl) (Nat.le_of_ble_eq_true rfl) dL_told_16 rfl
set_option maxRecDepth 100000 in
set_option maxHeartbeats 4000000 in
theorem w_toldB (l : Launch) (hfl : l.stackTraces = false) (D : va_G) (Y : Nat → ClassId) (h0 : Nat) (rf : Nat) (g : Nat → Value) (f : Nat → Int32) (j : Int32) (ou : Nat) (g_3 : g 3 = .ref rf) (hj : j < 0 ∨ 11 < j) : hM l D Y yL_told cL_told 4 (some .int) [(0, 9, 12, 13)] 4 1 6 [.ref h0, .int j, .ref ou] [(h0, .inr (8, fl 9 g)), (rf, .inl (Y 0, 3, .inl f)), (ou, .inl (Y 1, 1, .inr (.inl (fun _ => 0))))] (qI D (fun (r : Int32) (u : Unit) => r = 1) (fun (u : Unit) => [(ou, .inl (Y 1, 1, .inr (.inl (fun _ => 0))))])) := by
  refine hM.mk RL rfl (by decide) (Nat.le_of_ble_eq_true rfl) ?_
  intro p e s m below meth c A F hr hlocks htab hK hZ hP hD hA hS ls hl
  have hx := F.1
  have hb := F.2.1
  have hl : lv_has ls 4 [(0, .ref h0), (1, .int j), (2, .ref ou)] := hl
  refine lv_aload_n hx hb dL_told_0 rfl (lv_at hl 2 rfl) ?_
  refine lv_iconst (v := 0) hx hb dL_told_1 (by decide) ?_
  refine lv_aload_n hx hb dL_told_2 rfl (lv_at hl 0 rfl) ?_
  refine lv_iload_n hx hb dL_told_3 rfl (lv_at hl 1 rfl) ?_
  refine xgoI (wr := [(ou, .inl (Y 1, 1, .inr (.inl (fun _ => 0))))]) (xrunV (n := 1) (As := [.int j]) (rest := [.int 0, .ref ou]) (C := RX9) (T := TX9) (N := 9) (ci := 8) F hK hZ hP hD hS hA (c_toldB l hfl D Y h0 rf g f j g_3 hj) 0 rfl rfl [0, 1] rfl rfl m_455 m_456 m_457 m_6 m_454 (by decide +kernel) rfl ⟨Nat.le_of_ble_eq_true rfl, Nat.le_of_ble_eq_true rfl⟩ hl.1 rfl (Nat.le_of_ble_eq_true rfl) dL_told_4 ⟨Nat.le_of_ble_eq_true rfl, Nat.le_of_ble_eq_true rfl⟩) hP hD hS hA [0, 1] [2] rfl rfl rfl (by decide) (fun E ce q9 H locs hE hP hD hS h1 h2 h3 => ?_) (fun r_1 u H locs hw hP hD hS => ?_)
  · skip
    subst hE
    refine vx_catch (ls := ls) F.2.2.2.1 [] ⟨0, 9, 12, 13⟩ [] htab (fun z h => absurd h List.not_mem_nil) (by decide) (by decide) (F.2.2.2.2 _ m_396) (va_Nw.use rfl hK.2.2.2.2.2.2.1) h1 h2 h3 ?_
    have hP : va_P D vwCl [(ou, .inl (Y 1, 1, .inr (.inl (fun _ => 0))))] H := hP
    have hD : va_D A [(ou, .inl (Y 1, 1, .inr (.inl (fun _ => 0))))] := hD
    refine W.widen (k := 1) (n := 6) (Nat.le_of_ble_eq_true rfl) (Nat.le_of_ble_eq_true rfl) ?_
    refine lv_astore_n (lv' := [(3, .ref q9), (0, .ref h0), (1, .int j), (2, .ref ou)]) hx hb dL_told_12 rfl hl (by decide) rfl (fun ls hl => ?_)
    refine lv_iconst (v := 1) hx hb dL_told_13 (by decide) ?_
    exact retI F hr hlocks rfl hP hD hS () [0] rfl rfl (Nat.le_of_ble_eq_true rfl) (Nat.le_of_ble_eq_true rfl) dL_told_14 rfl
  · exact hw.elim
set_option maxRecDepth 100000 in
set_option maxHeartbeats 4000000 in
theorem w_nameAt0 (l : Launch) (hfl : l.stackTraces = false) (D : va_G) (Y : Nat → ClassId) (h0 : Nat) (rf : Nat) (pr : Nat) (g : Nat → Value) (gp : Nat → Value) (f : Nat → Int32) (j2 : Int32) (j3 : Int32) (ou : Nat) (g_3 : g 3 = .ref rf) (g_4 : g 4 = .ref pr) (gp_0 : gp 0 = .int 0) (gp_1 : gp 1 = .int 0) (gp_2 : gp 2 = .int 0)  : hM l D Y yL_nameAt cL_nameAt 6 (some .int) [(0, 12, 15, 19), (0, 12, 19, 13)] 5 1 6 [.ref h0, .int 0, .int j2, .int j3, .ref ou] [(h0, .inr (8, fl 9 g)), (rf, .inl (Y 0, 3, .inl f)), (pr, .inr (3, fl 9 gp)), (ou, .inl (Y 1, 1, .inr (.inl (fun _ => 0))))] (qI D (fun (r : Int32) (u : Unit) => r = 1) (fun (u : Unit) => [(ou, .inl (Y 1, 1, .inr (.inl (fun _ => 0))))])) := by
  refine hM.mk RL rfl (by decide) (Nat.le_of_ble_eq_true rfl) ?_
  intro p e s m below meth c A F hr hlocks htab hK hZ hP hD hA hS ls hl
  have hx := F.1
  have hb := F.2.1
  have hl : lv_has ls 6 [(0, .ref h0), (1, .int 0), (2, .int j2), (3, .int j3), (4, .ref ou)] := hl
  refine lv_aload hx hb dL_nameAt_0 (lv_at hl 4 rfl) ?_
  refine lv_iconst (v := 0) hx hb dL_nameAt_2 (by decide) ?_
  refine lv_aload_n hx hb dL_nameAt_3 rfl (lv_at hl 0 rfl) ?_
  refine lv_iload_n hx hb dL_nameAt_4 rfl (lv_at hl 1 rfl) ?_
  refine lv_iload_n hx hb dL_nameAt_5 rfl (lv_at hl 2 rfl) ?_
  refine lv_iload_n hx hb dL_nameAt_6 rfl (lv_at hl 3 rfl) ?_
  refine xgoI (wr := [(ou, .inl (Y 1, 1, .inr (.inl (fun _ => 0))))]) (xrunV (n := 3) (As := [.int 0, .int j2, .int j3]) (rest := [.int 0, .ref ou]) (C := RX9) (T := TX9) (N := 9) (ci := 8) F hK hZ hP hD hS hA (c_nameAt0 l hfl D Y h0 rf pr g gp f j2 j3 g_3 g_4 gp_0 gp_1 gp_2 ) 0 rfl rfl [0, 1, 2] rfl rfl m_459 m_460 m_461 m_6 m_458 (by decide +kernel) rfl ⟨Nat.le_of_ble_eq_true rfl, Nat.le_of_ble_eq_true rfl⟩ hl.1 rfl (Nat.le_of_ble_eq_true rfl) dL_nameAt_7 ⟨Nat.le_of_ble_eq_true rfl, Nat.le_of_ble_eq_true rfl⟩) hP hD hS hA [0, 1, 2] [3] rfl rfl rfl (by decide) (fun E ce q9 H locs hE hP hD hS h1 h2 h3 => ?_) (fun r_1 u H locs hw hP hD hS => ?_)
  · skip
    subst hE
    refine vx_catch (ls := ls) F.2.2.2.1 [] ⟨0, 12, 15, 19⟩ [⟨0, 12, 19, 13⟩] htab (fun z h => absurd h List.not_mem_nil) (by decide) (by decide) (F.2.2.2.2 _ m_401) (va_Nw.use rfl hK.2.2.2.2.2.1) h1 h2 h3 ?_
    have hP : va_P D vwCl [(ou, .inl (Y 1, 1, .inr (.inl (fun _ => 0))))] H := hP
    have hD : va_D A [(ou, .inl (Y 1, 1, .inr (.inl (fun _ => 0))))] := hD
    refine W.widen (k := 1) (n := 6) (Nat.le_of_ble_eq_true rfl) (Nat.le_of_ble_eq_true rfl) ?_
    refine lv_astore (lv' := [(5, .ref q9), (0, .ref h0), (1, .int 0), (2, .int j2), (3, .int j3), (4, .ref ou)]) hx hb dL_nameAt_15 hl (by decide) rfl (fun ls hl => ?_)
    refine lv_iconst (v := 1) hx hb dL_nameAt_17 (by decide) ?_
    exact retI F hr hlocks rfl hP hD hS () [0] rfl rfl (Nat.le_of_ble_eq_true rfl) (Nat.le_of_ble_eq_true rfl) dL_nameAt_18 rfl
  · exact hw.elim
set_option maxRecDepth 100000 in
set_option maxHeartbeats 4000000 in
theorem w_nameAt1 (l : Launch) (hfl : l.stackTraces = false) (D : va_G) (Y : Nat → ClassId) (h0 : Nat) (rf : Nat) (pr : Nat) (g : Nat → Value) (gp : Nat → Value) (f : Nat → Int32) (j2 : Int32) (j3 : Int32) (ou : Nat) (g_3 : g 3 = .ref rf) (g_4 : g 4 = .ref pr) (gp_0 : gp 0 = .int 0) (gp_1 : gp 1 = .int 0) (gp_2 : gp 2 = .int 0)  : hM l D Y yL_nameAt cL_nameAt 6 (some .int) [(0, 12, 15, 19), (0, 12, 19, 13)] 5 1 6 [.ref h0, .int 1, .int j2, .int j3, .ref ou] [(h0, .inr (8, fl 9 g)), (rf, .inl (Y 0, 3, .inl f)), (pr, .inr (3, fl 9 gp)), (ou, .inl (Y 1, 1, .inr (.inl (fun _ => 0))))] (qI D (fun (r : Int32) (u : Unit) => r = 1) (fun (u : Unit) => [(ou, .inl (Y 1, 1, .inr (.inl (fun _ => 0))))])) := by
  refine hM.mk RL rfl (by decide) (Nat.le_of_ble_eq_true rfl) ?_
  intro p e s m below meth c A F hr hlocks htab hK hZ hP hD hA hS ls hl
  have hx := F.1
  have hb := F.2.1
  have hl : lv_has ls 6 [(0, .ref h0), (1, .int 1), (2, .int j2), (3, .int j3), (4, .ref ou)] := hl
  refine lv_aload hx hb dL_nameAt_0 (lv_at hl 4 rfl) ?_
  refine lv_iconst (v := 0) hx hb dL_nameAt_2 (by decide) ?_
  refine lv_aload_n hx hb dL_nameAt_3 rfl (lv_at hl 0 rfl) ?_
  refine lv_iload_n hx hb dL_nameAt_4 rfl (lv_at hl 1 rfl) ?_
  refine lv_iload_n hx hb dL_nameAt_5 rfl (lv_at hl 2 rfl) ?_
  refine lv_iload_n hx hb dL_nameAt_6 rfl (lv_at hl 3 rfl) ?_
  refine xgoI (wr := [(ou, .inl (Y 1, 1, .inr (.inl (fun _ => 0))))]) (xrunV (n := 3) (As := [.int 1, .int j2, .int j3]) (rest := [.int 0, .ref ou]) (C := RX9) (T := TX9) (N := 9) (ci := 8) F hK hZ hP hD hS hA (c_nameAt1 l hfl D Y h0 rf pr g gp f j2 j3 g_3 g_4 gp_0 gp_1 gp_2 ) 0 rfl rfl [0, 1, 2] rfl rfl m_459 m_460 m_461 m_6 m_458 (by decide +kernel) rfl ⟨Nat.le_of_ble_eq_true rfl, Nat.le_of_ble_eq_true rfl⟩ hl.1 rfl (Nat.le_of_ble_eq_true rfl) dL_nameAt_7 ⟨Nat.le_of_ble_eq_true rfl, Nat.le_of_ble_eq_true rfl⟩) hP hD hS hA [0, 1, 2] [3] rfl rfl rfl (by decide) (fun E ce q9 H locs hE hP hD hS h1 h2 h3 => ?_) (fun r_1 u H locs hw hP hD hS => ?_)
  · skip
    subst hE
    refine vx_catch (ls := ls) F.2.2.2.1 [] ⟨0, 12, 15, 19⟩ [⟨0, 12, 19, 13⟩] htab (fun z h => absurd h List.not_mem_nil) (by decide) (by decide) (F.2.2.2.2 _ m_401) (va_Nw.use rfl hK.2.2.2.2.2.1) h1 h2 h3 ?_
    have hP : va_P D vwCl [(ou, .inl (Y 1, 1, .inr (.inl (fun _ => 0))))] H := hP
    have hD : va_D A [(ou, .inl (Y 1, 1, .inr (.inl (fun _ => 0))))] := hD
    refine W.widen (k := 1) (n := 6) (Nat.le_of_ble_eq_true rfl) (Nat.le_of_ble_eq_true rfl) ?_
    refine lv_astore (lv' := [(5, .ref q9), (0, .ref h0), (1, .int 1), (2, .int j2), (3, .int j3), (4, .ref ou)]) hx hb dL_nameAt_15 hl (by decide) rfl (fun ls hl => ?_)
    refine lv_iconst (v := 1) hx hb dL_nameAt_17 (by decide) ?_
    exact retI F hr hlocks rfl hP hD hS () [0] rfl rfl (Nat.le_of_ble_eq_true rfl) (Nat.le_of_ble_eq_true rfl) dL_nameAt_18 rfl
  · exact hw.elim
set_option maxRecDepth 100000 in
set_option maxHeartbeats 4000000 in
theorem w_nameAtB (l : Launch) (hfl : l.stackTraces = false) (D : va_G) (Y : Nat → ClassId) (h0 : Nat) (rf : Nat) (g : Nat → Value) (f : Nat → Int32) (j : Int32) (j2 : Int32) (j3 : Int32) (ou : Nat) (g_3 : g 3 = .ref rf) (hj : j < 0 ∨ 1 < j) : hM l D Y yL_nameAt cL_nameAt 6 (some .int) [(0, 12, 15, 19), (0, 12, 19, 13)] 5 1 6 [.ref h0, .int j, .int j2, .int j3, .ref ou] [(h0, .inr (8, fl 9 g)), (rf, .inl (Y 0, 3, .inl f)), (ou, .inl (Y 1, 1, .inr (.inl (fun _ => 0))))] (qI D (fun (r : Int32) (u : Unit) => r = 2) (fun (u : Unit) => [(ou, .inl (Y 1, 1, .inr (.inl (fun _ => 0))))])) := by
  refine hM.mk RL rfl (by decide) (Nat.le_of_ble_eq_true rfl) ?_
  intro p e s m below meth c A F hr hlocks htab hK hZ hP hD hA hS ls hl
  have hx := F.1
  have hb := F.2.1
  have hl : lv_has ls 6 [(0, .ref h0), (1, .int j), (2, .int j2), (3, .int j3), (4, .ref ou)] := hl
  refine lv_aload hx hb dL_nameAt_0 (lv_at hl 4 rfl) ?_
  refine lv_iconst (v := 0) hx hb dL_nameAt_2 (by decide) ?_
  refine lv_aload_n hx hb dL_nameAt_3 rfl (lv_at hl 0 rfl) ?_
  refine lv_iload_n hx hb dL_nameAt_4 rfl (lv_at hl 1 rfl) ?_
  refine lv_iload_n hx hb dL_nameAt_5 rfl (lv_at hl 2 rfl) ?_
  refine lv_iload_n hx hb dL_nameAt_6 rfl (lv_at hl 3 rfl) ?_
  refine xgoI (wr := [(ou, .inl (Y 1, 1, .inr (.inl (fun _ => 0))))]) (xrunV (n := 3) (As := [.int j, .int j2, .int j3]) (rest := [.int 0, .ref ou]) (C := RX9) (T := TX9) (N := 9) (ci := 8) F hK hZ hP hD hS hA (c_nameAtB l hfl D Y h0 rf g f j j2 j3 g_3 hj) 0 rfl rfl [0, 1] rfl rfl m_459 m_460 m_461 m_6 m_458 (by decide +kernel) rfl ⟨Nat.le_of_ble_eq_true rfl, Nat.le_of_ble_eq_true rfl⟩ hl.1 rfl (Nat.le_of_ble_eq_true rfl) dL_nameAt_7 ⟨Nat.le_of_ble_eq_true rfl, Nat.le_of_ble_eq_true rfl⟩) hP hD hS hA [0, 1] [2] rfl rfl rfl (by decide) (fun E ce q9 H locs hE hP hD hS h1 h2 h3 => ?_) (fun r_1 u H locs hw hP hD hS => ?_)
  · skip
    subst hE
    refine vx_catch (ls := ls) F.2.2.2.1 [⟨0, 12, 15, 19⟩] ⟨0, 12, 19, 13⟩ [] htab (fun z h => by cases (List.mem_singleton.mp h); exact Or.inr ⟨by decide, nse, F.2.2.2.2 _ m_401, hK.2.2.2.2.2.2.2.1⟩) (by decide) (by decide) (F.2.2.2.2 _ m_396) (va_Nw.use rfl hK.2.2.2.2.2.2.1) h1 h2 h3 ?_
    have hP : va_P D vwCl [(ou, .inl (Y 1, 1, .inr (.inl (fun _ => 0))))] H := hP
    have hD : va_D A [(ou, .inl (Y 1, 1, .inr (.inl (fun _ => 0))))] := hD
    refine W.widen (k := 1) (n := 6) (Nat.le_of_ble_eq_true rfl) (Nat.le_of_ble_eq_true rfl) ?_
    refine lv_astore (lv' := [(5, .ref q9), (0, .ref h0), (1, .int j), (2, .int j2), (3, .int j3), (4, .ref ou)]) hx hb dL_nameAt_19 hl (by decide) rfl (fun ls hl => ?_)
    refine lv_iconst (v := 2) hx hb dL_nameAt_21 (by decide) ?_
    exact retI F hr hlocks rfl hP hD hS () [0] rfl rfl (Nat.le_of_ble_eq_true rfl) (Nat.le_of_ble_eq_true rfl) dL_nameAt_22 rfl
  · exact hw.elim
