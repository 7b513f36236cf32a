theorem dX10_noTables_0 : decode cX10_noTables 0 = .ok (.aload_n 0, 1) := by decide +kernel
theorem dX10_noTables_1 : decode cX10_noTables 1 = .ok (.iconst 0, 1) := by decide +kernel
theorem dX10_noTables_2 : decode cX10_noTables 2 = .ok (.putfield 400, 3) := by decide +kernel
theorem dX10_noTables_5 : decode cX10_noTables 5 = .ok (.aload_n 0, 1) := by decide +kernel
theorem dX10_noTables_6 : decode cX10_noTables 6 = .ok (.iconst 0, 1) := by decide +kernel
theorem dX10_noTables_7 : decode cX10_noTables 7 = .ok (.putfield 403, 3) := by decide +kernel
theorem dX10_noTables_10 : decode cX10_noTables 10 = .ok (.iconst 0, 1) := by decide +kernel
theorem dX10_noTables_11 : decode cX10_noTables 11 = .ok (.istore_n 1, 1) := by decide +kernel
theorem dX10_noTables_12 : decode cX10_noTables 12 = .ok (.iload_n 1, 1) := by decide +kernel
theorem dX10_noTables_13 : decode cX10_noTables 13 = .ok (.sipush 1000, 3) := by decide +kernel
theorem dX10_noTables_16 : decode cX10_noTables 16 = .ok (.if_icmp .ge 16, 3) := by decide +kernel
theorem dX10_noTables_19 : decode cX10_noTables 19 = .ok (.aload_n 0, 1) := by decide +kernel
theorem dX10_noTables_20 : decode cX10_noTables 20 = .ok (.getfield 98, 3) := by decide +kernel
theorem dX10_noTables_23 : decode cX10_noTables 23 = .ok (.iload_n 1, 1) := by decide +kernel
theorem dX10_noTables_24 : decode cX10_noTables 24 = .ok (.iconst 0, 1) := by decide +kernel
theorem dX10_noTables_25 : decode cX10_noTables 25 = .ok (.iastore, 1) := by decide +kernel
theorem dX10_noTables_26 : decode cX10_noTables 26 = .ok (.iinc 1 1, 3) := by decide +kernel
theorem dX10_noTables_29 : decode cX10_noTables 29 = .ok (.goto (-17), 3) := by decide +kernel
theorem dX10_noTables_32 : decode cX10_noTables 32 = .ok (.return_, 1) := by decide +kernel
theorem dX10_abolish_0 : decode cX10_abolish 0 = .ok (.aload_n 0, 1) := by decide +kernel
theorem dX10_abolish_1 : decode cX10_abolish 1 = .ok (.iconst 0, 1) := by decide +kernel
theorem dX10_abolish_2 : decode cX10_abolish 2 = .ok (.putfield 164, 3) := by decide +kernel
theorem dX10_abolish_5 : decode cX10_abolish 5 = .ok (.aload_n 0, 1) := by decide +kernel
theorem dX10_abolish_6 : decode cX10_abolish 6 = .ok (.getfield 400, 3) := by decide +kernel
theorem dX10_abolish_9 : decode cX10_abolish 9 = .ok (.istore_n 1, 1) := by decide +kernel
theorem dX10_abolish_10 : decode cX10_abolish 10 = .ok (.aload_n 0, 1) := by decide +kernel
theorem dX10_abolish_11 : decode cX10_abolish 11 = .ok (.invokevirtual 353, 3) := by decide +kernel
theorem dX10_abolish_14 : decode cX10_abolish 14 = .ok (.iload_n 1, 1) := by decide +kernel
theorem dX10_abolish_15 : decode cX10_abolish 15 = .ok (.ireturn, 1) := by decide +kernel
theorem dX10_stands_0 : decode cX10_stands 0 = .ok (.aload_n 0, 1) := by decide +kernel
theorem dX10_stands_1 : decode cX10_stands 1 = .ok (.aload_n 0, 1) := by decide +kernel
theorem dX10_stands_2 : decode cX10_stands 2 = .ok (.getfield 307, 3) := by decide +kernel
theorem dX10_stands_5 : decode cX10_stands 5 = .ok (.putfield 344, 3) := by decide +kernel
theorem dX10_stands_8 : decode cX10_stands 8 = .ok (.aload_n 0, 1) := by decide +kernel
theorem dX10_stands_9 : decode cX10_stands 9 = .ok (.aload_n 0, 1) := by decide +kernel
theorem dX10_stands_10 : decode cX10_stands 10 = .ok (.getfield 292, 3) := by decide +kernel
theorem dX10_stands_13 : decode cX10_stands 13 = .ok (.putfield 181, 3) := by decide +kernel
theorem dX10_stands_16 : decode cX10_stands 16 = .ok (.aload_n 0, 1) := by decide +kernel
theorem dX10_stands_17 : decode cX10_stands 17 = .ok (.aload_n 0, 1) := by decide +kernel
theorem dX10_stands_18 : decode cX10_stands 18 = .ok (.getfield 324, 3) := by decide +kernel
theorem dX10_stands_21 : decode cX10_stands 21 = .ok (.putfield 191, 3) := by decide +kernel
theorem dX10_stands_24 : decode cX10_stands 24 = .ok (.iconst 0, 1) := by decide +kernel
theorem dX10_stands_25 : decode cX10_stands 25 = .ok (.istore_n 1, 1) := by decide +kernel
theorem dX10_stands_26 : decode cX10_stands 26 = .ok (.iload_n 1, 1) := by decide +kernel
theorem dX10_stands_27 : decode cX10_stands 27 = .ok (.sipush 1800, 3) := by decide +kernel
theorem dX10_stands_30 : decode cX10_stands 30 = .ok (.if_icmp .ge 21, 3) := by decide +kernel
theorem dX10_stands_33 : decode cX10_stands 33 = .ok (.aload_n 0, 1) := by decide +kernel
theorem dX10_stands_34 : decode cX10_stands 34 = .ok (.getfield 16, 3) := by decide +kernel
theorem dX10_stands_37 : decode cX10_stands 37 = .ok (.iload_n 1, 1) := by decide +kernel
theorem dX10_stands_38 : decode cX10_stands 38 = .ok (.aload_n 0, 1) := by decide +kernel
theorem dX10_stands_39 : decode cX10_stands 39 = .ok (.getfield 62, 3) := by decide +kernel
theorem dX10_stands_42 : decode cX10_stands 42 = .ok (.iload_n 1, 1) := by decide +kernel
theorem dX10_stands_43 : decode cX10_stands 43 = .ok (.iaload, 1) := by decide +kernel
theorem dX10_stands_44 : decode cX10_stands 44 = .ok (.iastore, 1) := by decide +kernel
theorem dX10_stands_45 : decode cX10_stands 45 = .ok (.iinc 1 1, 3) := by decide +kernel
theorem dX10_stands_48 : decode cX10_stands 48 = .ok (.goto (-22), 3) := by decide +kernel
theorem dX10_stands_51 : decode cX10_stands 51 = .ok (.iconst 0, 1) := by decide +kernel
theorem dX10_stands_52 : decode cX10_stands 52 = .ok (.istore_n 1, 1) := by decide +kernel
theorem dX10_stands_53 : decode cX10_stands 53 = .ok (.iload_n 1, 1) := by decide +kernel
theorem dX10_stands_54 : decode cX10_stands 54 = .ok (.bipush 10, 2) := by decide +kernel
theorem dX10_stands_56 : decode cX10_stands 56 = .ok (.if_icmp .ge 33, 3) := by decide +kernel
theorem dX10_stands_59 : decode cX10_stands 59 = .ok (.aload_n 0, 1) := by decide +kernel
theorem dX10_stands_60 : decode cX10_stands 60 = .ok (.getfield 13, 3) := by decide +kernel
theorem dX10_stands_63 : decode cX10_stands 63 = .ok (.iload_n 1, 1) := by decide +kernel
theorem dX10_stands_64 : decode cX10_stands 64 = .ok (.aload_n 0, 1) := by decide +kernel
theorem dX10_stands_65 : decode cX10_stands 65 = .ok (.getfield 59, 3) := by decide +kernel
theorem dX10_stands_68 : decode cX10_stands 68 = .ok (.iload_n 1, 1) := by decide +kernel
theorem dX10_stands_69 : decode cX10_stands 69 = .ok (.iaload, 1) := by decide +kernel
theorem dX10_stands_70 : decode cX10_stands 70 = .ok (.iastore, 1) := by decide +kernel
theorem dX10_stands_71 : decode cX10_stands 71 = .ok (.aload_n 0, 1) := by decide +kernel
theorem dX10_stands_72 : decode cX10_stands 72 = .ok (.getfield 19, 3) := by decide +kernel
theorem dX10_stands_75 : decode cX10_stands 75 = .ok (.iload_n 1, 1) := by decide +kernel
theorem dX10_stands_76 : decode cX10_stands 76 = .ok (.aload_n 0, 1) := by decide +kernel
theorem dX10_stands_77 : decode cX10_stands 77 = .ok (.getfield 65, 3) := by decide +kernel
theorem dX10_stands_80 : decode cX10_stands 80 = .ok (.iload_n 1, 1) := by decide +kernel
theorem dX10_stands_81 : decode cX10_stands 81 = .ok (.laload, 1) := by decide +kernel
theorem dX10_stands_82 : decode cX10_stands 82 = .ok (.lastore, 1) := by decide +kernel
theorem dX10_stands_83 : decode cX10_stands 83 = .ok (.iinc 1 1, 3) := by decide +kernel
theorem dX10_stands_86 : decode cX10_stands 86 = .ok (.goto (-33), 3) := by decide +kernel
theorem dX10_stands_89 : decode cX10_stands 89 = .ok (.iconst 0, 1) := by decide +kernel
theorem dX10_stands_90 : decode cX10_stands 90 = .ok (.istore_n 1, 1) := by decide +kernel
theorem dX10_stands_91 : decode cX10_stands 91 = .ok (.iload_n 1, 1) := by decide +kernel
theorem dX10_stands_92 : decode cX10_stands 92 = .ok (.bipush 8, 2) := by decide +kernel
theorem dX10_stands_94 : decode cX10_stands 94 = .ok (.if_icmp .ge 21, 3) := by decide +kernel
theorem dX10_stands_97 : decode cX10_stands 97 = .ok (.aload_n 0, 1) := by decide +kernel
theorem dX10_stands_98 : decode cX10_stands 98 = .ok (.getfield 23, 3) := by decide +kernel
theorem dX10_stands_101 : decode cX10_stands 101 = .ok (.iload_n 1, 1) := by decide +kernel
theorem dX10_stands_102 : decode cX10_stands 102 = .ok (.aload_n 0, 1) := by decide +kernel
theorem dX10_stands_103 : decode cX10_stands 103 = .ok (.getfield 68, 3) := by decide +kernel
theorem dX10_stands_106 : decode cX10_stands 106 = .ok (.iload_n 1, 1) := by decide +kernel
theorem dX10_stands_107 : decode cX10_stands 107 = .ok (.laload, 1) := by decide +kernel
theorem dX10_stands_108 : decode cX10_stands 108 = .ok (.lastore, 1) := by decide +kernel
theorem dX10_stands_109 : decode cX10_stands 109 = .ok (.iinc 1 1, 3) := by decide +kernel
theorem dX10_stands_112 : decode cX10_stands 112 = .ok (.goto (-21), 3) := by decide +kernel
theorem dX10_stands_115 : decode cX10_stands 115 = .ok (.aload_n 0, 1) := by decide +kernel
theorem dX10_stands_116 : decode cX10_stands 116 = .ok (.iconst 0, 1) := by decide +kernel
theorem dX10_stands_117 : decode cX10_stands 117 = .ok (.putfield 205, 3) := by decide +kernel
theorem dX10_stands_120 : decode cX10_stands 120 = .ok (.aload_n 0, 1) := by decide +kernel
theorem dX10_stands_121 : decode cX10_stands 121 = .ok (.iconst 0, 1) := by decide +kernel
theorem dX10_stands_122 : decode cX10_stands 122 = .ok (.putfield 347, 3) := by decide +kernel
theorem dX10_stands_125 : decode cX10_stands 125 = .ok (.aload_n 0, 1) := by decide +kernel
theorem dX10_stands_126 : decode cX10_stands 126 = .ok (.iconst 0, 1) := by decide +kernel
theorem dX10_stands_127 : decode cX10_stands 127 = .ok (.putfield 350, 3) := by decide +kernel
theorem dX10_stands_130 : decode cX10_stands 130 = .ok (.aload_n 0, 1) := by decide +kernel
theorem dX10_stands_131 : decode cX10_stands 131 = .ok (.invokevirtual 353, 3) := by decide +kernel
theorem dX10_stands_134 : decode cX10_stands 134 = .ok (.return_, 1) := by decide +kernel
theorem dX10_sign_0 : decode cX10_sign 0 = .ok (.aload_n 0, 1) := by decide +kernel
theorem dX10_sign_1 : decode cX10_sign 1 = .ok (.getfield 243, 3) := by decide +kernel
theorem dX10_sign_4 : decode cX10_sign 4 = .ok (.aload_n 0, 1) := by decide +kernel
theorem dX10_sign_5 : decode cX10_sign 5 = .ok (.getfield 246, 3) := by decide +kernel
theorem dX10_sign_8 : decode cX10_sign 8 = .ok (.if_icmp .ge 30, 3) := by decide +kernel
theorem dX10_sign_38 : decode cX10_sign 38 = .ok (.aload_n 0, 1) := by decide +kernel
theorem dX10_sign_39 : decode cX10_sign 39 = .ok (.getfield 243, 3) := by decide +kernel
theorem dX10_sign_42 : decode cX10_sign 42 = .ok (.aload_n 0, 1) := by decide +kernel
theorem dX10_sign_43 : decode cX10_sign 43 = .ok (.getfield 246, 3) := by decide +kernel
theorem dX10_sign_46 : decode cX10_sign 46 = .ok (.if_icmp .ge 15, 3) := by decide +kernel
theorem dX10_sign_61 : decode cX10_sign 61 = .ok (.iconst 0, 1) := by decide +kernel
theorem dX10_sign_62 : decode cX10_sign 62 = .ok (.ireturn, 1) := by decide +kernel
theorem dX10_text_0 : decode cX10_text 0 = .ok (.aload_n 0, 1) := by decide +kernel
theorem dX10_text_1 : decode cX10_text 1 = .ok (.iconst 0, 1) := by decide +kernel
theorem dX10_text_2 : decode cX10_text 2 = .ok (.putfield 164, 3) := by decide +kernel
theorem dX10_text_5 : decode cX10_text 5 = .ok (.aload_n 0, 1) := by decide +kernel
theorem dX10_text_6 : decode cX10_text 6 = .ok (.iload_n 1, 1) := by decide +kernel
theorem dX10_text_7 : decode cX10_text 7 = .ok (.iconst 0, 1) := by decide +kernel
theorem dX10_text_8 : decode cX10_text 8 = .ok (.aload_n 0, 1) := by decide +kernel
theorem dX10_text_9 : decode cX10_text 9 = .ok (.getfield 231, 3) := by decide +kernel
theorem dX10_text_12 : decode cX10_text 12 = .ok (.invokestatic 330, 3) := by decide +kernel
theorem dX10_text_15 : decode cX10_text 15 = .ok (.iconst 1, 1) := by decide +kernel
theorem dX10_text_16 : decode cX10_text 16 = .ok (.iconst 1, 1) := by decide +kernel
theorem dX10_text_17 : decode cX10_text 17 = .ok (.invokevirtual 334, 3) := by decide +kernel
theorem dX10_text_20 : decode cX10_text 20 = .ok (.ifCond .ne 5, 3) := by decide +kernel
theorem dX10_text_23 : decode cX10_text 23 = .ok (.iconst 0, 1) := by decide +kernel
theorem dX10_text_24 : decode cX10_text 24 = .ok (.ireturn, 1) := by decide +kernel
theorem dX10_text_25 : decode cX10_text 25 = .ok (.iconst 0, 1) := by decide +kernel
theorem dX10_text_26 : decode cX10_text 26 = .ok (.istore_n 2, 1) := by decide +kernel
theorem dX10_text_27 : decode cX10_text 27 = .ok (.iload_n 2, 1) := by decide +kernel
theorem dX10_text_28 : decode cX10_text 28 = .ok (.iload_n 1, 1) := by decide +kernel
theorem dX10_text_29 : decode cX10_text 29 = .ok (.if_icmp .ge 21, 3) := by decide +kernel
theorem dX10_text_50 : decode cX10_text 50 = .ok (.aload_n 0, 1) := by decide +kernel
theorem dX10_text_51 : decode cX10_text 51 = .ok (.iconst 0, 1) := by decide +kernel
theorem dX10_text_52 : decode cX10_text 52 = .ok (.putfield 231, 3) := by decide +kernel
theorem dX10_text_55 : decode cX10_text 55 = .ok (.aload_n 0, 1) := by decide +kernel
theorem dX10_text_56 : decode cX10_text 56 = .ok (.iload_n 1, 1) := by decide +kernel
theorem dX10_text_57 : decode cX10_text 57 = .ok (.putfield 246, 3) := by decide +kernel
theorem dX10_text_60 : decode cX10_text 60 = .ok (.aload_n 0, 1) := by decide +kernel
theorem dX10_text_61 : decode cX10_text 61 = .ok (.iconst 0, 1) := by decide +kernel
theorem dX10_text_62 : decode cX10_text 62 = .ok (.putfield 243, 3) := by decide +kernel
theorem dX10_text_65 : decode cX10_text 65 = .ok (.aload_n 0, 1) := by decide +kernel
theorem dX10_text_66 : decode cX10_text 66 = .ok (.iconst 0, 1) := by decide +kernel
theorem dX10_text_67 : decode cX10_text 67 = .ok (.putfield 237, 3) := by decide +kernel
theorem dX10_text_70 : decode cX10_text 70 = .ok (.aload_n 0, 1) := by decide +kernel
theorem dX10_text_71 : decode cX10_text 71 = .ok (.iconst 0, 1) := by decide +kernel
theorem dX10_text_72 : decode cX10_text 72 = .ok (.putfield 307, 3) := by decide +kernel
theorem dX10_text_75 : decode cX10_text 75 = .ok (.aload_n 0, 1) := by decide +kernel
theorem dX10_text_76 : decode cX10_text 76 = .ok (.iconst 0, 1) := by decide +kernel
theorem dX10_text_77 : decode cX10_text 77 = .ok (.putfield 292, 3) := by decide +kernel
theorem dX10_text_80 : decode cX10_text 80 = .ok (.aload_n 0, 1) := by decide +kernel
theorem dX10_text_81 : decode cX10_text 81 = .ok (.iconst 0, 1) := by decide +kernel
theorem dX10_text_82 : decode cX10_text 82 = .ok (.putfield 324, 3) := by decide +kernel
theorem dX10_text_85 : decode cX10_text 85 = .ok (.aload_n 0, 1) := by decide +kernel
theorem dX10_text_86 : decode cX10_text 86 = .ok (.getfield 237, 3) := by decide +kernel
theorem dX10_text_89 : decode cX10_text 89 = .ok (.ifCond .ne 28, 3) := by decide +kernel
theorem dX10_text_92 : decode cX10_text 92 = .ok (.aload_n 0, 1) := by decide +kernel
theorem dX10_text_93 : decode cX10_text 93 = .ok (.invokevirtual 249, 3) := by decide +kernel
theorem dX10_text_96 : decode cX10_text 96 = .ok (.ifCond .ne 14, 3) := by decide +kernel
theorem dX10_text_99 : decode cX10_text 99 = .ok (.aload_n 0, 1) := by decide +kernel
theorem dX10_text_100 : decode cX10_text 100 = .ok (.getfield 243, 3) := by decide +kernel
theorem dX10_text_103 : decode cX10_text 103 = .ok (.aload_n 0, 1) := by decide +kernel
theorem dX10_text_104 : decode cX10_text 104 = .ok (.getfield 246, 3) := by decide +kernel
theorem dX10_text_107 : decode cX10_text 107 = .ok (.if_icmp .ge 10, 3) := by decide +kernel
theorem dX10_text_117 : decode cX10_text 117 = .ok (.aload_n 0, 1) := by decide +kernel
theorem dX10_text_118 : decode cX10_text 118 = .ok (.aload_n 0, 1) := by decide +kernel
theorem dX10_text_119 : decode cX10_text 119 = .ok (.getfield 237, 3) := by decide +kernel
theorem dX10_text_122 : decode cX10_text 122 = .ok (.ifCond .le 10, 3) := by decide +kernel
theorem dX10_text_132 : decode cX10_text 132 = .ok (.iconst (-1), 1) := by decide +kernel
theorem dX10_text_133 : decode cX10_text 133 = .ok (.putfield 55, 3) := by decide +kernel
theorem dX10_text_136 : decode cX10_text 136 = .ok (.aload_n 0, 1) := by decide +kernel
theorem dX10_text_137 : decode cX10_text 137 = .ok (.getfield 237, 3) := by decide +kernel
theorem dX10_text_140 : decode cX10_text 140 = .ok (.ifCond .le 11, 3) := by decide +kernel
theorem dX10_text_151 : decode cX10_text 151 = .ok (.aload_n 0, 1) := by decide +kernel
theorem dX10_text_152 : decode cX10_text 152 = .ok (.invokevirtual 341, 3) := by decide +kernel
theorem dX10_text_155 : decode cX10_text 155 = .ok (.aload_n 0, 1) := by decide +kernel
theorem dX10_text_156 : decode cX10_text 156 = .ok (.getfield 191, 3) := by decide +kernel
theorem dX10_text_159 : decode cX10_text 159 = .ok (.ireturn, 1) := by decide +kernel
set_option maxRecDepth 100000 in
set_option maxHeartbeats 4000000 in
theorem m_noT (l : Launch) (D : va_G) (Y : Nat → ClassId) (mm : Nat) (to : Nat) (th : Int32) (g : Nat → Value) (f : Nat → Int32) (g_0 : g 0 = .int th) (g_4 : g 4 = .int 0) (g_50 : g 50 = .ref to)  : cM l D Y yX10_noTables cX10_noTables 2 none 1 0 0 [.ref mm] [(mm, .inr (9, fl 77 g)), (to, .inl (Y 0, 1000, .inl f))] (qV D (fun (u : Nat → Value) => u 0 = .int th ∧ u 4 = .int 0) (fun (u : Nat → Value) => [(mm, .inr (9, fl 77 u))])) := by
  refine cM.mk RX10 rfl (by decide) (Nat.le_of_ble_eq_true rfl) ?_
  intro p e s m below meth c A F hr hlocks hin hK hZ hP hD hA hS ls hl
  have hx := F.1
  have hb := F.2.1
  have hl : lv_has ls 2 [(0, .ref mm)] := hl
  refine lv_aload_n hx hb dX10_noTables_0 rfl (lv_at hl 0 rfl) ?_
  refine lv_iconst (v := 0) hx hb dX10_noTables_1 (by decide) ?_
  refine pF (C := RX10) (T := TX10) (ci := 9) F hK hP hD hS 0 rfl rfl iwX10 tyX10 tyX10_ok nmX10 46 (by decide) m_214 (fun _ h => h) rfl rfl rfl dX10_noTables_2 (fun H locs hP hD hS => ?_)
  have hP : va_P D vwCl [(mm, .inr (9, fl 77 (va_up g 46 (.int 0)))), (to, .inl (Y 0, 1000, .inl f))] H := hP
  have hD : va_D A [(mm, .inr (9, fl 77 (va_up g 46 (.int 0)))), (to, .inl (Y 0, 1000, .inl f))] := hD
  refine lv_aload_n hx hb dX10_noTables_5 rfl (lv_at hl 0 rfl) ?_
  refine lv_iconst (v := 0) hx hb dX10_noTables_6 (by decide) ?_
  refine pF (C := RX10) (T := TX10) (ci := 9) F hK hP hD hS 0 rfl rfl iwX10 tyX10 tyX10_ok nmX10 66 (by decide) m_219 (fun _ h => h) rfl rfl rfl dX10_noTables_7 (fun H locs hP hD hS => ?_)
  have hP : va_P D vwCl [(mm, .inr (9, fl 77 (va_up (va_up g 46 (.int 0)) 66 (.int 0)))), (to, .inl (Y 0, 1000, .inl f))] H := hP
  have hD : va_D A [(mm, .inr (9, fl 77 (va_up (va_up g 46 (.int 0)) 66 (.int 0)))), (to, .inl (Y 0, 1000, .inl f))] := hD
  refine lv_iconst (v := 0) hx hb dX10_noTables_10 (by decide) ?_
  refine lv_istore_n (lv' := [(1, .int 0), (0, .ref mm)]) hx hb dX10_noTables_11 rfl hl (by decide) rfl (fun ls hl => ?_)
  refine loopN (X := Nat → Int32) 1000 (fun i x H locs ls => va_P D vwCl [(mm, .inr (9, fl 77 (va_up (va_up g 46 (.int 0)) 66 (.int 0)))), (to, .inl (Y 0, 1000, .inl x))] H ∧ va_D A [(mm, .inr (9, fl 77 (va_up (va_up g 46 (.int 0)) 66 (.int 0)))), (to, .inl (Y 0, 1000, .inl x))] ∧ va_S A s.heap H locs ∧ lv_has ls 2 [(0, .ref mm), (1, .int (nI i))]) 12 ?_ ?_ 0 f (by omega) ⟨hP, hD, hS, lv_sub hl [1, 0] rfl⟩
  · rintro x1 H locs ls ⟨hP, hD, hS, hl⟩
    have hP : va_P D vwCl [(mm, .inr (9, fl 77 (va_up (va_up g 46 (.int 0)) 66 (.int 0)))), (to, .inl (Y 0, 1000, .inl x1))] H := hP
    have hD : va_D A [(mm, .inr (9, fl 77 (va_up (va_up g 46 (.int 0)) 66 (.int 0)))), (to, .inl (Y 0, 1000, .inl x1))] := hD
    have hl : lv_has ls 2 [(0, .ref mm), (1, .int 1000)] := hl
    refine lv_iload_n hx hb dX10_noTables_12 rfl (lv_at hl 1 rfl) ?_
    refine lv_sipush (v := 1000) hx hb dX10_noTables_13 (by decide) ?_
    refine lv_icmp_ge (tgt := 32) hx hb dX10_noTables_16 (by decide) (fun _ => ?_) (fun c9 => absurd (by decide) c9)
    exact retV F hr hlocks hP hD hS (va_up (va_up g 46 (.int 0)) 66 (.int 0)) [0] rfl rfl (Nat.le_of_ble_eq_true rfl) (Nat.le_of_ble_eq_true rfl) dX10_noTables_32 ⟨g_0, g_4⟩
  · rintro i x1 H locs ls hi ⟨hP, hD, hS, hl⟩ ih
    have hP : va_P D vwCl [(mm, .inr (9, fl 77 (va_up (va_up g 46 (.int 0)) 66 (.int 0)))), (to, .inl (Y 0, 1000, .inl x1))] H := hP
    have hD : va_D A [(mm, .inr (9, fl 77 (va_up (va_up g 46 (.int 0)) 66 (.int 0)))), (to, .inl (Y 0, 1000, .inl x1))] := hD
    refine lv_iload_n hx hb dX10_noTables_12 rfl (lv_at hl 1 rfl) ?_
    refine lv_sipush (v := 1000) hx hb dX10_noTables_13 (by decide) ?_
    refine lv_icmp_ge (tgt := 32) hx hb dX10_noTables_16 (by decide) (fun c9 => absurd c9 (nI_ge (b := 1000) hi (by decide))) (fun _ => ?_)
    refine lv_aload_n hx hb dX10_noTables_19 rfl (lv_at hl 0 rfl) ?_
    refine gF (C := RX10) (T := TX10) (ci := 9) (v := .ref to) F hK hP 0 rfl rfl iwX10 50 (by decide) m_220 (fun _ h => h) g_50 dX10_noTables_20 ?_
    refine lv_iload_n hx hb dX10_noTables_23 rfl (lv_at hl 1 rfl) ?_
    refine lv_iconst (v := 0) hx hb dX10_noTables_24 (by decide) ?_
    refine va_iast hx hb hK.1 hP hD hS 1 0 rfl rfl (vp_in_nI hi (by decide)) dX10_noTables_25 (fun H locs hP hD hS => ?_)
    have hP : va_P D vwCl [(mm, .inr (9, fl 77 (va_up (va_up g 46 (.int 0)) 66 (.int 0)))), (to, .inl (Y 0, 1000, .inl (upd x1 (nI i).toNatClampNeg 0)))] H := hP
    have hD : va_D A [(mm, .inr (9, fl 77 (va_up (va_up g 46 (.int 0)) 66 (.int 0)))), (to, .inl (Y 0, 1000, .inl (upd x1 (nI i).toNatClampNeg 0)))] := hD
    generalize (upd x1 (nI i).toNatClampNeg 0) = f_1 at hP hD
    refine lv_iinc (v := (nI (i + 1))) (lv' := [(1, .int (nI (i + 1))), (0, .ref mm)]) hx hb dX10_noTables_26 hl (k := 1) rfl (nI_1 i) (by decide) rfl (fun ls hl => ?_)
    refine lv_goto (tgt := 12) hx hb dX10_noTables_29 (by decide) ?_
    exact ih f_1 _ _ _ ⟨hP, hD, hS, lv_sub hl [1, 0] rfl⟩
set_option maxRecDepth 100000 in
set_option maxHeartbeats 4000000 in
theorem m_abol (l : Launch) (D : va_G) (Y : Nat → ClassId) (mm : Nat) (to : Nat) (g : Nat → Value) (f : Nat → Int32) (g_4 : g 4 = .int 0) (g_46 : g 46 = .int 0) (g_50 : g 50 = .ref to)  : cM l D Y yX10_abolish cX10_abolish 2 (some .int) 2 0 0 [.ref mm] [(mm, .inr (9, fl 77 g)), (to, .inl (Y 0, 1000, .inl f))] (qI D (fun (r : Int32) (u : Unit) => r = 0) (fun (u : Unit) => [])) := by
  refine cM.mk RX10 rfl (by decide) (Nat.le_of_ble_eq_true rfl) ?_
  intro p e s m below meth c A F hr hlocks hin hK hZ hP hD hA hS ls hl
  have hx := F.1
  have hb := F.2.1
  have hl : lv_has ls 2 [(0, .ref mm)] := hl
  refine lv_aload_n hx hb dX10_abolish_0 rfl (lv_at hl 0 rfl) ?_
  refine lv_iconst (v := 0) hx hb dX10_abolish_1 (by decide) ?_
  refine pF (C := RX10) (T := TX10) (ci := 9) F hK hP hD hS 0 rfl rfl iwX10 tyX10 tyX10_ok nmX10 0 (by decide) m_191 (fun _ h => h) rfl rfl rfl dX10_abolish_2 (fun H locs hP hD hS => ?_)
  have hP : va_P D vwCl [(mm, .inr (9, fl 77 (va_up g 0 (.int 0)))), (to, .inl (Y 0, 1000, .inl f))] H := hP
  have hD : va_D A [(mm, .inr (9, fl 77 (va_up g 0 (.int 0)))), (to, .inl (Y 0, 1000, .inl f))] := hD
  refine lv_aload_n hx hb dX10_abolish_5 rfl (lv_at hl 0 rfl) ?_
  refine gF (C := RX10) (T := TX10) (ci := 9) (v := .int 0) F hK hP 0 rfl rfl iwX10 46 (by decide) m_214 (fun _ h => h) g_46 dX10_abolish_6 ?_
  refine lv_istore_n (lv' := [(1, .int 0), (0, .ref mm)]) hx hb dX10_abolish_9 rfl hl (by decide) rfl (fun ls hl => ?_)
  refine lv_aload_n hx hb dX10_abolish_10 rfl (lv_at hl 1 rfl) ?_
  refine goV (wr := []) (runV (n := 0) (As := []) (rest := []) (C := RX10) (T := TX10) (N := 77) (ci := 9) F hK hZ hP hD hS hA (m_noT l D Y mm to 0 (va_up g 0 (.int 0)) f rfl g_4 g_50 ) 0 rfl rfl [0, 1] rfl rfl m_222 m_223 m_224 m_196 m_221 (by decide +kernel) rfl ⟨Nat.le_of_ble_eq_true rfl, Nat.le_of_ble_eq_true rfl⟩ hl.1 rfl (Nat.le_of_ble_eq_true rfl) dX10_abolish_11 ⟨Nat.le_of_ble_eq_true rfl, Nat.le_of_ble_eq_true rfl⟩) hP hD hS hA [0, 1] [] rfl rfl rfl (by decide) (fun gn_1 H locs hw hP hD hS => ?_)
  obtain ⟨o_2, o_3⟩ := hw
  have hP : va_P D vwCl [(mm, .inr (9, fl 77 gn_1))] H := hP
  have hD : va_D A [(mm, .inr (9, fl 77 gn_1))] := hD
  refine W.widen (k := 0) (n := 0) (Nat.le_of_ble_eq_true rfl) (Nat.le_of_ble_eq_true rfl) ?_
  refine lv_iload_n hx hb dX10_abolish_14 rfl (lv_at hl 0 rfl) ?_
  exact retI F hr hlocks rfl hP hD hS () [] rfl rfl (Nat.le_of_ble_eq_true rfl) (Nat.le_of_ble_eq_true rfl) dX10_abolish_15 rfl
set_option maxRecDepth 100000 in
set_option maxHeartbeats 4000000 in
theorem m_stands (l : Launch) (D : va_G) (Y : Nat → ClassId) (mm : Nat) (ru : Nat) (rr : Nat) (ar : Nat) (ra : Nat) (pn : Nat) (rp : Nat) (cn : Nat) (rc : Nat) (to : Nat) (f_ru : Nat → Int32) (f_rr : Nat → Int32) (f_ar : Nat → Int32) (f_ra : Nat → Int32) (f_pn : Nat → Int64) (f_rp : Nat → Int64) (f_cn : Nat → Int64) (f_rc : Nat → Int64) (f_to : Nat → Int32) (g : Nat → Value) (g_0 : g 0 = .int 0) (g_5 : g 5 = .ref ar) (g_6 : g 6 = .ref ru) (g_7 : g 7 = .ref pn) (g_8 : g 8 = .ref cn) (g_29 : g 29 = .int 0) (g_30 : g 30 = .int 0) (g_31 : g 31 = .int 0) (g_33 : g 33 = .ref ra) (g_34 : g 34 = .ref rr) (g_35 : g 35 = .ref rp) (g_36 : g 36 = .ref rc) (g_50 : g 50 = .ref to)  : cM l D Y yX10_stands cX10_stands 2 none 2 0 0 [.ref mm] [(mm, .inr (9, fl 77 g)), (ru, .inl (Y 0, 1800, .inl f_ru)), (rr, .inl (Y 0, 1800, .inl f_rr)), (ar, .inl (Y 0, 10, .inl f_ar)), (ra, .inl (Y 0, 10, .inl f_ra)), (pn, .inl (Y 1, 10, .inr (.inl f_pn))), (rp, .inl (Y 1, 10, .inr (.inl f_rp))), (cn, .inl (Y 1, 8, .inr (.inl f_cn))), (rc, .inl (Y 1, 8, .inr (.inl f_rc))), (to, .inl (Y 0, 1000, .inl f_to))] (qV D (fun (u : Nat → Value) => u 0 = .int 0 ∧ u 4 = .int 0) (fun (u : Nat → Value) => [(mm, .inr (9, fl 77 u))])) := by
  refine cM.mk RX10 rfl (by decide) (Nat.le_of_ble_eq_true rfl) ?_
  intro p e s m below meth c A F hr hlocks hin hK hZ hP hD hA hS ls hl
  have hx := F.1
  have hb := F.2.1
  have hl : lv_has ls 2 [(0, .ref mm)] := hl
  refine lv_aload_n hx hb dX10_stands_0 rfl (lv_at hl 0 rfl) ?_
  refine lv_aload_n hx hb dX10_stands_1 rfl (lv_at hl 0 rfl) ?_
  refine gF (C := RX10) (T := TX10) (ci := 9) (v := .int 0) F hK hP 0 rfl rfl iwX10 29 (by decide) m_225 (fun _ h => h) g_29 dX10_stands_2 ?_
  refine pF (C := RX10) (T := TX10) (ci := 9) F hK hP hD hS 0 rfl rfl iwX10 tyX10 tyX10_ok nmX10 2 (by decide) m_201 (fun _ h => h) rfl rfl rfl dX10_stands_5 (fun H locs hP hD hS => ?_)
  have hP : va_P D vwCl [(mm, .inr (9, fl 77 (va_up g 2 (.int 0)))), (ru, .inl (Y 0, 1800, .inl f_ru)), (rr, .inl (Y 0, 1800, .inl f_rr)), (ar, .inl (Y 0, 10, .inl f_ar)), (ra, .inl (Y 0, 10, .inl f_ra)), (pn, .inl (Y 1, 10, .inr (.inl f_pn))), (rp, .inl (Y 1, 10, .inr (.inl f_rp))), (cn, .inl (Y 1, 8, .inr (.inl f_cn))), (rc, .inl (Y 1, 8, .inr (.inl f_rc))), (to, .inl (Y 0, 1000, .inl f_to))] H := hP
  have hD : va_D A [(mm, .inr (9, fl 77 (va_up g 2 (.int 0)))), (ru, .inl (Y 0, 1800, .inl f_ru)), (rr, .inl (Y 0, 1800, .inl f_rr)), (ar, .inl (Y 0, 10, .inl f_ar)), (ra, .inl (Y 0, 10, .inl f_ra)), (pn, .inl (Y 1, 10, .inr (.inl f_pn))), (rp, .inl (Y 1, 10, .inr (.inl f_rp))), (cn, .inl (Y 1, 8, .inr (.inl f_cn))), (rc, .inl (Y 1, 8, .inr (.inl f_rc))), (to, .inl (Y 0, 1000, .inl f_to))] := hD
  refine lv_aload_n hx hb dX10_stands_8 rfl (lv_at hl 0 rfl) ?_
  refine lv_aload_n hx hb dX10_stands_9 rfl (lv_at hl 0 rfl) ?_
  refine gF (C := RX10) (T := TX10) (ci := 9) (v := .int 0) F hK hP 0 rfl rfl iwX10 30 (by decide) m_226 (fun _ h => h) g_30 dX10_stands_10 ?_
  refine pF (C := RX10) (T := TX10) (ci := 9) F hK hP hD hS 0 rfl rfl iwX10 tyX10 tyX10_ok nmX10 3 (by decide) m_227 (fun _ h => h) rfl rfl rfl dX10_stands_13 (fun H locs hP hD hS => ?_)
  have hP : va_P D vwCl [(mm, .inr (9, fl 77 (va_up (va_up g 2 (.int 0)) 3 (.int 0)))), (ru, .inl (Y 0, 1800, .inl f_ru)), (rr, .inl (Y 0, 1800, .inl f_rr)), (ar, .inl (Y 0, 10, .inl f_ar)), (ra, .inl (Y 0, 10, .inl f_ra)), (pn, .inl (Y 1, 10, .inr (.inl f_pn))), (rp, .inl (Y 1, 10, .inr (.inl f_rp))), (cn, .inl (Y 1, 8, .inr (.inl f_cn))), (rc, .inl (Y 1, 8, .inr (.inl f_rc))), (to, .inl (Y 0, 1000, .inl f_to))] H := hP
  have hD : va_D A [(mm, .inr (9, fl 77 (va_up (va_up g 2 (.int 0)) 3 (.int 0)))), (ru, .inl (Y 0, 1800, .inl f_ru)), (rr, .inl (Y 0, 1800, .inl f_rr)), (ar, .inl (Y 0, 10, .inl f_ar)), (ra, .inl (Y 0, 10, .inl f_ra)), (pn, .inl (Y 1, 10, .inr (.inl f_pn))), (rp, .inl (Y 1, 10, .inr (.inl f_rp))), (cn, .inl (Y 1, 8, .inr (.inl f_cn))), (rc, .inl (Y 1, 8, .inr (.inl f_rc))), (to, .inl (Y 0, 1000, .inl f_to))] := hD
  refine lv_aload_n hx hb dX10_stands_16 rfl (lv_at hl 0 rfl) ?_
  refine lv_aload_n hx hb dX10_stands_17 rfl (lv_at hl 0 rfl) ?_
  refine gF (C := RX10) (T := TX10) (ci := 9) (v := .int 0) F hK hP 0 rfl rfl iwX10 31 (by decide) m_228 (fun _ h => h) g_31 dX10_stands_18 ?_
  refine pF (C := RX10) (T := TX10) (ci := 9) F hK hP hD hS 0 rfl rfl iwX10 tyX10 tyX10_ok nmX10 4 (by decide) m_213 (fun _ h => h) rfl rfl rfl dX10_stands_21 (fun H locs hP hD hS => ?_)
  have hP : va_P D vwCl [(mm, .inr (9, fl 77 (va_up (va_up (va_up g 2 (.int 0)) 3 (.int 0)) 4 (.int 0)))), (ru, .inl (Y 0, 1800, .inl f_ru)), (rr, .inl (Y 0, 1800, .inl f_rr)), (ar, .inl (Y 0, 10, .inl f_ar)), (ra, .inl (Y 0, 10, .inl f_ra)), (pn, .inl (Y 1, 10, .inr (.inl f_pn))), (rp, .inl (Y 1, 10, .inr (.inl f_rp))), (cn, .inl (Y 1, 8, .inr (.inl f_cn))), (rc, .inl (Y 1, 8, .inr (.inl f_rc))), (to, .inl (Y 0, 1000, .inl f_to))] H := hP
  have hD : va_D A [(mm, .inr (9, fl 77 (va_up (va_up (va_up g 2 (.int 0)) 3 (.int 0)) 4 (.int 0)))), (ru, .inl (Y 0, 1800, .inl f_ru)), (rr, .inl (Y 0, 1800, .inl f_rr)), (ar, .inl (Y 0, 10, .inl f_ar)), (ra, .inl (Y 0, 10, .inl f_ra)), (pn, .inl (Y 1, 10, .inr (.inl f_pn))), (rp, .inl (Y 1, 10, .inr (.inl f_rp))), (cn, .inl (Y 1, 8, .inr (.inl f_cn))), (rc, .inl (Y 1, 8, .inr (.inl f_rc))), (to, .inl (Y 0, 1000, .inl f_to))] := hD
  refine lv_iconst (v := 0) hx hb dX10_stands_24 (by decide) ?_
  refine lv_istore_n (lv' := [(1, .int 0), (0, .ref mm)]) hx hb dX10_stands_25 rfl hl (by decide) rfl (fun ls hl => ?_)
  refine loopN (X := Nat → Int32) 1800 (fun i x H locs ls => va_P D vwCl [(mm, .inr (9, fl 77 (va_up (va_up (va_up g 2 (.int 0)) 3 (.int 0)) 4 (.int 0)))), (ru, .inl (Y 0, 1800, .inl x)), (rr, .inl (Y 0, 1800, .inl f_rr)), (ar, .inl (Y 0, 10, .inl f_ar)), (ra, .inl (Y 0, 10, .inl f_ra)), (pn, .inl (Y 1, 10, .inr (.inl f_pn))), (rp, .inl (Y 1, 10, .inr (.inl f_rp))), (cn, .inl (Y 1, 8, .inr (.inl f_cn))), (rc, .inl (Y 1, 8, .inr (.inl f_rc))), (to, .inl (Y 0, 1000, .inl f_to))] H ∧ va_D A [(mm, .inr (9, fl 77 (va_up (va_up (va_up g 2 (.int 0)) 3 (.int 0)) 4 (.int 0)))), (ru, .inl (Y 0, 1800, .inl x)), (rr, .inl (Y 0, 1800, .inl f_rr)), (ar, .inl (Y 0, 10, .inl f_ar)), (ra, .inl (Y 0, 10, .inl f_ra)), (pn, .inl (Y 1, 10, .inr (.inl f_pn))), (rp, .inl (Y 1, 10, .inr (.inl f_rp))), (cn, .inl (Y 1, 8, .inr (.inl f_cn))), (rc, .inl (Y 1, 8, .inr (.inl f_rc))), (to, .inl (Y 0, 1000, .inl f_to))] ∧ va_S A s.heap H locs ∧ lv_has ls 2 [(0, .ref mm), (1, .int (nI i))]) 26 ?_ ?_ 0 f_ru (by omega) ⟨hP, hD, hS, lv_sub hl [1, 0] rfl⟩
  · rintro x1 H locs ls ⟨hP, hD, hS, hl⟩
    have hP : va_P D vwCl [(mm, .inr (9, fl 77 (va_up (va_up (va_up g 2 (.int 0)) 3 (.int 0)) 4 (.int 0)))), (ru, .inl (Y 0, 1800, .inl x1)), (rr, .inl (Y 0, 1800, .inl f_rr)), (ar, .inl (Y 0, 10, .inl f_ar)), (ra, .inl (Y 0, 10, .inl f_ra)), (pn, .inl (Y 1, 10, .inr (.inl f_pn))), (rp, .inl (Y 1, 10, .inr (.inl f_rp))), (cn, .inl (Y 1, 8, .inr (.inl f_cn))), (rc, .inl (Y 1, 8, .inr (.inl f_rc))), (to, .inl (Y 0, 1000, .inl f_to))] H := hP
    have hD : va_D A [(mm, .inr (9, fl 77 (va_up (va_up (va_up g 2 (.int 0)) 3 (.int 0)) 4 (.int 0)))), (ru, .inl (Y 0, 1800, .inl x1)), (rr, .inl (Y 0, 1800, .inl f_rr)), (ar, .inl (Y 0, 10, .inl f_ar)), (ra, .inl (Y 0, 10, .inl f_ra)), (pn, .inl (Y 1, 10, .inr (.inl f_pn))), (rp, .inl (Y 1, 10, .inr (.inl f_rp))), (cn, .inl (Y 1, 8, .inr (.inl f_cn))), (rc, .inl (Y 1, 8, .inr (.inl f_rc))), (to, .inl (Y 0, 1000, .inl f_to))] := hD
    have hl : lv_has ls 2 [(0, .ref mm), (1, .int 1800)] := hl
    refine lv_iload_n hx hb dX10_stands_26 rfl (lv_at hl 1 rfl) ?_
    refine lv_sipush (v := 1800) hx hb dX10_stands_27 (by decide) ?_
    refine lv_icmp_ge (tgt := 51) hx hb dX10_stands_30 (by decide) (fun _ => ?_) (fun c9 => absurd (by decide) c9)
    refine lv_iconst (v := 0) hx hb dX10_stands_51 (by decide) ?_
    refine lv_istore_n (lv' := [(1, .int 0), (0, .ref mm)]) hx hb dX10_stands_52 rfl hl (by decide) rfl (fun ls hl => ?_)
    refine loopN (X := (Nat → Int32) × (Nat → Int64)) 10 (fun i x H locs ls => va_P D vwCl [(mm, .inr (9, fl 77 (va_up (va_up (va_up g 2 (.int 0)) 3 (.int 0)) 4 (.int 0)))), (ru, .inl (Y 0, 1800, .inl x1)), (rr, .inl (Y 0, 1800, .inl f_rr)), (ar, .inl (Y 0, 10, .inl x.1)), (ra, .inl (Y 0, 10, .inl f_ra)), (pn, .inl (Y 1, 10, .inr (.inl x.2))), (rp, .inl (Y 1, 10, .inr (.inl f_rp))), (cn, .inl (Y 1, 8, .inr (.inl f_cn))), (rc, .inl (Y 1, 8, .inr (.inl f_rc))), (to, .inl (Y 0, 1000, .inl f_to))] H ∧ va_D A [(mm, .inr (9, fl 77 (va_up (va_up (va_up g 2 (.int 0)) 3 (.int 0)) 4 (.int 0)))), (ru, .inl (Y 0, 1800, .inl x1)), (rr, .inl (Y 0, 1800, .inl f_rr)), (ar, .inl (Y 0, 10, .inl x.1)), (ra, .inl (Y 0, 10, .inl f_ra)), (pn, .inl (Y 1, 10, .inr (.inl x.2))), (rp, .inl (Y 1, 10, .inr (.inl f_rp))), (cn, .inl (Y 1, 8, .inr (.inl f_cn))), (rc, .inl (Y 1, 8, .inr (.inl f_rc))), (to, .inl (Y 0, 1000, .inl f_to))] ∧ va_S A s.heap H locs ∧ lv_has ls 2 [(0, .ref mm), (1, .int (nI i))]) 53 ?_ ?_ 0 (f_ar, f_pn) (by omega) ⟨hP, hD, hS, lv_sub hl [1, 0] rfl⟩
    · rintro ⟨x2, x3⟩ H locs ls ⟨hP, hD, hS, hl⟩
      have hP : va_P D vwCl [(mm, .inr (9, fl 77 (va_up (va_up (va_up g 2 (.int 0)) 3 (.int 0)) 4 (.int 0)))), (ru, .inl (Y 0, 1800, .inl x1)), (rr, .inl (Y 0, 1800, .inl f_rr)), (ar, .inl (Y 0, 10, .inl x2)), (ra, .inl (Y 0, 10, .inl f_ra)), (pn, .inl (Y 1, 10, .inr (.inl x3))), (rp, .inl (Y 1, 10, .inr (.inl f_rp))), (cn, .inl (Y 1, 8, .inr (.inl f_cn))), (rc, .inl (Y 1, 8, .inr (.inl f_rc))), (to, .inl (Y 0, 1000, .inl f_to))] H := hP
      have hD : va_D A [(mm, .inr (9, fl 77 (va_up (va_up (va_up g 2 (.int 0)) 3 (.int 0)) 4 (.int 0)))), (ru, .inl (Y 0, 1800, .inl x1)), (rr, .inl (Y 0, 1800, .inl f_rr)), (ar, .inl (Y 0, 10, .inl x2)), (ra, .inl (Y 0, 10, .inl f_ra)), (pn, .inl (Y 1, 10, .inr (.inl x3))), (rp, .inl (Y 1, 10, .inr (.inl f_rp))), (cn, .inl (Y 1, 8, .inr (.inl f_cn))), (rc, .inl (Y 1, 8, .inr (.inl f_rc))), (to, .inl (Y 0, 1000, .inl f_to))] := hD
      have hl : lv_has ls 2 [(0, .ref mm), (1, .int 10)] := hl
      refine lv_iload_n hx hb dX10_stands_53 rfl (lv_at hl 1 rfl) ?_
      refine lv_bipush (v := 10) hx hb dX10_stands_54 (by decide) ?_
      refine lv_icmp_ge (tgt := 89) hx hb dX10_stands_56 (by decide) (fun _ => ?_) (fun c9 => absurd (by decide) c9)
      refine lv_iconst (v := 0) hx hb dX10_stands_89 (by decide) ?_
      refine lv_istore_n (lv' := [(1, .int 0), (0, .ref mm)]) hx hb dX10_stands_90 rfl hl (by decide) rfl (fun ls hl => ?_)
      refine loopN (X := Nat → Int64) 8 (fun i x H locs ls => va_P D vwCl [(mm, .inr (9, fl 77 (va_up (va_up (va_up g 2 (.int 0)) 3 (.int 0)) 4 (.int 0)))), (ru, .inl (Y 0, 1800, .inl x1)), (rr, .inl (Y 0, 1800, .inl f_rr)), (ar, .inl (Y 0, 10, .inl x2)), (ra, .inl (Y 0, 10, .inl f_ra)), (pn, .inl (Y 1, 10, .inr (.inl x3))), (rp, .inl (Y 1, 10, .inr (.inl f_rp))), (cn, .inl (Y 1, 8, .inr (.inl x))), (rc, .inl (Y 1, 8, .inr (.inl f_rc))), (to, .inl (Y 0, 1000, .inl f_to))] H ∧ va_D A [(mm, .inr (9, fl 77 (va_up (va_up (va_up g 2 (.int 0)) 3 (.int 0)) 4 (.int 0)))), (ru, .inl (Y 0, 1800, .inl x1)), (rr, .inl (Y 0, 1800, .inl f_rr)), (ar, .inl (Y 0, 10, .inl x2)), (ra, .inl (Y 0, 10, .inl f_ra)), (pn, .inl (Y 1, 10, .inr (.inl x3))), (rp, .inl (Y 1, 10, .inr (.inl f_rp))), (cn, .inl (Y 1, 8, .inr (.inl x))), (rc, .inl (Y 1, 8, .inr (.inl f_rc))), (to, .inl (Y 0, 1000, .inl f_to))] ∧ va_S A s.heap H locs ∧ lv_has ls 2 [(0, .ref mm), (1, .int (nI i))]) 91 ?_ ?_ 0 f_cn (by omega) ⟨hP, hD, hS, lv_sub hl [1, 0] rfl⟩
      · rintro x4 H locs ls ⟨hP, hD, hS, hl⟩
        have hP : va_P D vwCl [(mm, .inr (9, fl 77 (va_up (va_up (va_up g 2 (.int 0)) 3 (.int 0)) 4 (.int 0)))), (ru, .inl (Y 0, 1800, .inl x1)), (rr, .inl (Y 0, 1800, .inl f_rr)), (ar, .inl (Y 0, 10, .inl x2)), (ra, .inl (Y 0, 10, .inl f_ra)), (pn, .inl (Y 1, 10, .inr (.inl x3))), (rp, .inl (Y 1, 10, .inr (.inl f_rp))), (cn, .inl (Y 1, 8, .inr (.inl x4))), (rc, .inl (Y 1, 8, .inr (.inl f_rc))), (to, .inl (Y 0, 1000, .inl f_to))] H := hP
        have hD : va_D A [(mm, .inr (9, fl 77 (va_up (va_up (va_up g 2 (.int 0)) 3 (.int 0)) 4 (.int 0)))), (ru, .inl (Y 0, 1800, .inl x1)), (rr, .inl (Y 0, 1800, .inl f_rr)), (ar, .inl (Y 0, 10, .inl x2)), (ra, .inl (Y 0, 10, .inl f_ra)), (pn, .inl (Y 1, 10, .inr (.inl x3))), (rp, .inl (Y 1, 10, .inr (.inl f_rp))), (cn, .inl (Y 1, 8, .inr (.inl x4))), (rc, .inl (Y 1, 8, .inr (.inl f_rc))), (to, .inl (Y 0, 1000, .inl f_to))] := hD
        have hl : lv_has ls 2 [(0, .ref mm), (1, .int 8)] := hl
        refine lv_iload_n hx hb dX10_stands_91 rfl (lv_at hl 1 rfl) ?_
        refine lv_bipush (v := 8) hx hb dX10_stands_92 (by decide) ?_
        refine lv_icmp_ge (tgt := 115) hx hb dX10_stands_94 (by decide) (fun _ => ?_) (fun c9 => absurd (by decide) c9)
        refine lv_aload_n hx hb dX10_stands_115 rfl (lv_at hl 0 rfl) ?_
        refine lv_iconst (v := 0) hx hb dX10_stands_116 (by decide) ?_
        refine pF (C := RX10) (T := TX10) (ci := 9) F hK hP hD hS 0 rfl rfl iwX10 tyX10 tyX10_ok nmX10 16 (by decide) m_229 (fun _ h => h) rfl rfl rfl dX10_stands_117 (fun H locs hP hD hS => ?_)
        have hP : va_P D vwCl [(mm, .inr (9, fl 77 (va_up (va_up (va_up (va_up g 2 (.int 0)) 3 (.int 0)) 4 (.int 0)) 16 (.int 0)))), (ru, .inl (Y 0, 1800, .inl x1)), (rr, .inl (Y 0, 1800, .inl f_rr)), (ar, .inl (Y 0, 10, .inl x2)), (ra, .inl (Y 0, 10, .inl f_ra)), (pn, .inl (Y 1, 10, .inr (.inl x3))), (rp, .inl (Y 1, 10, .inr (.inl f_rp))), (cn, .inl (Y 1, 8, .inr (.inl x4))), (rc, .inl (Y 1, 8, .inr (.inl f_rc))), (to, .inl (Y 0, 1000, .inl f_to))] H := hP
        have hD : va_D A [(mm, .inr (9, fl 77 (va_up (va_up (va_up (va_up g 2 (.int 0)) 3 (.int 0)) 4 (.int 0)) 16 (.int 0)))), (ru, .inl (Y 0, 1800, .inl x1)), (rr, .inl (Y 0, 1800, .inl f_rr)), (ar, .inl (Y 0, 10, .inl x2)), (ra, .inl (Y 0, 10, .inl f_ra)), (pn, .inl (Y 1, 10, .inr (.inl x3))), (rp, .inl (Y 1, 10, .inr (.inl f_rp))), (cn, .inl (Y 1, 8, .inr (.inl x4))), (rc, .inl (Y 1, 8, .inr (.inl f_rc))), (to, .inl (Y 0, 1000, .inl f_to))] := hD
        refine lv_aload_n hx hb dX10_stands_120 rfl (lv_at hl 0 rfl) ?_
        refine lv_iconst (v := 0) hx hb dX10_stands_121 (by decide) ?_
        refine pF (C := RX10) (T := TX10) (ci := 9) F hK hP hD hS 0 rfl rfl iwX10 tyX10 tyX10_ok nmX10 47 (by decide) m_230 (fun _ h => h) rfl rfl rfl dX10_stands_122 (fun H locs hP hD hS => ?_)
        have hP : va_P D vwCl [(mm, .inr (9, fl 77 (va_up (va_up (va_up (va_up (va_up g 2 (.int 0)) 3 (.int 0)) 4 (.int 0)) 16 (.int 0)) 47 (.int 0)))), (ru, .inl (Y 0, 1800, .inl x1)), (rr, .inl (Y 0, 1800, .inl f_rr)), (ar, .inl (Y 0, 10, .inl x2)), (ra, .inl (Y 0, 10, .inl f_ra)), (pn, .inl (Y 1, 10, .inr (.inl x3))), (rp, .inl (Y 1, 10, .inr (.inl f_rp))), (cn, .inl (Y 1, 8, .inr (.inl x4))), (rc, .inl (Y 1, 8, .inr (.inl f_rc))), (to, .inl (Y 0, 1000, .inl f_to))] H := hP
        have hD : va_D A [(mm, .inr (9, fl 77 (va_up (va_up (va_up (va_up (va_up g 2 (.int 0)) 3 (.int 0)) 4 (.int 0)) 16 (.int 0)) 47 (.int 0)))), (ru, .inl (Y 0, 1800, .inl x1)), (rr, .inl (Y 0, 1800, .inl f_rr)), (ar, .inl (Y 0, 10, .inl x2)), (ra, .inl (Y 0, 10, .inl f_ra)), (pn, .inl (Y 1, 10, .inr (.inl x3))), (rp, .inl (Y 1, 10, .inr (.inl f_rp))), (cn, .inl (Y 1, 8, .inr (.inl x4))), (rc, .inl (Y 1, 8, .inr (.inl f_rc))), (to, .inl (Y 0, 1000, .inl f_to))] := hD
        refine lv_aload_n hx hb dX10_stands_125 rfl (lv_at hl 0 rfl) ?_
        refine lv_iconst (v := 0) hx hb dX10_stands_126 (by decide) ?_
        refine pF (C := RX10) (T := TX10) (ci := 9) F hK hP hD hS 0 rfl rfl iwX10 tyX10 tyX10_ok nmX10 48 (by decide) m_231 (fun _ h => h) rfl rfl rfl dX10_stands_127 (fun H locs hP hD hS => ?_)
        have hP : va_P D vwCl [(mm, .inr (9, fl 77 (va_up (va_up (va_up (va_up (va_up (va_up g 2 (.int 0)) 3 (.int 0)) 4 (.int 0)) 16 (.int 0)) 47 (.int 0)) 48 (.int 0)))), (ru, .inl (Y 0, 1800, .inl x1)), (rr, .inl (Y 0, 1800, .inl f_rr)), (ar, .inl (Y 0, 10, .inl x2)), (ra, .inl (Y 0, 10, .inl f_ra)), (pn, .inl (Y 1, 10, .inr (.inl x3))), (rp, .inl (Y 1, 10, .inr (.inl f_rp))), (cn, .inl (Y 1, 8, .inr (.inl x4))), (rc, .inl (Y 1, 8, .inr (.inl f_rc))), (to, .inl (Y 0, 1000, .inl f_to))] H := hP
        have hD : va_D A [(mm, .inr (9, fl 77 (va_up (va_up (va_up (va_up (va_up (va_up g 2 (.int 0)) 3 (.int 0)) 4 (.int 0)) 16 (.int 0)) 47 (.int 0)) 48 (.int 0)))), (ru, .inl (Y 0, 1800, .inl x1)), (rr, .inl (Y 0, 1800, .inl f_rr)), (ar, .inl (Y 0, 10, .inl x2)), (ra, .inl (Y 0, 10, .inl f_ra)), (pn, .inl (Y 1, 10, .inr (.inl x3))), (rp, .inl (Y 1, 10, .inr (.inl f_rp))), (cn, .inl (Y 1, 8, .inr (.inl x4))), (rc, .inl (Y 1, 8, .inr (.inl f_rc))), (to, .inl (Y 0, 1000, .inl f_to))] := hD
        refine lv_aload_n hx hb dX10_stands_130 rfl (lv_at hl 0 rfl) ?_
        refine goV (wr := [(ru, .inl (Y 0, 1800, .inl x1)), (rr, .inl (Y 0, 1800, .inl f_rr)), (ar, .inl (Y 0, 10, .inl x2)), (ra, .inl (Y 0, 10, .inl f_ra)), (pn, .inl (Y 1, 10, .inr (.inl x3))), (rp, .inl (Y 1, 10, .inr (.inl f_rp))), (cn, .inl (Y 1, 8, .inr (.inl x4))), (rc, .inl (Y 1, 8, .inr (.inl f_rc)))]) (runV (n := 0) (As := []) (rest := []) (C := RX10) (T := TX10) (N := 77) (ci := 9) F hK hZ hP hD hS hA (m_noT l D Y mm to 0 (va_up (va_up (va_up (va_up (va_up (va_up g 2 (.int 0)) 3 (.int 0)) 4 (.int 0)) 16 (.int 0)) 47 (.int 0)) 48 (.int 0)) f_to g_0 rfl g_50 ) 0 rfl rfl [0, 9] rfl rfl m_222 m_223 m_224 m_196 m_221 (by decide +kernel) rfl ⟨Nat.le_of_ble_eq_true rfl, Nat.le_of_ble_eq_true rfl⟩ hl.1 rfl (Nat.le_of_ble_eq_true rfl) dX10_stands_131 ⟨Nat.le_of_ble_eq_true rfl, Nat.le_of_ble_eq_true rfl⟩) hP hD hS hA [0, 9] [1, 2, 3, 4, 5, 6, 7, 8] rfl rfl rfl (by decide) (fun gn_1 H locs hw hP hD hS => ?_)
        obtain ⟨o_2, o_3⟩ := hw
        have hP : va_P D vwCl [(ru, .inl (Y 0, 1800, .inl x1)), (rr, .inl (Y 0, 1800, .inl f_rr)), (ar, .inl (Y 0, 10, .inl x2)), (ra, .inl (Y 0, 10, .inl f_ra)), (pn, .inl (Y 1, 10, .inr (.inl x3))), (rp, .inl (Y 1, 10, .inr (.inl f_rp))), (cn, .inl (Y 1, 8, .inr (.inl x4))), (rc, .inl (Y 1, 8, .inr (.inl f_rc))), (mm, .inr (9, fl 77 gn_1))] H := hP
        have hD : va_D A [(ru, .inl (Y 0, 1800, .inl x1)), (rr, .inl (Y 0, 1800, .inl f_rr)), (ar, .inl (Y 0, 10, .inl x2)), (ra, .inl (Y 0, 10, .inl f_ra)), (pn, .inl (Y 1, 10, .inr (.inl x3))), (rp, .inl (Y 1, 10, .inr (.inl f_rp))), (cn, .inl (Y 1, 8, .inr (.inl x4))), (rc, .inl (Y 1, 8, .inr (.inl f_rc))), (mm, .inr (9, fl 77 gn_1))] := hD
        refine W.widen (k := 0) (n := 0) (Nat.le_of_ble_eq_true rfl) (Nat.le_of_ble_eq_true rfl) ?_
        exact retV F hr hlocks hP hD hS gn_1 [8] rfl rfl (Nat.le_of_ble_eq_true rfl) (Nat.le_of_ble_eq_true rfl) dX10_stands_134 ⟨o_2, o_3⟩
      · rintro i x4 H locs ls hi ⟨hP, hD, hS, hl⟩ ih
        have hP : va_P D vwCl [(mm, .inr (9, fl 77 (va_up (va_up (va_up g 2 (.int 0)) 3 (.int 0)) 4 (.int 0)))), (ru, .inl (Y 0, 1800, .inl x1)), (rr, .inl (Y 0, 1800, .inl f_rr)), (ar, .inl (Y 0, 10, .inl x2)), (ra, .inl (Y 0, 10, .inl f_ra)), (pn, .inl (Y 1, 10, .inr (.inl x3))), (rp, .inl (Y 1, 10, .inr (.inl f_rp))), (cn, .inl (Y 1, 8, .inr (.inl x4))), (rc, .inl (Y 1, 8, .inr (.inl f_rc))), (to, .inl (Y 0, 1000, .inl f_to))] H := hP
        have hD : va_D A [(mm, .inr (9, fl 77 (va_up (va_up (va_up g 2 (.int 0)) 3 (.int 0)) 4 (.int 0)))), (ru, .inl (Y 0, 1800, .inl x1)), (rr, .inl (Y 0, 1800, .inl f_rr)), (ar, .inl (Y 0, 10, .inl x2)), (ra, .inl (Y 0, 10, .inl f_ra)), (pn, .inl (Y 1, 10, .inr (.inl x3))), (rp, .inl (Y 1, 10, .inr (.inl f_rp))), (cn, .inl (Y 1, 8, .inr (.inl x4))), (rc, .inl (Y 1, 8, .inr (.inl f_rc))), (to, .inl (Y 0, 1000, .inl f_to))] := hD
        refine lv_iload_n hx hb dX10_stands_91 rfl (lv_at hl 1 rfl) ?_
        refine lv_bipush (v := 8) hx hb dX10_stands_92 (by decide) ?_
        refine lv_icmp_ge (tgt := 115) hx hb dX10_stands_94 (by decide) (fun c9 => absurd c9 (nI_ge (b := 8) hi (by decide))) (fun _ => ?_)
        refine lv_aload_n hx hb dX10_stands_97 rfl (lv_at hl 0 rfl) ?_
        refine gF (C := RX10) (T := TX10) (ci := 9) (v := .ref cn) F hK hP 0 rfl rfl iwX10 8 (by decide) m_232 (fun _ h => h) g_8 dX10_stands_98 ?_
        refine lv_iload_n hx hb dX10_stands_101 rfl (lv_at hl 1 rfl) ?_
        refine lv_aload_n hx hb dX10_stands_102 rfl (lv_at hl 0 rfl) ?_
        refine gF (C := RX10) (T := TX10) (ci := 9) (v := .ref rc) F hK hP 0 rfl rfl iwX10 36 (by decide) m_233 (fun _ h => h) g_36 dX10_stands_103 ?_
        refine lv_iload_n hx hb dX10_stands_106 rfl (lv_at hl 1 rfl) ?_
        refine va_lald hx hb hK.1 hP 8 1 rfl rfl (vp_in_nI hi (by decide)) dX10_stands_107 ?_
        refine lv_topl (fun z_5 e_z_5 => ?_)
        refine va_last hx hb hK.1 hP hD hS 7 1 rfl rfl (vp_in_nI hi (by decide)) dX10_stands_108 (fun H locs hP hD hS => ?_)
        have hP : va_P D vwCl [(mm, .inr (9, fl 77 (va_up (va_up (va_up g 2 (.int 0)) 3 (.int 0)) 4 (.int 0)))), (ru, .inl (Y 0, 1800, .inl x1)), (rr, .inl (Y 0, 1800, .inl f_rr)), (ar, .inl (Y 0, 10, .inl x2)), (ra, .inl (Y 0, 10, .inl f_ra)), (pn, .inl (Y 1, 10, .inr (.inl x3))), (rp, .inl (Y 1, 10, .inr (.inl f_rp))), (cn, .inl (Y 1, 8, .inr (.inl (vp_updL x4 (nI i).toNatClampNeg z_5)))), (rc, .inl (Y 1, 8, .inr (.inl f_rc))), (to, .inl (Y 0, 1000, .inl f_to))] H := hP
        have hD : va_D A [(mm, .inr (9, fl 77 (va_up (va_up (va_up g 2 (.int 0)) 3 (.int 0)) 4 (.int 0)))), (ru, .inl (Y 0, 1800, .inl x1)), (rr, .inl (Y 0, 1800, .inl f_rr)), (ar, .inl (Y 0, 10, .inl x2)), (ra, .inl (Y 0, 10, .inl f_ra)), (pn, .inl (Y 1, 10, .inr (.inl x3))), (rp, .inl (Y 1, 10, .inr (.inl f_rp))), (cn, .inl (Y 1, 8, .inr (.inl (vp_updL x4 (nI i).toNatClampNeg z_5)))), (rc, .inl (Y 1, 8, .inr (.inl f_rc))), (to, .inl (Y 0, 1000, .inl f_to))] := hD
        generalize (vp_updL x4 (nI i).toNatClampNeg z_5) = f_6 at hP hD
        refine lv_iinc (v := (nI (i + 1))) (lv' := [(1, .int (nI (i + 1))), (0, .ref mm)]) hx hb dX10_stands_109 hl (k := 1) rfl (nI_1 i) (by decide) rfl (fun ls hl => ?_)
        refine lv_goto (tgt := 91) hx hb dX10_stands_112 (by decide) ?_
        exact ih f_6 _ _ _ ⟨hP, hD, hS, lv_sub hl [1, 0] rfl⟩
    · rintro i ⟨x2, x3⟩ H locs ls hi ⟨hP, hD, hS, hl⟩ ih
      have hP : va_P D vwCl [(mm, .inr (9, fl 77 (va_up (va_up (va_up g 2 (.int 0)) 3 (.int 0)) 4 (.int 0)))), (ru, .inl (Y 0, 1800, .inl x1)), (rr, .inl (Y 0, 1800, .inl f_rr)), (ar, .inl (Y 0, 10, .inl x2)), (ra, .inl (Y 0, 10, .inl f_ra)), (pn, .inl (Y 1, 10, .inr (.inl x3))), (rp, .inl (Y 1, 10, .inr (.inl f_rp))), (cn, .inl (Y 1, 8, .inr (.inl f_cn))), (rc, .inl (Y 1, 8, .inr (.inl f_rc))), (to, .inl (Y 0, 1000, .inl f_to))] H := hP
      have hD : va_D A [(mm, .inr (9, fl 77 (va_up (va_up (va_up g 2 (.int 0)) 3 (.int 0)) 4 (.int 0)))), (ru, .inl (Y 0, 1800, .inl x1)), (rr, .inl (Y 0, 1800, .inl f_rr)), (ar, .inl (Y 0, 10, .inl x2)), (ra, .inl (Y 0, 10, .inl f_ra)), (pn, .inl (Y 1, 10, .inr (.inl x3))), (rp, .inl (Y 1, 10, .inr (.inl f_rp))), (cn, .inl (Y 1, 8, .inr (.inl f_cn))), (rc, .inl (Y 1, 8, .inr (.inl f_rc))), (to, .inl (Y 0, 1000, .inl f_to))] := hD
      refine lv_iload_n hx hb dX10_stands_53 rfl (lv_at hl 1 rfl) ?_
      refine lv_bipush (v := 10) hx hb dX10_stands_54 (by decide) ?_
      refine lv_icmp_ge (tgt := 89) hx hb dX10_stands_56 (by decide) (fun c9 => absurd c9 (nI_ge (b := 10) hi (by decide))) (fun _ => ?_)
      refine lv_aload_n hx hb dX10_stands_59 rfl (lv_at hl 0 rfl) ?_
      refine gF (C := RX10) (T := TX10) (ci := 9) (v := .ref ar) F hK hP 0 rfl rfl iwX10 5 (by decide) m_234 (fun _ h => h) g_5 dX10_stands_60 ?_
      refine lv_iload_n hx hb dX10_stands_63 rfl (lv_at hl 1 rfl) ?_
      refine lv_aload_n hx hb dX10_stands_64 rfl (lv_at hl 0 rfl) ?_
      refine gF (C := RX10) (T := TX10) (ci := 9) (v := .ref ra) F hK hP 0 rfl rfl iwX10 33 (by decide) m_235 (fun _ h => h) g_33 dX10_stands_65 ?_
      refine lv_iload_n hx hb dX10_stands_68 rfl (lv_at hl 1 rfl) ?_
      refine va_iald hx hb hK.1 hP 4 0 rfl rfl (vp_in_nI hi (by decide)) dX10_stands_69 ?_
      refine lv_topi (fun z_7 e_z_7 => ?_)
      refine va_iast hx hb hK.1 hP hD hS 3 0 rfl rfl (vp_in_nI hi (by decide)) dX10_stands_70 (fun H locs hP hD hS => ?_)
      have hP : va_P D vwCl [(mm, .inr (9, fl 77 (va_up (va_up (va_up g 2 (.int 0)) 3 (.int 0)) 4 (.int 0)))), (ru, .inl (Y 0, 1800, .inl x1)), (rr, .inl (Y 0, 1800, .inl f_rr)), (ar, .inl (Y 0, 10, .inl (upd x2 (nI i).toNatClampNeg z_7))), (ra, .inl (Y 0, 10, .inl f_ra)), (pn, .inl (Y 1, 10, .inr (.inl x3))), (rp, .inl (Y 1, 10, .inr (.inl f_rp))), (cn, .inl (Y 1, 8, .inr (.inl f_cn))), (rc, .inl (Y 1, 8, .inr (.inl f_rc))), (to, .inl (Y 0, 1000, .inl f_to))] H := hP
      have hD : va_D A [(mm, .inr (9, fl 77 (va_up (va_up (va_up g 2 (.int 0)) 3 (.int 0)) 4 (.int 0)))), (ru, .inl (Y 0, 1800, .inl x1)), (rr, .inl (Y 0, 1800, .inl f_rr)), (ar, .inl (Y 0, 10, .inl (upd x2 (nI i).toNatClampNeg z_7))), (ra, .inl (Y 0, 10, .inl f_ra)), (pn, .inl (Y 1, 10, .inr (.inl x3))), (rp, .inl (Y 1, 10, .inr (.inl f_rp))), (cn, .inl (Y 1, 8, .inr (.inl f_cn))), (rc, .inl (Y 1, 8, .inr (.inl f_rc))), (to, .inl (Y 0, 1000, .inl f_to))] := hD
      generalize (upd x2 (nI i).toNatClampNeg z_7) = f_8 at hP hD
      refine lv_aload_n hx hb dX10_stands_71 rfl (lv_at hl 0 rfl) ?_
      refine gF (C := RX10) (T := TX10) (ci := 9) (v := .ref pn) F hK hP 0 rfl rfl iwX10 7 (by decide) m_236 (fun _ h => h) g_7 dX10_stands_72 ?_
      refine lv_iload_n hx hb dX10_stands_75 rfl (lv_at hl 1 rfl) ?_
      refine lv_aload_n hx hb dX10_stands_76 rfl (lv_at hl 0 rfl) ?_
      refine gF (C := RX10) (T := TX10) (ci := 9) (v := .ref rp) F hK hP 0 rfl rfl iwX10 35 (by decide) m_237 (fun _ h => h) g_35 dX10_stands_77 ?_
      refine lv_iload_n hx hb dX10_stands_80 rfl (lv_at hl 1 rfl) ?_
      refine va_lald hx hb hK.1 hP 6 1 rfl rfl (vp_in_nI hi (by decide)) dX10_stands_81 ?_
      refine lv_topl (fun z_9 e_z_9 => ?_)
      refine va_last hx hb hK.1 hP hD hS 5 1 rfl rfl (vp_in_nI hi (by decide)) dX10_stands_82 (fun H locs hP hD hS => ?_)
      have hP : va_P D vwCl [(mm, .inr (9, fl 77 (va_up (va_up (va_up g 2 (.int 0)) 3 (.int 0)) 4 (.int 0)))), (ru, .inl (Y 0, 1800, .inl x1)), (rr, .inl (Y 0, 1800, .inl f_rr)), (ar, .inl (Y 0, 10, .inl f_8)), (ra, .inl (Y 0, 10, .inl f_ra)), (pn, .inl (Y 1, 10, .inr (.inl (vp_updL x3 (nI i).toNatClampNeg z_9)))), (rp, .inl (Y 1, 10, .inr (.inl f_rp))), (cn, .inl (Y 1, 8, .inr (.inl f_cn))), (rc, .inl (Y 1, 8, .inr (.inl f_rc))), (to, .inl (Y 0, 1000, .inl f_to))] H := hP
      have hD : va_D A [(mm, .inr (9, fl 77 (va_up (va_up (va_up g 2 (.int 0)) 3 (.int 0)) 4 (.int 0)))), (ru, .inl (Y 0, 1800, .inl x1)), (rr, .inl (Y 0, 1800, .inl f_rr)), (ar, .inl (Y 0, 10, .inl f_8)), (ra, .inl (Y 0, 10, .inl f_ra)), (pn, .inl (Y 1, 10, .inr (.inl (vp_updL x3 (nI i).toNatClampNeg z_9)))), (rp, .inl (Y 1, 10, .inr (.inl f_rp))), (cn, .inl (Y 1, 8, .inr (.inl f_cn))), (rc, .inl (Y 1, 8, .inr (.inl f_rc))), (to, .inl (Y 0, 1000, .inl f_to))] := hD
      generalize (vp_updL x3 (nI i).toNatClampNeg z_9) = f_10 at hP hD
      refine lv_iinc (v := (nI (i + 1))) (lv' := [(1, .int (nI (i + 1))), (0, .ref mm)]) hx hb dX10_stands_83 hl (k := 1) rfl (nI_1 i) (by decide) rfl (fun ls hl => ?_)
      refine lv_goto (tgt := 53) hx hb dX10_stands_86 (by decide) ?_
      exact ih (f_8, f_10) _ _ _ ⟨hP, hD, hS, lv_sub hl [1, 0] rfl⟩
  · rintro i x1 H locs ls hi ⟨hP, hD, hS, hl⟩ ih
    have hP : va_P D vwCl [(mm, .inr (9, fl 77 (va_up (va_up (va_up g 2 (.int 0)) 3 (.int 0)) 4 (.int 0)))), (ru, .inl (Y 0, 1800, .inl x1)), (rr, .inl (Y 0, 1800, .inl f_rr)), (ar, .inl (Y 0, 10, .inl f_ar)), (ra, .inl (Y 0, 10, .inl f_ra)), (pn, .inl (Y 1, 10, .inr (.inl f_pn))), (rp, .inl (Y 1, 10, .inr (.inl f_rp))), (cn, .inl (Y 1, 8, .inr (.inl f_cn))), (rc, .inl (Y 1, 8, .inr (.inl f_rc))), (to, .inl (Y 0, 1000, .inl f_to))] H := hP
    have hD : va_D A [(mm, .inr (9, fl 77 (va_up (va_up (va_up g 2 (.int 0)) 3 (.int 0)) 4 (.int 0)))), (ru, .inl (Y 0, 1800, .inl x1)), (rr, .inl (Y 0, 1800, .inl f_rr)), (ar, .inl (Y 0, 10, .inl f_ar)), (ra, .inl (Y 0, 10, .inl f_ra)), (pn, .inl (Y 1, 10, .inr (.inl f_pn))), (rp, .inl (Y 1, 10, .inr (.inl f_rp))), (cn, .inl (Y 1, 8, .inr (.inl f_cn))), (rc, .inl (Y 1, 8, .inr (.inl f_rc))), (to, .inl (Y 0, 1000, .inl f_to))] := hD
    refine lv_iload_n hx hb dX10_stands_26 rfl (lv_at hl 1 rfl) ?_
    refine lv_sipush (v := 1800) hx hb dX10_stands_27 (by decide) ?_
    refine lv_icmp_ge (tgt := 51) hx hb dX10_stands_30 (by decide) (fun c9 => absurd c9 (nI_ge (b := 1800) hi (by decide))) (fun _ => ?_)
    refine lv_aload_n hx hb dX10_stands_33 rfl (lv_at hl 0 rfl) ?_
    refine gF (C := RX10) (T := TX10) (ci := 9) (v := .ref ru) F hK hP 0 rfl rfl iwX10 6 (by decide) m_238 (fun _ h => h) g_6 dX10_stands_34 ?_
    refine lv_iload_n hx hb dX10_stands_37 rfl (lv_at hl 1 rfl) ?_
    refine lv_aload_n hx hb dX10_stands_38 rfl (lv_at hl 0 rfl) ?_
    refine gF (C := RX10) (T := TX10) (ci := 9) (v := .ref rr) F hK hP 0 rfl rfl iwX10 34 (by decide) m_239 (fun _ h => h) g_34 dX10_stands_39 ?_
    refine lv_iload_n hx hb dX10_stands_42 rfl (lv_at hl 1 rfl) ?_
    refine va_iald hx hb hK.1 hP 2 0 rfl rfl (vp_in_nI hi (by decide)) dX10_stands_43 ?_
    refine lv_topi (fun z_11 e_z_11 => ?_)
    refine va_iast hx hb hK.1 hP hD hS 1 0 rfl rfl (vp_in_nI hi (by decide)) dX10_stands_44 (fun H locs hP hD hS => ?_)
    have hP : va_P D vwCl [(mm, .inr (9, fl 77 (va_up (va_up (va_up g 2 (.int 0)) 3 (.int 0)) 4 (.int 0)))), (ru, .inl (Y 0, 1800, .inl (upd x1 (nI i).toNatClampNeg z_11))), (rr, .inl (Y 0, 1800, .inl f_rr)), (ar, .inl (Y 0, 10, .inl f_ar)), (ra, .inl (Y 0, 10, .inl f_ra)), (pn, .inl (Y 1, 10, .inr (.inl f_pn))), (rp, .inl (Y 1, 10, .inr (.inl f_rp))), (cn, .inl (Y 1, 8, .inr (.inl f_cn))), (rc, .inl (Y 1, 8, .inr (.inl f_rc))), (to, .inl (Y 0, 1000, .inl f_to))] H := hP
    have hD : va_D A [(mm, .inr (9, fl 77 (va_up (va_up (va_up g 2 (.int 0)) 3 (.int 0)) 4 (.int 0)))), (ru, .inl (Y 0, 1800, .inl (upd x1 (nI i).toNatClampNeg z_11))), (rr, .inl (Y 0, 1800, .inl f_rr)), (ar, .inl (Y 0, 10, .inl f_ar)), (ra, .inl (Y 0, 10, .inl f_ra)), (pn, .inl (Y 1, 10, .inr (.inl f_pn))), (rp, .inl (Y 1, 10, .inr (.inl f_rp))), (cn, .inl (Y 1, 8, .inr (.inl f_cn))), (rc, .inl (Y 1, 8, .inr (.inl f_rc))), (to, .inl (Y 0, 1000, .inl f_to))] := hD
    generalize (upd x1 (nI i).toNatClampNeg z_11) = f_12 at hP hD
    refine lv_iinc (v := (nI (i + 1))) (lv' := [(1, .int (nI (i + 1))), (0, .ref mm)]) hx hb dX10_stands_45 hl (k := 1) rfl (nI_1 i) (by decide) rfl (fun ls hl => ?_)
    refine lv_goto (tgt := 26) hx hb dX10_stands_48 (by decide) ?_
    exact ih f_12 _ _ _ ⟨hP, hD, hS, lv_sub hl [1, 0] rfl⟩
set_option maxRecDepth 100000 in
set_option maxHeartbeats 4000000 in
theorem m_sign (l : Launch) (D : va_G) (Y : Nat → ClassId) (mm : Nat) (g : Nat → Value) (g_21 : g 21 = .int 0) (g_22 : g 22 = .int 0)  : cM l D Y yX10_sign cX10_sign 1 (some .int) 1 0 0 [.ref mm] [(mm, .inr (9, fl 77 g))] (qI D (fun (r : Int32) (u : Unit) => r = 0) (fun (u : Unit) => [(mm, .inr (9, fl 77 g))])) := by
  refine cM.mk RX10 rfl (by decide) (Nat.le_of_ble_eq_true rfl) ?_
  intro p e s m below meth c A F hr hlocks hin hK hZ hP hD hA hS ls hl
  have hx := F.1
  have hb := F.2.1
  have hl : lv_has ls 1 [(0, .ref mm)] := hl
  refine lv_aload_n hx hb dX10_sign_0 rfl (lv_at hl 0 rfl) ?_
  refine gF (C := RX10) (T := TX10) (ci := 9) (v := .int 0) F hK hP 0 rfl rfl iwX10 22 (by decide) m_240 (fun _ h => h) g_22 dX10_sign_1 ?_
  refine lv_aload_n hx hb dX10_sign_4 rfl (lv_at hl 0 rfl) ?_
  refine gF (C := RX10) (T := TX10) (ci := 9) (v := .int 0) F hK hP 0 rfl rfl iwX10 21 (by decide) m_241 (fun _ h => h) g_21 dX10_sign_5 ?_
  refine lv_icmp_ge (tgt := 38) hx hb dX10_sign_8 (by decide) (fun _ => ?_) (fun c9 => absurd (by decide) c9)
  refine lv_aload_n hx hb dX10_sign_38 rfl (lv_at hl 0 rfl) ?_
  refine gF (C := RX10) (T := TX10) (ci := 9) (v := .int 0) F hK hP 0 rfl rfl iwX10 22 (by decide) m_240 (fun _ h => h) g_22 dX10_sign_39 ?_
  refine lv_aload_n hx hb dX10_sign_42 rfl (lv_at hl 0 rfl) ?_
  refine gF (C := RX10) (T := TX10) (ci := 9) (v := .int 0) F hK hP 0 rfl rfl iwX10 21 (by decide) m_241 (fun _ h => h) g_21 dX10_sign_43 ?_
  refine lv_icmp_ge (tgt := 61) hx hb dX10_sign_46 (by decide) (fun _ => ?_) (fun c9 => absurd (by decide) c9)
  refine lv_iconst (v := 0) hx hb dX10_sign_61 (by decide) ?_
  exact retI F hr hlocks rfl hP hD hS () [0] rfl rfl (Nat.le_of_ble_eq_true rfl) (Nat.le_of_ble_eq_true rfl) dX10_sign_62 rfl
set_option maxRecDepth 100000 in
set_option maxHeartbeats 4000000 in
theorem m_text0 (l : Launch) (D : va_G) (Y : Nat → ClassId) (mm : Nat) (ru : Nat) (rr : Nat) (ar : Nat) (ra : Nat) (pn : Nat) (rp : Nat) (cn : Nat) (rc : Nat) (to : Nat) (f_ru : Nat → Int32) (f_rr : Nat → Int32) (f_ar : Nat → Int32) (f_ra : Nat → Int32) (f_pn : Nat → Int64) (f_rp : Nat → Int64) (f_cn : Nat → Int64) (f_rc : Nat → Int64) (f_to : Nat → Int32) (g : Nat → Value) (g_5 : g 5 = .ref ar) (g_6 : g 6 = .ref ru) (g_7 : g 7 = .ref pn) (g_8 : g 8 = .ref cn) (g_20 : g 20 = .int 0) (g_33 : g 33 = .ref ra) (g_34 : g 34 = .ref rr) (g_35 : g 35 = .ref rp) (g_36 : g 36 = .ref rc) (g_50 : g 50 = .ref to)  : cM l D Y yX10_text cX10_text 3 (some .int) 3 0 0 [.ref mm, .int 0] [(mm, .inr (9, fl 77 g)), (ru, .inl (Y 0, 1800, .inl f_ru)), (rr, .inl (Y 0, 1800, .inl f_rr)), (ar, .inl (Y 0, 10, .inl f_ar)), (ra, .inl (Y 0, 10, .inl f_ra)), (pn, .inl (Y 1, 10, .inr (.inl f_pn))), (rp, .inl (Y 1, 10, .inr (.inl f_rp))), (cn, .inl (Y 1, 8, .inr (.inl f_cn))), (rc, .inl (Y 1, 8, .inr (.inl f_rc))), (to, .inl (Y 0, 1000, .inl f_to))] (qI D (fun (r : Int32) (u : Nat → Value) => r = 0 ∧ u 0 = .int 0) (fun (u : Nat → Value) => [(mm, .inr (9, fl 77 u))])) := by
  refine cM.mk RX10 rfl (by decide) (Nat.le_of_ble_eq_true rfl) ?_
  intro p e s m below meth c A F hr hlocks hin hK hZ hP hD hA hS ls hl
  have hx := F.1
  have hb := F.2.1
  have hl : lv_has ls 3 [(0, .ref mm), (1, .int 0)] := hl
  refine lv_aload_n hx hb dX10_text_0 rfl (lv_at hl 0 rfl) ?_
  refine lv_iconst (v := 0) hx hb dX10_text_1 (by decide) ?_
  refine pF (C := RX10) (T := TX10) (ci := 9) F hK hP hD hS 0 rfl rfl iwX10 tyX10 tyX10_ok nmX10 0 (by decide) m_191 (fun _ h => h) rfl rfl rfl dX10_text_2 (fun H locs hP hD hS => ?_)
  have hP : va_P D vwCl [(mm, .inr (9, fl 77 (va_up g 0 (.int 0)))), (ru, .inl (Y 0, 1800, .inl f_ru)), (rr, .inl (Y 0, 1800, .inl f_rr)), (ar, .inl (Y 0, 10, .inl f_ar)), (ra, .inl (Y 0, 10, .inl f_ra)), (pn, .inl (Y 1, 10, .inr (.inl f_pn))), (rp, .inl (Y 1, 10, .inr (.inl f_rp))), (cn, .inl (Y 1, 8, .inr (.inl f_cn))), (rc, .inl (Y 1, 8, .inr (.inl f_rc))), (to, .inl (Y 0, 1000, .inl f_to))] H := hP
  have hD : va_D A [(mm, .inr (9, fl 77 (va_up g 0 (.int 0)))), (ru, .inl (Y 0, 1800, .inl f_ru)), (rr, .inl (Y 0, 1800, .inl f_rr)), (ar, .inl (Y 0, 10, .inl f_ar)), (ra, .inl (Y 0, 10, .inl f_ra)), (pn, .inl (Y 1, 10, .inr (.inl f_pn))), (rp, .inl (Y 1, 10, .inr (.inl f_rp))), (cn, .inl (Y 1, 8, .inr (.inl f_cn))), (rc, .inl (Y 1, 8, .inr (.inl f_rc))), (to, .inl (Y 0, 1000, .inl f_to))] := hD
  refine lv_aload_n hx hb dX10_text_5 rfl (lv_at hl 0 rfl) ?_
  refine lv_iload_n hx hb dX10_text_6 rfl (lv_at hl 1 rfl) ?_
  refine lv_iconst (v := 0) hx hb dX10_text_7 (by decide) ?_
  refine lv_aload_n hx hb dX10_text_8 rfl (lv_at hl 0 rfl) ?_
  refine gF (C := RX10) (T := TX10) (ci := 9) (v := .int 0) F hK hP 0 rfl rfl iwX10 20 (by decide) m_194 (fun _ h => h) g_20 dX10_text_9 ?_
  refine goI (wr := [(mm, .inr (9, fl 77 (va_up g 0 (.int 0)))), (ru, .inl (Y 0, 1800, .inl f_ru)), (rr, .inl (Y 0, 1800, .inl f_rr)), (ar, .inl (Y 0, 10, .inl f_ar)), (ra, .inl (Y 0, 10, .inl f_ra)), (pn, .inl (Y 1, 10, .inr (.inl f_pn))), (rp, .inl (Y 1, 10, .inr (.inl f_rp))), (cn, .inl (Y 1, 8, .inr (.inl f_cn))), (rc, .inl (Y 1, 8, .inr (.inl f_rc))), (to, .inl (Y 0, 1000, .inl f_to))]) (runS (n := 3) (As := [.int 0, .int 0, .int 0]) (rest := [.ref mm]) F hK hZ hP hD hS hA (c_within1 l D Y 0 0 0  (by decide) (by decide)) [] rfl rfl m_203 m_204 m_196 m_202 (by decide +kernel) rfl ⟨Nat.le_of_ble_eq_true rfl, Nat.le_of_ble_eq_true rfl⟩ hl.1 rfl (Nat.le_of_ble_eq_true rfl) dX10_text_12 ⟨Nat.le_of_ble_eq_true rfl, Nat.le_of_ble_eq_true rfl⟩) hP hD hS hA [] [0, 1, 2, 3, 4, 5, 6, 7, 8, 9] rfl rfl rfl (by decide) (fun r_1 u H locs hw hP hD hS => ?_)
  have hrr := hw
  have hP : va_P D vwCl [(mm, .inr (9, fl 77 (va_up g 0 (.int 0)))), (ru, .inl (Y 0, 1800, .inl f_ru)), (rr, .inl (Y 0, 1800, .inl f_rr)), (ar, .inl (Y 0, 10, .inl f_ar)), (ra, .inl (Y 0, 10, .inl f_ra)), (pn, .inl (Y 1, 10, .inr (.inl f_pn))), (rp, .inl (Y 1, 10, .inr (.inl f_rp))), (cn, .inl (Y 1, 8, .inr (.inl f_cn))), (rc, .inl (Y 1, 8, .inr (.inl f_rc))), (to, .inl (Y 0, 1000, .inl f_to))] H := hP
  have hD : va_D A [(mm, .inr (9, fl 77 (va_up g 0 (.int 0)))), (ru, .inl (Y 0, 1800, .inl f_ru)), (rr, .inl (Y 0, 1800, .inl f_rr)), (ar, .inl (Y 0, 10, .inl f_ar)), (ra, .inl (Y 0, 10, .inl f_ra)), (pn, .inl (Y 1, 10, .inr (.inl f_pn))), (rp, .inl (Y 1, 10, .inr (.inl f_rp))), (cn, .inl (Y 1, 8, .inr (.inl f_cn))), (rc, .inl (Y 1, 8, .inr (.inl f_rc))), (to, .inl (Y 0, 1000, .inl f_to))] := hD
  subst hrr
  refine W.widen (k := 0) (n := 0) (Nat.le_of_ble_eq_true rfl) (Nat.le_of_ble_eq_true rfl) ?_
  refine lv_iconst (v := 1) hx hb dX10_text_15 (by decide) ?_
  refine lv_iconst (v := 1) hx hb dX10_text_16 (by decide) ?_
  refine goI (wr := [(ru, .inl (Y 0, 1800, .inl f_ru)), (rr, .inl (Y 0, 1800, .inl f_rr)), (ar, .inl (Y 0, 10, .inl f_ar)), (ra, .inl (Y 0, 10, .inl f_ra)), (pn, .inl (Y 1, 10, .inr (.inl f_pn))), (rp, .inl (Y 1, 10, .inr (.inl f_rp))), (cn, .inl (Y 1, 8, .inr (.inl f_cn))), (rc, .inl (Y 1, 8, .inr (.inl f_rc))), (to, .inl (Y 0, 1000, .inl f_to))]) (runV (n := 3) (As := [.int 1, .int 1, .int 1]) (rest := []) (C := RX10) (T := TX10) (N := 77) (ci := 9) F hK hZ hP hD hS hA (c_isF1 l D Y mm 1 1 (va_up g 0 (.int 0)) rfl ) 0 rfl rfl [0] rfl rfl m_206 m_207 m_208 m_196 m_205 (by decide +kernel) rfl ⟨Nat.le_of_ble_eq_true rfl, Nat.le_of_ble_eq_true rfl⟩ hl.1 rfl (Nat.le_of_ble_eq_true rfl) dX10_text_17 ⟨Nat.le_of_ble_eq_true rfl, Nat.le_of_ble_eq_true rfl⟩) hP hD hS hA [0] [1, 2, 3, 4, 5, 6, 7, 8, 9] rfl rfl rfl (by decide) (fun r_2 u H locs hw hP hD hS => ?_)
  have hrr := hw
  have hP : va_P D vwCl [(ru, .inl (Y 0, 1800, .inl f_ru)), (rr, .inl (Y 0, 1800, .inl f_rr)), (ar, .inl (Y 0, 10, .inl f_ar)), (ra, .inl (Y 0, 10, .inl f_ra)), (pn, .inl (Y 1, 10, .inr (.inl f_pn))), (rp, .inl (Y 1, 10, .inr (.inl f_rp))), (cn, .inl (Y 1, 8, .inr (.inl f_cn))), (rc, .inl (Y 1, 8, .inr (.inl f_rc))), (to, .inl (Y 0, 1000, .inl f_to)), (mm, .inr (9, fl 77 (va_up g 0 (.int 0))))] H := hP
  have hD : va_D A [(ru, .inl (Y 0, 1800, .inl f_ru)), (rr, .inl (Y 0, 1800, .inl f_rr)), (ar, .inl (Y 0, 10, .inl f_ar)), (ra, .inl (Y 0, 10, .inl f_ra)), (pn, .inl (Y 1, 10, .inr (.inl f_pn))), (rp, .inl (Y 1, 10, .inr (.inl f_rp))), (cn, .inl (Y 1, 8, .inr (.inl f_cn))), (rc, .inl (Y 1, 8, .inr (.inl f_rc))), (to, .inl (Y 0, 1000, .inl f_to)), (mm, .inr (9, fl 77 (va_up g 0 (.int 0))))] := hD
  subst hrr
  refine W.widen (k := 0) (n := 0) (Nat.le_of_ble_eq_true rfl) (Nat.le_of_ble_eq_true rfl) ?_
  refine lv_if_ne (tgt := 25) hx hb dX10_text_20 (by decide) (fun _ => ?_) (fun c9 => absurd c9 (by decide))
  refine lv_iconst (v := 0) hx hb dX10_text_25 (by decide) ?_
  refine lv_istore_n (lv' := [(2, .int 0), (0, .ref mm), (1, .int 0)]) hx hb dX10_text_26 rfl hl (by decide) rfl (fun ls hl => ?_)
  refine lv_iload_n hx hb dX10_text_27 rfl (lv_at hl 0 rfl) ?_
  refine lv_iload_n hx hb dX10_text_28 rfl (lv_at hl 2 rfl) ?_
  refine lv_icmp_ge (tgt := 50) hx hb dX10_text_29 (by decide) (fun _ => ?_) (fun c9 => absurd (by decide) c9)
  refine lv_aload_n hx hb dX10_text_50 rfl (lv_at hl 1 rfl) ?_
  refine lv_iconst (v := 0) hx hb dX10_text_51 (by decide) ?_
  refine pF (C := RX10) (T := TX10) (ci := 9) F hK hP hD hS 9 rfl rfl iwX10 tyX10 tyX10_ok nmX10 20 (by decide) m_194 (fun _ h => h) rfl rfl rfl dX10_text_52 (fun H locs hP hD hS => ?_)
  have hP : va_P D vwCl [(ru, .inl (Y 0, 1800, .inl f_ru)), (rr, .inl (Y 0, 1800, .inl f_rr)), (ar, .inl (Y 0, 10, .inl f_ar)), (ra, .inl (Y 0, 10, .inl f_ra)), (pn, .inl (Y 1, 10, .inr (.inl f_pn))), (rp, .inl (Y 1, 10, .inr (.inl f_rp))), (cn, .inl (Y 1, 8, .inr (.inl f_cn))), (rc, .inl (Y 1, 8, .inr (.inl f_rc))), (to, .inl (Y 0, 1000, .inl f_to)), (mm, .inr (9, fl 77 (va_up (va_up g 0 (.int 0)) 20 (.int 0))))] H := hP
  have hD : va_D A [(ru, .inl (Y 0, 1800, .inl f_ru)), (rr, .inl (Y 0, 1800, .inl f_rr)), (ar, .inl (Y 0, 10, .inl f_ar)), (ra, .inl (Y 0, 10, .inl f_ra)), (pn, .inl (Y 1, 10, .inr (.inl f_pn))), (rp, .inl (Y 1, 10, .inr (.inl f_rp))), (cn, .inl (Y 1, 8, .inr (.inl f_cn))), (rc, .inl (Y 1, 8, .inr (.inl f_rc))), (to, .inl (Y 0, 1000, .inl f_to)), (mm, .inr (9, fl 77 (va_up (va_up g 0 (.int 0)) 20 (.int 0))))] := hD
  refine lv_aload_n hx hb dX10_text_55 rfl (lv_at hl 1 rfl) ?_
  refine lv_iload_n hx hb dX10_text_56 rfl (lv_at hl 2 rfl) ?_
  refine pF (C := RX10) (T := TX10) (ci := 9) F hK hP hD hS 9 rfl rfl iwX10 tyX10 tyX10_ok nmX10 21 (by decide) m_241 (fun _ h => h) rfl rfl rfl dX10_text_57 (fun H locs hP hD hS => ?_)
  have hP : va_P D vwCl [(ru, .inl (Y 0, 1800, .inl f_ru)), (rr, .inl (Y 0, 1800, .inl f_rr)), (ar, .inl (Y 0, 10, .inl f_ar)), (ra, .inl (Y 0, 10, .inl f_ra)), (pn, .inl (Y 1, 10, .inr (.inl f_pn))), (rp, .inl (Y 1, 10, .inr (.inl f_rp))), (cn, .inl (Y 1, 8, .inr (.inl f_cn))), (rc, .inl (Y 1, 8, .inr (.inl f_rc))), (to, .inl (Y 0, 1000, .inl f_to)), (mm, .inr (9, fl 77 (va_up (va_up (va_up g 0 (.int 0)) 20 (.int 0)) 21 (.int 0))))] H := hP
  have hD : va_D A [(ru, .inl (Y 0, 1800, .inl f_ru)), (rr, .inl (Y 0, 1800, .inl f_rr)), (ar, .inl (Y 0, 10, .inl f_ar)), (ra, .inl (Y 0, 10, .inl f_ra)), (pn, .inl (Y 1, 10, .inr (.inl f_pn))), (rp, .inl (Y 1, 10, .inr (.inl f_rp))), (cn, .inl (Y 1, 8, .inr (.inl f_cn))), (rc, .inl (Y 1, 8, .inr (.inl f_rc))), (to, .inl (Y 0, 1000, .inl f_to)), (mm, .inr (9, fl 77 (va_up (va_up (va_up g 0 (.int 0)) 20 (.int 0)) 21 (.int 0))))] := hD
  refine lv_aload_n hx hb dX10_text_60 rfl (lv_at hl 1 rfl) ?_
  refine lv_iconst (v := 0) hx hb dX10_text_61 (by decide) ?_
  refine pF (C := RX10) (T := TX10) (ci := 9) F hK hP hD hS 9 rfl rfl iwX10 tyX10 tyX10_ok nmX10 22 (by decide) m_240 (fun _ h => h) rfl rfl rfl dX10_text_62 (fun H locs hP hD hS => ?_)
  have hP : va_P D vwCl [(ru, .inl (Y 0, 1800, .inl f_ru)), (rr, .inl (Y 0, 1800, .inl f_rr)), (ar, .inl (Y 0, 10, .inl f_ar)), (ra, .inl (Y 0, 10, .inl f_ra)), (pn, .inl (Y 1, 10, .inr (.inl f_pn))), (rp, .inl (Y 1, 10, .inr (.inl f_rp))), (cn, .inl (Y 1, 8, .inr (.inl f_cn))), (rc, .inl (Y 1, 8, .inr (.inl f_rc))), (to, .inl (Y 0, 1000, .inl f_to)), (mm, .inr (9, fl 77 (va_up (va_up (va_up (va_up g 0 (.int 0)) 20 (.int 0)) 21 (.int 0)) 22 (.int 0))))] H := hP
  have hD : va_D A [(ru, .inl (Y 0, 1800, .inl f_ru)), (rr, .inl (Y 0, 1800, .inl f_rr)), (ar, .inl (Y 0, 10, .inl f_ar)), (ra, .inl (Y 0, 10, .inl f_ra)), (pn, .inl (Y 1, 10, .inr (.inl f_pn))), (rp, .inl (Y 1, 10, .inr (.inl f_rp))), (cn, .inl (Y 1, 8, .inr (.inl f_cn))), (rc, .inl (Y 1, 8, .inr (.inl f_rc))), (to, .inl (Y 0, 1000, .inl f_to)), (mm, .inr (9, fl 77 (va_up (va_up (va_up (va_up g 0 (.int 0)) 20 (.int 0)) 21 (.int 0)) 22 (.int 0))))] := hD
  refine lv_aload_n hx hb dX10_text_65 rfl (lv_at hl 1 rfl) ?_
  refine lv_iconst (v := 0) hx hb dX10_text_66 (by decide) ?_
  refine pF (C := RX10) (T := TX10) (ci := 9) F hK hP hD hS 9 rfl rfl iwX10 tyX10 tyX10_ok nmX10 24 (by decide) m_242 (fun _ h => h) rfl rfl rfl dX10_text_67 (fun H locs hP hD hS => ?_)
  have hP : va_P D vwCl [(ru, .inl (Y 0, 1800, .inl f_ru)), (rr, .inl (Y 0, 1800, .inl f_rr)), (ar, .inl (Y 0, 10, .inl f_ar)), (ra, .inl (Y 0, 10, .inl f_ra)), (pn, .inl (Y 1, 10, .inr (.inl f_pn))), (rp, .inl (Y 1, 10, .inr (.inl f_rp))), (cn, .inl (Y 1, 8, .inr (.inl f_cn))), (rc, .inl (Y 1, 8, .inr (.inl f_rc))), (to, .inl (Y 0, 1000, .inl f_to)), (mm, .inr (9, fl 77 (va_up (va_up (va_up (va_up (va_up g 0 (.int 0)) 20 (.int 0)) 21 (.int 0)) 22 (.int 0)) 24 (.int 0))))] H := hP
  have hD : va_D A [(ru, .inl (Y 0, 1800, .inl f_ru)), (rr, .inl (Y 0, 1800, .inl f_rr)), (ar, .inl (Y 0, 10, .inl f_ar)), (ra, .inl (Y 0, 10, .inl f_ra)), (pn, .inl (Y 1, 10, .inr (.inl f_pn))), (rp, .inl (Y 1, 10, .inr (.inl f_rp))), (cn, .inl (Y 1, 8, .inr (.inl f_cn))), (rc, .inl (Y 1, 8, .inr (.inl f_rc))), (to, .inl (Y 0, 1000, .inl f_to)), (mm, .inr (9, fl 77 (va_up (va_up (va_up (va_up (va_up g 0 (.int 0)) 20 (.int 0)) 21 (.int 0)) 22 (.int 0)) 24 (.int 0))))] := hD
  refine lv_aload_n hx hb dX10_text_70 rfl (lv_at hl 1 rfl) ?_
  refine lv_iconst (v := 0) hx hb dX10_text_71 (by decide) ?_
  refine pF (C := RX10) (T := TX10) (ci := 9) F hK hP hD hS 9 rfl rfl iwX10 tyX10 tyX10_ok nmX10 29 (by decide) m_225 (fun _ h => h) rfl rfl rfl dX10_text_72 (fun H locs hP hD hS => ?_)
  have hP : va_P D vwCl [(ru, .inl (Y 0, 1800, .inl f_ru)), (rr, .inl (Y 0, 1800, .inl f_rr)), (ar, .inl (Y 0, 10, .inl f_ar)), (ra, .inl (Y 0, 10, .inl f_ra)), (pn, .inl (Y 1, 10, .inr (.inl f_pn))), (rp, .inl (Y 1, 10, .inr (.inl f_rp))), (cn, .inl (Y 1, 8, .inr (.inl f_cn))), (rc, .inl (Y 1, 8, .inr (.inl f_rc))), (to, .inl (Y 0, 1000, .inl f_to)), (mm, .inr (9, fl 77 (va_up (va_up (va_up (va_up (va_up (va_up g 0 (.int 0)) 20 (.int 0)) 21 (.int 0)) 22 (.int 0)) 24 (.int 0)) 29 (.int 0))))] H := hP
  have hD : va_D A [(ru, .inl (Y 0, 1800, .inl f_ru)), (rr, .inl (Y 0, 1800, .inl f_rr)), (ar, .inl (Y 0, 10, .inl f_ar)), (ra, .inl (Y 0, 10, .inl f_ra)), (pn, .inl (Y 1, 10, .inr (.inl f_pn))), (rp, .inl (Y 1, 10, .inr (.inl f_rp))), (cn, .inl (Y 1, 8, .inr (.inl f_cn))), (rc, .inl (Y 1, 8, .inr (.inl f_rc))), (to, .inl (Y 0, 1000, .inl f_to)), (mm, .inr (9, fl 77 (va_up (va_up (va_up (va_up (va_up (va_up g 0 (.int 0)) 20 (.int 0)) 21 (.int 0)) 22 (.int 0)) 24 (.int 0)) 29 (.int 0))))] := hD
  refine lv_aload_n hx hb dX10_text_75 rfl (lv_at hl 1 rfl) ?_
  refine lv_iconst (v := 0) hx hb dX10_text_76 (by decide) ?_
  refine pF (C := RX10) (T := TX10) (ci := 9) F hK hP hD hS 9 rfl rfl iwX10 tyX10 tyX10_ok nmX10 30 (by decide) m_226 (fun _ h => h) rfl rfl rfl dX10_text_77 (fun H locs hP hD hS => ?_)
  have hP : va_P D vwCl [(ru, .inl (Y 0, 1800, .inl f_ru)), (rr, .inl (Y 0, 1800, .inl f_rr)), (ar, .inl (Y 0, 10, .inl f_ar)), (ra, .inl (Y 0, 10, .inl f_ra)), (pn, .inl (Y 1, 10, .inr (.inl f_pn))), (rp, .inl (Y 1, 10, .inr (.inl f_rp))), (cn, .inl (Y 1, 8, .inr (.inl f_cn))), (rc, .inl (Y 1, 8, .inr (.inl f_rc))), (to, .inl (Y 0, 1000, .inl f_to)), (mm, .inr (9, fl 77 (va_up (va_up (va_up (va_up (va_up (va_up (va_up g 0 (.int 0)) 20 (.int 0)) 21 (.int 0)) 22 (.int 0)) 24 (.int 0)) 29 (.int 0)) 30 (.int 0))))] H := hP
  have hD : va_D A [(ru, .inl (Y 0, 1800, .inl f_ru)), (rr, .inl (Y 0, 1800, .inl f_rr)), (ar, .inl (Y 0, 10, .inl f_ar)), (ra, .inl (Y 0, 10, .inl f_ra)), (pn, .inl (Y 1, 10, .inr (.inl f_pn))), (rp, .inl (Y 1, 10, .inr (.inl f_rp))), (cn, .inl (Y 1, 8, .inr (.inl f_cn))), (rc, .inl (Y 1, 8, .inr (.inl f_rc))), (to, .inl (Y 0, 1000, .inl f_to)), (mm, .inr (9, fl 77 (va_up (va_up (va_up (va_up (va_up (va_up (va_up g 0 (.int 0)) 20 (.int 0)) 21 (.int 0)) 22 (.int 0)) 24 (.int 0)) 29 (.int 0)) 30 (.int 0))))] := hD
  refine lv_aload_n hx hb dX10_text_80 rfl (lv_at hl 1 rfl) ?_
  refine lv_iconst (v := 0) hx hb dX10_text_81 (by decide) ?_
  refine pF (C := RX10) (T := TX10) (ci := 9) F hK hP hD hS 9 rfl rfl iwX10 tyX10 tyX10_ok nmX10 31 (by decide) m_228 (fun _ h => h) rfl rfl rfl dX10_text_82 (fun H locs hP hD hS => ?_)
  have hP : va_P D vwCl [(ru, .inl (Y 0, 1800, .inl f_ru)), (rr, .inl (Y 0, 1800, .inl f_rr)), (ar, .inl (Y 0, 10, .inl f_ar)), (ra, .inl (Y 0, 10, .inl f_ra)), (pn, .inl (Y 1, 10, .inr (.inl f_pn))), (rp, .inl (Y 1, 10, .inr (.inl f_rp))), (cn, .inl (Y 1, 8, .inr (.inl f_cn))), (rc, .inl (Y 1, 8, .inr (.inl f_rc))), (to, .inl (Y 0, 1000, .inl f_to)), (mm, .inr (9, fl 77 (va_up (va_up (va_up (va_up (va_up (va_up (va_up (va_up g 0 (.int 0)) 20 (.int 0)) 21 (.int 0)) 22 (.int 0)) 24 (.int 0)) 29 (.int 0)) 30 (.int 0)) 31 (.int 0))))] H := hP
  have hD : va_D A [(ru, .inl (Y 0, 1800, .inl f_ru)), (rr, .inl (Y 0, 1800, .inl f_rr)), (ar, .inl (Y 0, 10, .inl f_ar)), (ra, .inl (Y 0, 10, .inl f_ra)), (pn, .inl (Y 1, 10, .inr (.inl f_pn))), (rp, .inl (Y 1, 10, .inr (.inl f_rp))), (cn, .inl (Y 1, 8, .inr (.inl f_cn))), (rc, .inl (Y 1, 8, .inr (.inl f_rc))), (to, .inl (Y 0, 1000, .inl f_to)), (mm, .inr (9, fl 77 (va_up (va_up (va_up (va_up (va_up (va_up (va_up (va_up g 0 (.int 0)) 20 (.int 0)) 21 (.int 0)) 22 (.int 0)) 24 (.int 0)) 29 (.int 0)) 30 (.int 0)) 31 (.int 0))))] := hD
  refine lv_aload_n hx hb dX10_text_85 rfl (lv_at hl 1 rfl) ?_
  refine gF (C := RX10) (T := TX10) (ci := 9) (v := .int 0) F hK hP 9 rfl rfl iwX10 24 (by decide) m_242 (fun _ h => h) rfl dX10_text_86 ?_
  refine lv_if_ne (tgt := 117) hx hb dX10_text_89 (by decide) (fun c9 => absurd (by decide) c9) (fun _ => ?_)
  refine lv_aload_n hx hb dX10_text_92 rfl (lv_at hl 1 rfl) ?_
  refine goI (wr := [(ru, .inl (Y 0, 1800, .inl f_ru)), (rr, .inl (Y 0, 1800, .inl f_rr)), (ar, .inl (Y 0, 10, .inl f_ar)), (ra, .inl (Y 0, 10, .inl f_ra)), (pn, .inl (Y 1, 10, .inr (.inl f_pn))), (rp, .inl (Y 1, 10, .inr (.inl f_rp))), (cn, .inl (Y 1, 8, .inr (.inl f_cn))), (rc, .inl (Y 1, 8, .inr (.inl f_rc))), (to, .inl (Y 0, 1000, .inl f_to))]) (runV (n := 0) (As := []) (rest := []) (C := RX10) (T := TX10) (N := 77) (ci := 9) F hK hZ hP hD hS hA (m_sign l D Y mm (va_up (va_up (va_up (va_up (va_up (va_up (va_up (va_up g 0 (.int 0)) 20 (.int 0)) 21 (.int 0)) 22 (.int 0)) 24 (.int 0)) 29 (.int 0)) 30 (.int 0)) 31 (.int 0)) rfl rfl ) 9 rfl rfl [9] rfl rfl m_244 m_245 m_246 m_196 m_243 (by decide +kernel) rfl ⟨Nat.le_of_ble_eq_true rfl, Nat.le_of_ble_eq_true rfl⟩ hl.1 rfl (Nat.le_of_ble_eq_true rfl) dX10_text_93 ⟨Nat.le_of_ble_eq_true rfl, Nat.le_of_ble_eq_true rfl⟩) hP hD hS hA [9] [0, 1, 2, 3, 4, 5, 6, 7, 8] rfl rfl rfl (by decide) (fun r_3 u H locs hw hP hD hS => ?_)
  have hrr := hw
  have hP : va_P D vwCl [(ru, .inl (Y 0, 1800, .inl f_ru)), (rr, .inl (Y 0, 1800, .inl f_rr)), (ar, .inl (Y 0, 10, .inl f_ar)), (ra, .inl (Y 0, 10, .inl f_ra)), (pn, .inl (Y 1, 10, .inr (.inl f_pn))), (rp, .inl (Y 1, 10, .inr (.inl f_rp))), (cn, .inl (Y 1, 8, .inr (.inl f_cn))), (rc, .inl (Y 1, 8, .inr (.inl f_rc))), (to, .inl (Y 0, 1000, .inl f_to)), (mm, .inr (9, fl 77 (va_up (va_up (va_up (va_up (va_up (va_up (va_up (va_up g 0 (.int 0)) 20 (.int 0)) 21 (.int 0)) 22 (.int 0)) 24 (.int 0)) 29 (.int 0)) 30 (.int 0)) 31 (.int 0))))] H := hP
  have hD : va_D A [(ru, .inl (Y 0, 1800, .inl f_ru)), (rr, .inl (Y 0, 1800, .inl f_rr)), (ar, .inl (Y 0, 10, .inl f_ar)), (ra, .inl (Y 0, 10, .inl f_ra)), (pn, .inl (Y 1, 10, .inr (.inl f_pn))), (rp, .inl (Y 1, 10, .inr (.inl f_rp))), (cn, .inl (Y 1, 8, .inr (.inl f_cn))), (rc, .inl (Y 1, 8, .inr (.inl f_rc))), (to, .inl (Y 0, 1000, .inl f_to)), (mm, .inr (9, fl 77 (va_up (va_up (va_up (va_up (va_up (va_up (va_up (va_up g 0 (.int 0)) 20 (.int 0)) 21 (.int 0)) 22 (.int 0)) 24 (.int 0)) 29 (.int 0)) 30 (.int 0)) 31 (.int 0))))] := hD
  subst hrr
  refine W.widen (k := 0) (n := 0) (Nat.le_of_ble_eq_true rfl) (Nat.le_of_ble_eq_true rfl) ?_
  refine lv_if_ne (tgt := 110) hx hb dX10_text_96 (by decide) (fun c9 => absurd (by decide) c9) (fun _ => ?_)
  refine lv_aload_n hx hb dX10_text_99 rfl (lv_at hl 1 rfl) ?_
  refine gF (C := RX10) (T := TX10) (ci := 9) (v := .int 0) F hK hP 9 rfl rfl iwX10 22 (by decide) m_240 (fun _ h => h) rfl dX10_text_100 ?_
  refine lv_aload_n hx hb dX10_text_103 rfl (lv_at hl 1 rfl) ?_
  refine gF (C := RX10) (T := TX10) (ci := 9) (v := .int 0) F hK hP 9 rfl rfl iwX10 21 (by decide) m_241 (fun _ h => h) rfl dX10_text_104 ?_
  refine lv_icmp_ge (tgt := 117) hx hb dX10_text_107 (by decide) (fun _ => ?_) (fun c9 => absurd (by decide) c9)
  refine lv_aload_n hx hb dX10_text_117 rfl (lv_at hl 1 rfl) ?_
  refine lv_aload_n hx hb dX10_text_118 rfl (lv_at hl 1 rfl) ?_
  refine gF (C := RX10) (T := TX10) (ci := 9) (v := .int 0) F hK hP 9 rfl rfl iwX10 24 (by decide) m_242 (fun _ h => h) rfl dX10_text_119 ?_
  refine lv_if_le (tgt := 132) hx hb dX10_text_122 (by decide) (fun _ => ?_) (fun c9 => absurd (by decide) c9)
  refine lv_iconst (v := (-1)) hx hb dX10_text_132 (by decide) ?_
  refine pF (C := RX10) (T := TX10) (ci := 9) F hK hP hD hS 9 rfl rfl iwX10 tyX10 tyX10_ok nmX10 26 (by decide) m_200 (fun _ h => h) rfl rfl rfl dX10_text_133 (fun H locs hP hD hS => ?_)
  have hP : va_P D vwCl [(ru, .inl (Y 0, 1800, .inl f_ru)), (rr, .inl (Y 0, 1800, .inl f_rr)), (ar, .inl (Y 0, 10, .inl f_ar)), (ra, .inl (Y 0, 10, .inl f_ra)), (pn, .inl (Y 1, 10, .inr (.inl f_pn))), (rp, .inl (Y 1, 10, .inr (.inl f_rp))), (cn, .inl (Y 1, 8, .inr (.inl f_cn))), (rc, .inl (Y 1, 8, .inr (.inl f_rc))), (to, .inl (Y 0, 1000, .inl f_to)), (mm, .inr (9, fl 77 (va_up (va_up (va_up (va_up (va_up (va_up (va_up (va_up (va_up g 0 (.int 0)) 20 (.int 0)) 21 (.int 0)) 22 (.int 0)) 24 (.int 0)) 29 (.int 0)) 30 (.int 0)) 31 (.int 0)) 26 (.int (-1)))))] H := hP
  have hD : va_D A [(ru, .inl (Y 0, 1800, .inl f_ru)), (rr, .inl (Y 0, 1800, .inl f_rr)), (ar, .inl (Y 0, 10, .inl f_ar)), (ra, .inl (Y 0, 10, .inl f_ra)), (pn, .inl (Y 1, 10, .inr (.inl f_pn))), (rp, .inl (Y 1, 10, .inr (.inl f_rp))), (cn, .inl (Y 1, 8, .inr (.inl f_cn))), (rc, .inl (Y 1, 8, .inr (.inl f_rc))), (to, .inl (Y 0, 1000, .inl f_to)), (mm, .inr (9, fl 77 (va_up (va_up (va_up (va_up (va_up (va_up (va_up (va_up (va_up g 0 (.int 0)) 20 (.int 0)) 21 (.int 0)) 22 (.int 0)) 24 (.int 0)) 29 (.int 0)) 30 (.int 0)) 31 (.int 0)) 26 (.int (-1)))))] := hD
  refine lv_aload_n hx hb dX10_text_136 rfl (lv_at hl 1 rfl) ?_
  refine gF (C := RX10) (T := TX10) (ci := 9) (v := .int 0) F hK hP 9 rfl rfl iwX10 24 (by decide) m_242 (fun _ h => h) rfl dX10_text_137 ?_
  refine lv_if_le (tgt := 151) hx hb dX10_text_140 (by decide) (fun _ => ?_) (fun c9 => absurd (by decide) c9)
  refine lv_aload_n hx hb dX10_text_151 rfl (lv_at hl 1 rfl) ?_
  refine goV (wr := []) (runV (n := 0) (As := []) (rest := []) (C := RX10) (T := TX10) (N := 77) (ci := 9) F hK hZ hP hD hS hA (m_stands l D Y mm ru rr ar ra pn rp cn rc to f_ru f_rr f_ar f_ra f_pn f_rp f_cn f_rc f_to (va_up (va_up (va_up (va_up (va_up (va_up (va_up (va_up (va_up g 0 (.int 0)) 20 (.int 0)) 21 (.int 0)) 22 (.int 0)) 24 (.int 0)) 29 (.int 0)) 30 (.int 0)) 31 (.int 0)) 26 (.int (-1))) rfl g_5 g_6 g_7 g_8 rfl rfl rfl g_33 g_34 g_35 g_36 g_50 ) 9 rfl rfl [9, 0, 1, 2, 3, 4, 5, 6, 7, 8] rfl rfl m_248 m_249 m_250 m_196 m_247 (by decide +kernel) rfl ⟨Nat.le_of_ble_eq_true rfl, Nat.le_of_ble_eq_true rfl⟩ hl.1 rfl (Nat.le_of_ble_eq_true rfl) dX10_text_152 ⟨Nat.le_of_ble_eq_true rfl, Nat.le_of_ble_eq_true rfl⟩) hP hD hS hA [9, 0, 1, 2, 3, 4, 5, 6, 7, 8] [] rfl rfl rfl (by decide) (fun gn_4 H locs hw hP hD hS => ?_)
  obtain ⟨o_5, o_6⟩ := hw
  have hP : va_P D vwCl [(mm, .inr (9, fl 77 gn_4))] H := hP
  have hD : va_D A [(mm, .inr (9, fl 77 gn_4))] := hD
  refine W.widen (k := 0) (n := 0) (Nat.le_of_ble_eq_true rfl) (Nat.le_of_ble_eq_true rfl) ?_
  refine lv_aload_n hx hb dX10_text_155 rfl (lv_at hl 1 rfl) ?_
  refine gF (C := RX10) (T := TX10) (ci := 9) (v := .int 0) F hK hP 0 rfl rfl iwX10 4 (by decide) m_213 (fun _ h => h) o_6 dX10_text_156 ?_
  exact retI F hr hlocks rfl hP hD hS gn_4 [0] rfl rfl (Nat.le_of_ble_eq_true rfl) (Nat.le_of_ble_eq_true rfl) dX10_text_159 ⟨rfl, o_5⟩
set_option maxRecDepth 100000 in
set_option maxHeartbeats 4000000 in
theorem m_textB (l : Launch) (D : va_G) (Y : Nat → ClassId) (mm : Nat) (rf : Nat) (j1 : Int32) (g : Nat → Value) (f : Nat → Int32) (g_1 : g 1 = .ref rf) (g_20 : g 20 = .int 0) (h1 : j1 < 0 ∨ 0 < j1) : cM l D Y yX10_text cX10_text 3 (some .int) 2 0 0 [.ref mm, .int j1] [(mm, .inr (9, fl 77 g)), (rf, .inl (Y 0, 3, .inl f))] (qI D (fun (r : Int32) (u : Nat → Value) => r = 0 ∧ u 0 = .int 1) (fun (u : Nat → Value) => [(mm, .inr (9, fl 77 u))])) := by
  refine cM.mk RX10 rfl (by decide) (Nat.le_of_ble_eq_true rfl) ?_
  intro p e s m below meth c A F hr hlocks hin hK hZ hP hD hA hS ls hl
  have hx := F.1
  have hb := F.2.1
  have hl : lv_has ls 3 [(0, .ref mm), (1, .int j1)] := hl
  refine lv_aload_n hx hb dX10_text_0 rfl (lv_at hl 0 rfl) ?_
  refine lv_iconst (v := 0) hx hb dX10_text_1 (by decide) ?_
  refine pF (C := RX10) (T := TX10) (ci := 9) F hK hP hD hS 0 rfl rfl iwX10 tyX10 tyX10_ok nmX10 0 (by decide) m_191 (fun _ h => h) rfl rfl rfl dX10_text_2 (fun H locs hP hD hS => ?_)
  have hP : va_P D vwCl [(mm, .inr (9, fl 77 (va_up g 0 (.int 0)))), (rf, .inl (Y 0, 3, .inl f))] H := hP
  have hD : va_D A [(mm, .inr (9, fl 77 (va_up g 0 (.int 0)))), (rf, .inl (Y 0, 3, .inl f))] := hD
  refine lv_aload_n hx hb dX10_text_5 rfl (lv_at hl 0 rfl) ?_
  refine lv_iload_n hx hb dX10_text_6 rfl (lv_at hl 1 rfl) ?_
  refine lv_iconst (v := 0) hx hb dX10_text_7 (by decide) ?_
  refine lv_aload_n hx hb dX10_text_8 rfl (lv_at hl 0 rfl) ?_
  refine gF (C := RX10) (T := TX10) (ci := 9) (v := .int 0) F hK hP 0 rfl rfl iwX10 20 (by decide) m_194 (fun _ h => h) g_20 dX10_text_9 ?_
  refine goI (wr := [(mm, .inr (9, fl 77 (va_up g 0 (.int 0)))), (rf, .inl (Y 0, 3, .inl f))]) (runS (n := 3) (As := [.int j1, .int 0, .int 0]) (rest := [.ref mm]) F hK hZ hP hD hS hA (c_within0 l D Y j1 0 0  h1) [] rfl rfl m_203 m_204 m_196 m_202 (by decide +kernel) rfl ⟨Nat.le_of_ble_eq_true rfl, Nat.le_of_ble_eq_true rfl⟩ hl.1 rfl (Nat.le_of_ble_eq_true rfl) dX10_text_12 ⟨Nat.le_of_ble_eq_true rfl, Nat.le_of_ble_eq_true rfl⟩) hP hD hS hA [] [0, 1] rfl rfl rfl (by decide) (fun r_1 u H locs hw hP hD hS => ?_)
  have hrr := hw
  have hP : va_P D vwCl [(mm, .inr (9, fl 77 (va_up g 0 (.int 0)))), (rf, .inl (Y 0, 3, .inl f))] H := hP
  have hD : va_D A [(mm, .inr (9, fl 77 (va_up g 0 (.int 0)))), (rf, .inl (Y 0, 3, .inl f))] := hD
  subst hrr
  refine W.widen (k := 0) (n := 0) (Nat.le_of_ble_eq_true rfl) (Nat.le_of_ble_eq_true rfl) ?_
  refine lv_iconst (v := 1) hx hb dX10_text_15 (by decide) ?_
  refine lv_iconst (v := 1) hx hb dX10_text_16 (by decide) ?_
  refine goI (wr := []) (runV (n := 3) (As := [.int 0, .int 1, .int 1]) (rest := []) (C := RX10) (T := TX10) (N := 77) (ci := 9) F hK hZ hP hD hS hA (c_isF0_11 l D Y mm rf (va_up g 0 (.int 0)) f rfl g_1 ) 0 rfl rfl [0, 1] rfl rfl m_206 m_207 m_208 m_196 m_205 (by decide +kernel) rfl ⟨Nat.le_of_ble_eq_true rfl, Nat.le_of_ble_eq_true rfl⟩ hl.1 rfl (Nat.le_of_ble_eq_true rfl) dX10_text_17 ⟨Nat.le_of_ble_eq_true rfl, Nat.le_of_ble_eq_true rfl⟩) hP hD hS hA [0, 1] [] rfl rfl rfl (by decide) (fun r_5 u H locs hw hP hD hS => ?_)
  obtain ⟨gn_2, fn_3⟩ := u
  obtain ⟨hrr, o_4⟩ := hw
  have hP : va_P D vwCl [(mm, .inr (9, fl 77 gn_2)), (rf, .inl (Y 0, 3, .inl fn_3))] H := hP
  have hD : va_D A [(mm, .inr (9, fl 77 gn_2)), (rf, .inl (Y 0, 3, .inl fn_3))] := hD
  subst hrr
  refine W.widen (k := 0) (n := 0) (Nat.le_of_ble_eq_true rfl) (Nat.le_of_ble_eq_true rfl) ?_
  refine lv_if_ne (tgt := 25) hx hb dX10_text_20 (by decide) (fun c9 => absurd (by decide) c9) (fun _ => ?_)
  refine lv_iconst (v := 0) hx hb dX10_text_23 (by decide) ?_
  exact retI F hr hlocks rfl hP hD hS gn_2 [0] rfl rfl (Nat.le_of_ble_eq_true rfl) (Nat.le_of_ble_eq_true rfl) dX10_text_24 ⟨rfl, o_4⟩
