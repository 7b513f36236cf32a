theorem dX9_text_0 : decode cX9_text 0 = .ok (.iload_n 1, 1) := by decide +kernel
theorem dX9_text_1 : decode cX9_text 1 = .ok (.ifCond .lt 11, 3) := by decide +kernel
theorem dX9_text_4 : decode cX9_text 4 = .ok (.iload_n 1, 1) := by decide +kernel
theorem dX9_text_5 : decode cX9_text 5 = .ok (.aload_n 0, 1) := by decide +kernel
theorem dX9_text_6 : decode cX9_text 6 = .ok (.getfield 55, 3) := by decide +kernel
theorem dX9_text_9 : decode cX9_text 9 = .ok (.if_icmp .le 7, 3) := by decide +kernel
theorem dX9_text_12 : decode cX9_text 12 = .ok (.aload_n 0, 1) := by decide +kernel
theorem dX9_text_13 : decode cX9_text 13 = .ok (.invokevirtual 62, 3) := by decide +kernel
theorem dX9_text_16 : decode cX9_text 16 = .ok (.new 65, 3) := by decide +kernel
theorem dX9_text_19 : decode cX9_text 19 = .ok (.dup, 1) := by decide +kernel
theorem dX9_text_20 : decode cX9_text 20 = .ok (.aload_n 0, 1) := by decide +kernel
theorem dX9_text_21 : decode cX9_text 21 = .ok (.getfield 9, 3) := by decide +kernel
theorem dX9_text_24 : decode cX9_text 24 = .ok (.iload_n 1, 1) := by decide +kernel
theorem dX9_text_25 : decode cX9_text 25 = .ok (.aload_n 0, 1) := by decide +kernel
theorem dX9_text_26 : decode cX9_text 26 = .ok (.getfield 27, 3) := by decide +kernel
theorem dX9_text_29 : decode cX9_text 29 = .ok (.invokespecial 67, 3) := by decide +kernel
theorem dX9_text_32 : decode cX9_text 32 = .ok (.astore_n 2, 1) := by decide +kernel
theorem dX9_text_33 : decode cX9_text 33 = .ok (.aload_n 2, 1) := by decide +kernel
theorem dX9_text_34 : decode cX9_text 34 = .ok (.invokevirtual 70, 3) := by decide +kernel
theorem dX9_text_37 : decode cX9_text 37 = .ok (.istore_n 3, 1) := by decide +kernel
theorem dX9_text_38 : decode cX9_text 38 = .ok (.aload_n 0, 1) := by decide +kernel
theorem dX9_text_39 : decode cX9_text 39 = .ok (.iconst 0, 1) := by decide +kernel
theorem dX9_text_40 : decode cX9_text 40 = .ok (.putfield 55, 3) := by decide +kernel
theorem dX9_text_43 : decode cX9_text 43 = .ok (.aload_n 0, 1) := by decide +kernel
theorem dX9_text_44 : decode cX9_text 44 = .ok (.aload_n 2, 1) := by decide +kernel
theorem dX9_text_45 : decode cX9_text 45 = .ok (.getfield 74, 3) := by decide +kernel
theorem dX9_text_48 : decode cX9_text 48 = .ok (.putfield 13, 3) := by decide +kernel
theorem dX9_text_51 : decode cX9_text 51 = .ok (.iload_n 3, 1) := by decide +kernel
theorem dX9_text_52 : decode cX9_text 52 = .ok (.ifCond .ne 11, 3) := by decide +kernel
theorem dX9_text_63 : decode cX9_text 63 = .ok (.aload_n 0, 1) := by decide +kernel
theorem dX9_text_64 : decode cX9_text 64 = .ok (.getfield 23, 3) := by decide +kernel
theorem dX9_text_67 : decode cX9_text 67 = .ok (.astore 4, 2) := by decide +kernel
theorem dX9_text_69 : decode cX9_text 69 = .ok (.aload_n 0, 1) := by decide +kernel
theorem dX9_text_70 : decode cX9_text 70 = .ok (.aload_n 0, 1) := by decide +kernel
theorem dX9_text_71 : decode cX9_text 71 = .ok (.getfield 27, 3) := by decide +kernel
theorem dX9_text_74 : decode cX9_text 74 = .ok (.putfield 23, 3) := by decide +kernel
theorem dX9_text_77 : decode cX9_text 77 = .ok (.aload_n 0, 1) := by decide +kernel
theorem dX9_text_78 : decode cX9_text 78 = .ok (.aload 4, 2) := by decide +kernel
theorem dX9_text_80 : decode cX9_text 80 = .ok (.putfield 27, 3) := by decide +kernel
theorem dX9_text_83 : decode cX9_text 83 = .ok (.aload_n 0, 1) := by decide +kernel
theorem dX9_text_84 : decode cX9_text 84 = .ok (.getfield 35, 3) := by decide +kernel
theorem dX9_text_87 : decode cX9_text 87 = .ok (.iconst 0, 1) := by decide +kernel
theorem dX9_text_88 : decode cX9_text 88 = .ok (.putfield 80, 3) := by decide +kernel
theorem dX9_text_91 : decode cX9_text 91 = .ok (.aload_n 0, 1) := by decide +kernel
theorem dX9_text_92 : decode cX9_text 92 = .ok (.getfield 51, 3) := by decide +kernel
theorem dX9_text_95 : decode cX9_text 95 = .ok (.invokevirtual 84, 3) := by decide +kernel
theorem dX9_text_98 : decode cX9_text 98 = .ok (.aload_n 0, 1) := by decide +kernel
theorem dX9_text_99 : decode cX9_text 99 = .ok (.getfield 23, 3) := by decide +kernel
theorem dX9_text_102 : decode cX9_text 102 = .ok (.getfield 87, 3) := by decide +kernel
theorem dX9_text_105 : decode cX9_text 105 = .ok (.ireturn, 1) := by decide +kernel
theorem dX9_abolish_0 : decode cX9_abolish 0 = .ok (.aload_n 0, 1) := by decide +kernel
theorem dX9_abolish_1 : decode cX9_abolish 1 = .ok (.getfield 51, 3) := by decide +kernel
theorem dX9_abolish_4 : decode cX9_abolish 4 = .ok (.getfield 128, 3) := by decide +kernel
theorem dX9_abolish_7 : decode cX9_abolish 7 = .ok (.istore_n 1, 1) := by decide +kernel
theorem dX9_abolish_8 : decode cX9_abolish 8 = .ok (.aload_n 0, 1) := by decide +kernel
theorem dX9_abolish_9 : decode cX9_abolish 9 = .ok (.getfield 51, 3) := by decide +kernel
theorem dX9_abolish_12 : decode cX9_abolish 12 = .ok (.invokevirtual 131, 3) := by decide +kernel
theorem dX9_abolish_15 : decode cX9_abolish 15 = .ok (.iload_n 1, 1) := by decide +kernel
theorem dX9_abolish_16 : decode cX9_abolish 16 = .ok (.ireturn, 1) := by decide +kernel
theorem dX9_told_0 : decode cX9_told 0 = .ok (.aload_n 0, 1) := by decide +kernel
theorem dX9_told_1 : decode cX9_told 1 = .ok (.iload_n 1, 1) := by decide +kernel
theorem dX9_told_2 : decode cX9_told 2 = .ok (.bipush 11, 2) := by decide +kernel
theorem dX9_told_4 : decode cX9_told 4 = .ok (.invokevirtual 134, 3) := by decide +kernel
theorem dX9_told_7 : decode cX9_told 7 = .ok (.iload_n 1, 1) := by decide +kernel
theorem dX9_told_8 : decode cX9_told 8 = .ok (.bipush 8, 2) := by decide +kernel
theorem dX9_told_10 : decode cX9_told 10 = .ok (.if_icmp .lt 20, 3) := by decide +kernel
theorem dX9_told_13 : decode cX9_told 13 = .ok (.iload_n 1, 1) := by decide +kernel
theorem dX9_told_14 : decode cX9_told 14 = .ok (.bipush 10, 2) := by decide +kernel
theorem dX9_told_16 : decode cX9_told 16 = .ok (.if_icmp .gt 14, 3) := by decide +kernel
theorem dX9_told_19 : decode cX9_told 19 = .ok (.aload_n 0, 1) := by decide +kernel
theorem dX9_told_20 : decode cX9_told 20 = .ok (.getfield 35, 3) := by decide +kernel
theorem dX9_told_23 : decode cX9_told 23 = .ok (.aload_n 0, 1) := by decide +kernel
theorem dX9_told_24 : decode cX9_told 24 = .ok (.getfield 23, 3) := by decide +kernel
theorem dX9_told_27 : decode cX9_told 27 = .ok (.invokevirtual 118, 3) := by decide +kernel
theorem dX9_told_30 : decode cX9_told 30 = .ok (.iload_n 1, 1) := by decide +kernel
theorem dX9_told_31 : decode cX9_told 31 = .ok (.tableswitch 145 0 10 #[57, 65, 73, 81, 89, 97, 105, 113, 121, 129, 137], 57) := by decide +kernel
theorem dX9_told_88 : decode cX9_told 88 = .ok (.aload_n 0, 1) := by decide +kernel
theorem dX9_told_89 : decode cX9_told 89 = .ok (.getfield 23, 3) := by decide +kernel
theorem dX9_told_92 : decode cX9_told 92 = .ok (.getfield 138, 3) := by decide +kernel
theorem dX9_told_95 : decode cX9_told 95 = .ok (.ireturn, 1) := by decide +kernel
theorem dX9_told_96 : decode cX9_told 96 = .ok (.aload_n 0, 1) := by decide +kernel
theorem dX9_told_97 : decode cX9_told 97 = .ok (.getfield 23, 3) := by decide +kernel
theorem dX9_told_100 : decode cX9_told 100 = .ok (.getfield 141, 3) := by decide +kernel
theorem dX9_told_103 : decode cX9_told 103 = .ok (.ireturn, 1) := by decide +kernel
theorem dX9_told_104 : decode cX9_told 104 = .ok (.aload_n 0, 1) := by decide +kernel
theorem dX9_told_105 : decode cX9_told 105 = .ok (.getfield 23, 3) := by decide +kernel
theorem dX9_told_108 : decode cX9_told 108 = .ok (.getfield 87, 3) := by decide +kernel
theorem dX9_told_111 : decode cX9_told 111 = .ok (.ireturn, 1) := by decide +kernel
theorem dX9_told_112 : decode cX9_told 112 = .ok (.aload_n 0, 1) := by decide +kernel
theorem dX9_told_113 : decode cX9_told 113 = .ok (.getfield 23, 3) := by decide +kernel
theorem dX9_told_116 : decode cX9_told 116 = .ok (.invokevirtual 144, 3) := by decide +kernel
theorem dX9_told_119 : decode cX9_told 119 = .ok (.ireturn, 1) := by decide +kernel
theorem dX9_told_120 : decode cX9_told 120 = .ok (.aload_n 0, 1) := by decide +kernel
theorem dX9_told_121 : decode cX9_told 121 = .ok (.getfield 51, 3) := by decide +kernel
theorem dX9_told_124 : decode cX9_told 124 = .ok (.getfield 128, 3) := by decide +kernel
theorem dX9_told_127 : decode cX9_told 127 = .ok (.ireturn, 1) := by decide +kernel
theorem dX9_told_128 : decode cX9_told 128 = .ok (.aload_n 0, 1) := by decide +kernel
theorem dX9_told_129 : decode cX9_told 129 = .ok (.getfield 51, 3) := by decide +kernel
theorem dX9_told_132 : decode cX9_told 132 = .ok (.invokevirtual 148, 3) := by decide +kernel
theorem dX9_told_135 : decode cX9_told 135 = .ok (.ireturn, 1) := by decide +kernel
theorem dX9_told_136 : decode cX9_told 136 = .ok (.aload_n 0, 1) := by decide +kernel
theorem dX9_told_137 : decode cX9_told 137 = .ok (.getfield 51, 3) := by decide +kernel
theorem dX9_told_140 : decode cX9_told 140 = .ok (.getfield 151, 3) := by decide +kernel
theorem dX9_told_143 : decode cX9_told 143 = .ok (.ireturn, 1) := by decide +kernel
theorem dX9_told_144 : decode cX9_told 144 = .ok (.aload_n 0, 1) := by decide +kernel
theorem dX9_told_145 : decode cX9_told 145 = .ok (.getfield 51, 3) := by decide +kernel
theorem dX9_told_148 : decode cX9_told 148 = .ok (.getfield 154, 3) := by decide +kernel
theorem dX9_told_151 : decode cX9_told 151 = .ok (.ireturn, 1) := by decide +kernel
theorem dX9_told_152 : decode cX9_told 152 = .ok (.aload_n 0, 1) := by decide +kernel
theorem dX9_told_153 : decode cX9_told 153 = .ok (.getfield 35, 3) := by decide +kernel
theorem dX9_told_156 : decode cX9_told 156 = .ok (.getfield 157, 3) := by decide +kernel
theorem dX9_told_159 : decode cX9_told 159 = .ok (.ireturn, 1) := by decide +kernel
theorem dX9_told_160 : decode cX9_told 160 = .ok (.aload_n 0, 1) := by decide +kernel
theorem dX9_told_161 : decode cX9_told 161 = .ok (.getfield 35, 3) := by decide +kernel
theorem dX9_told_164 : decode cX9_told 164 = .ok (.invokevirtual 160, 3) := by decide +kernel
theorem dX9_told_167 : decode cX9_told 167 = .ok (.ireturn, 1) := by decide +kernel
theorem dX9_told_168 : decode cX9_told 168 = .ok (.aload_n 0, 1) := by decide +kernel
theorem dX9_told_169 : decode cX9_told 169 = .ok (.getfield 35, 3) := by decide +kernel
theorem dX9_told_172 : decode cX9_told 172 = .ok (.invokevirtual 163, 3) := by decide +kernel
theorem dX9_told_175 : decode cX9_told 175 = .ok (.ireturn, 1) := by decide +kernel
theorem dX9_told_176 : decode cX9_told 176 = .ok (.aload_n 0, 1) := by decide +kernel
theorem dX9_told_177 : decode cX9_told 177 = .ok (.getfield 55, 3) := by decide +kernel
theorem dX9_told_180 : decode cX9_told 180 = .ok (.ireturn, 1) := by decide +kernel
theorem dX9_nameAt_0 : decode cX9_nameAt 0 = .ok (.aload_n 0, 1) := by decide +kernel
theorem dX9_nameAt_1 : decode cX9_nameAt 1 = .ok (.iload_n 1, 1) := by decide +kernel
theorem dX9_nameAt_2 : decode cX9_nameAt 2 = .ok (.iconst 1, 1) := by decide +kernel
theorem dX9_nameAt_3 : decode cX9_nameAt 3 = .ok (.invokevirtual 134, 3) := by decide +kernel
theorem dX9_nameAt_6 : decode cX9_nameAt 6 = .ok (.iload_n 1, 1) := by decide +kernel
theorem dX9_nameAt_7 : decode cX9_nameAt 7 = .ok (.ifCond .ne 11, 3) := by decide +kernel
theorem dX9_nameAt_10 : decode cX9_nameAt 10 = .ok (.aload_n 0, 1) := by decide +kernel
theorem dX9_nameAt_11 : decode cX9_nameAt 11 = .ok (.iload_n 2, 1) := by decide +kernel
theorem dX9_nameAt_12 : decode cX9_nameAt 12 = .ok (.invokevirtual 166, 3) := by decide +kernel
theorem dX9_nameAt_18 : decode cX9_nameAt 18 = .ok (.aload_n 0, 1) := by decide +kernel
theorem dX9_nameAt_19 : decode cX9_nameAt 19 = .ok (.iload_n 2, 1) := by decide +kernel
theorem dX9_nameAt_20 : decode cX9_nameAt 20 = .ok (.invokevirtual 196, 3) := by decide +kernel
theorem dX9_table_0 : decode cX9_table 0 = .ok (.aload_n 0, 1) := by decide +kernel
theorem dX9_table_1 : decode cX9_table 1 = .ok (.iload_n 1, 1) := by decide +kernel
theorem dX9_table_2 : decode cX9_table 2 = .ok (.aload_n 0, 1) := by decide +kernel
theorem dX9_table_3 : decode cX9_table 3 = .ok (.getfield 51, 3) := by decide +kernel
theorem dX9_table_6 : decode cX9_table 6 = .ok (.getfield 128, 3) := by decide +kernel
theorem dX9_table_9 : decode cX9_table 9 = .ok (.invokevirtual 199, 3) := by decide +kernel
theorem dX9_calls_0 : decode cX9_calls 0 = .ok (.aload_n 0, 1) := by decide +kernel
theorem dX9_calls_1 : decode cX9_calls 1 = .ok (.iload_n 1, 1) := by decide +kernel
theorem dX9_calls_2 : decode cX9_calls 2 = .ok (.aload_n 0, 1) := by decide +kernel
theorem dX9_calls_3 : decode cX9_calls 3 = .ok (.getfield 51, 3) := by decide +kernel
theorem dX9_calls_6 : decode cX9_calls 6 = .ok (.getfield 128, 3) := by decide +kernel
theorem dX9_calls_9 : decode cX9_calls 9 = .ok (.invokevirtual 199, 3) := by decide +kernel
theorem dX9_answer_0 : decode cX9_answer 0 = .ok (.aload_n 0, 1) := by decide +kernel
theorem dX9_answer_1 : decode cX9_answer 1 = .ok (.iload_n 1, 1) := by decide +kernel
theorem dX9_answer_2 : decode cX9_answer 2 = .ok (.aload_n 0, 1) := by decide +kernel
theorem dX9_answer_3 : decode cX9_answer 3 = .ok (.getfield 51, 3) := by decide +kernel
theorem dX9_answer_6 : decode cX9_answer 6 = .ok (.getfield 128, 3) := by decide +kernel
theorem dX9_answer_9 : decode cX9_answer 9 = .ok (.invokevirtual 199, 3) := by decide +kernel
theorem dX9_completed_0 : decode cX9_completed 0 = .ok (.iload_n 1, 1) := by decide +kernel
theorem dX9_completed_1 : decode cX9_completed 1 = .ok (.ifCond .lt 14, 3) := by decide +kernel
theorem dX9_completed_4 : decode cX9_completed 4 = .ok (.iload_n 1, 1) := by decide +kernel
theorem dX9_completed_5 : decode cX9_completed 5 = .ok (.aload_n 0, 1) := by decide +kernel
theorem dX9_completed_6 : decode cX9_completed 6 = .ok (.getfield 51, 3) := by decide +kernel
theorem dX9_completed_9 : decode cX9_completed 9 = .ok (.getfield 256, 3) := by decide +kernel
theorem dX9_completed_12 : decode cX9_completed 12 = .ok (.if_icmp .lt 7, 3) := by decide +kernel
theorem dX9_completed_15 : decode cX9_completed 15 = .ok (.iconst (-1), 1) := by decide +kernel
theorem dX9_completed_16 : decode cX9_completed 16 = .ok (.goto 12, 3) := by decide +kernel
theorem dX9_completed_28 : decode cX9_completed 28 = .ok (.ireturn, 1) := by decide +kernel
theorem dX9_print_0 : decode cX9_print 0 = .ok (.aload_n 0, 1) := by decide +kernel
theorem dX9_print_1 : decode cX9_print 1 = .ok (.getfield 51, 3) := by decide +kernel
theorem dX9_print_4 : decode cX9_print 4 = .ok (.invokevirtual 282, 3) := by decide +kernel
theorem dX9_print_7 : decode cX9_print 7 = .ok (.lreturn, 1) := by decide +kernel
theorem dX9_status_0 : decode cX9_status 0 = .ok (.iload_n 1, 1) := by decide +kernel
theorem dX9_status_1 : decode cX9_status 1 = .ok (.ifCond .lt 8, 3) := by decide +kernel
theorem dX9_status_4 : decode cX9_status 4 = .ok (.iload_n 1, 1) := by decide +kernel
theorem dX9_status_5 : decode cX9_status 5 = .ok (.iconst 2, 1) := by decide +kernel
theorem dX9_status_6 : decode cX9_status 6 = .ok (.if_icmp .le 7, 3) := by decide +kernel
theorem dX9_status_9 : decode cX9_status 9 = .ok (.iconst (-1), 1) := by decide +kernel
theorem dX9_status_10 : decode cX9_status 10 = .ok (.goto 9, 3) := by decide +kernel
theorem dX9_status_13 : decode cX9_status 13 = .ok (.aload_n 0, 1) := by decide +kernel
theorem dX9_status_14 : decode cX9_status 14 = .ok (.getfield 17, 3) := by decide +kernel
theorem dX9_status_17 : decode cX9_status 17 = .ok (.iload_n 1, 1) := by decide +kernel
theorem dX9_status_18 : decode cX9_status 18 = .ok (.iaload, 1) := by decide +kernel
theorem dX9_status_19 : decode cX9_status 19 = .ok (.ireturn, 1) := by decide +kernel
set_option maxRecDepth 100000 in
set_option maxHeartbeats 4000000 in
theorem c_text0 (l : Launch) (D : va_G) (Y : Nat → ClassId) (h0 : Nat) (tp : Nat) (pr : Nat) (sp : Nat) (mo : Nat) (ta : Nat) (nu : Nat) (g : Nat → Value) (gp : Nat → Value) (gs : Nat → Value) (gm : Nat → Value) (gt : Nat → Value) (f : Nat → Int32) (fn : Nat → Int32) (g_0 : g 0 = .ref tp) (g_1 : g 1 = .int 0) (g_4 : g 4 = .ref pr) (g_5 : g 5 = .ref sp) (g_6 : g 6 = .ref mo) (g_8 : g 8 = .ref ta) (gt_5 : gt 5 = .ref nu)  : cM l D Y yX9_text cX9_text 5 (some .int) 4 3 16 [.ref h0, .int 0] [(h0, .inr (8, fl 9 g)), (tp, .inl (Y 0, 400, .inl f)), (pr, .inr (3, fl 9 gp)), (sp, .inr (3, fl 9 gs)), (mo, .inr (2, fl 7 gm)), (ta, .inr (6, fl 14 gt)), (nu, .inl (Y 0, 1000, .inl fn))] (qI D (fun (r : Int32) (u : Unit) => r = 0) (fun (u : Unit) => [])) := by
  refine cM.mk RX9 rfl (by decide) (Nat.le_of_ble_eq_true rfl) ?_
  intro p e s m below meth c A F hr hlocks hin hK hZ hP hD hA hS ls hl
  have hx := F.1
  have hb := F.2.1
  have hl : lv_has ls 5 [(0, .ref h0), (1, .int 0)] := hl
  refine lv_iload_n hx hb dX9_text_0 rfl (lv_at hl 1 rfl) ?_
  refine lv_if_lt (tgt := 12) hx hb dX9_text_1 (by decide) (fun c9 => absurd c9 (by decide)) (fun _ => ?_)
  refine lv_iload_n hx hb dX9_text_4 rfl (lv_at hl 1 rfl) ?_
  refine lv_aload_n hx hb dX9_text_5 rfl (lv_at hl 0 rfl) ?_
  refine gF (C := RX9) (T := TX9) (ci := 8) (v := .int 0) F hK hP 0 rfl rfl iwX9 1 (by decide) m_3 (fun _ h => h) g_1 dX9_text_6 ?_
  refine lv_icmp_le (tgt := 16) hx hb dX9_text_9 (by decide) (fun _ => ?_) (fun c9 => absurd (by decide) c9)
  refine nO (C := RX4) (T := TX4) (N := 10) (ci := 4) F hK hP hD hS hA rfl iwX4 tyX4 tyX4_ok m_135 m_136 m_131 (Nat.le_of_ble_eq_true rfl) (Nat.le_of_ble_eq_true rfl) dX9_text_16 (fun q_1 H hP hD hS => ?_)
  have hP : va_P D vwCl [(h0, .inr (8, fl 9 g)), (tp, .inl (Y 0, 400, .inl f)), (pr, .inr (3, fl 9 gp)), (sp, .inr (3, fl 9 gs)), (mo, .inr (2, fl 7 gm)), (ta, .inr (6, fl 14 gt)), (nu, .inl (Y 0, 1000, .inl fn)), (q_1, .inr (4, fl 10 (fun k => defaultValue (tyX4 k))))] H := hP
  have hD : va_D A [(h0, .inr (8, fl 9 g)), (tp, .inl (Y 0, 400, .inl f)), (pr, .inr (3, fl 9 gp)), (sp, .inr (3, fl 9 gs)), (mo, .inr (2, fl 7 gm)), (ta, .inr (6, fl 14 gt)), (nu, .inl (Y 0, 1000, .inl fn)), (q_1, .inr (4, fl 10 (fun k => defaultValue (tyX4 k))))] := hD
  refine W.widen (k := 1) (n := 10) (Nat.le_of_ble_eq_true rfl) (Nat.le_of_ble_eq_true rfl) ?_
  refine lv_dup hx hb dX9_text_19 rfl ?_
  refine lv_aload_n hx hb dX9_text_20 rfl (lv_at hl 0 rfl) ?_
  refine gF (C := RX9) (T := TX9) (ci := 8) (v := .ref tp) F hK hP 0 rfl rfl iwX9 0 (by decide) m_4 (fun _ h => h) g_0 dX9_text_21 ?_
  refine lv_iload_n hx hb dX9_text_24 rfl (lv_at hl 1 rfl) ?_
  refine lv_aload_n hx hb dX9_text_25 rfl (lv_at hl 0 rfl) ?_
  refine gF (C := RX9) (T := TX9) (ci := 8) (v := .ref sp) F hK hP 0 rfl rfl iwX9 5 (by decide) m_137 (fun _ h => h) g_5 dX9_text_26 ?_
  refine goV (wr := [(h0, .inr (8, fl 9 g)), (pr, .inr (3, fl 9 gp)), (sp, .inr (3, fl 9 gs)), (mo, .inr (2, fl 7 gm)), (ta, .inr (6, fl 14 gt)), (nu, .inl (Y 0, 1000, .inl fn))]) (runI (n := 3) (As := [.ref tp, .int 0, .ref sp]) (rest := [.ref q_1]) F hK hZ hP hD hS hA (c_rdI l D Y q_1 tp sp (fun k => defaultValue (tyX4 k)) f rfl ) [7, 1] rfl rfl m_140 m_139 m_131 m_138 rfl (by decide +kernel) rfl ⟨Nat.le_of_ble_eq_true rfl, Nat.le_of_ble_eq_true rfl⟩ hl.1 rfl (Nat.le_of_ble_eq_true rfl) dX9_text_29 ⟨Nat.le_of_ble_eq_true rfl, Nat.le_of_ble_eq_true rfl⟩) hP hD hS hA [7, 1] [0, 2, 3, 4, 5, 6] rfl rfl rfl (by decide) (fun grn_2 H locs hw hP hD hS => ?_)
  obtain ⟨o_3, o_4, o_5, o_6⟩ := hw
  have hP : va_P D vwCl [(h0, .inr (8, fl 9 g)), (pr, .inr (3, fl 9 gp)), (sp, .inr (3, fl 9 gs)), (mo, .inr (2, fl 7 gm)), (ta, .inr (6, fl 14 gt)), (nu, .inl (Y 0, 1000, .inl fn)), (q_1, .inr (4, fl 10 grn_2)), (tp, .inl (Y 0, 400, .inl f))] H := hP
  have hD : va_D A [(h0, .inr (8, fl 9 g)), (pr, .inr (3, fl 9 gp)), (sp, .inr (3, fl 9 gs)), (mo, .inr (2, fl 7 gm)), (ta, .inr (6, fl 14 gt)), (nu, .inl (Y 0, 1000, .inl fn)), (q_1, .inr (4, fl 10 grn_2)), (tp, .inl (Y 0, 400, .inl f))] := hD
  refine W.widen (k := 3) (n := 16) (Nat.le_of_ble_eq_true rfl) (Nat.le_of_ble_eq_true rfl) ?_
  refine lv_astore_n (lv' := [(2, .ref q_1), (0, .ref h0), (1, .int 0)]) hx hb dX9_text_32 rfl hl (by decide) rfl (fun ls hl => ?_)
  refine lv_aload_n hx hb dX9_text_33 rfl (lv_at hl 0 rfl) ?_
  refine goI (wr := [(h0, .inr (8, fl 9 g)), (pr, .inr (3, fl 9 gp)), (mo, .inr (2, fl 7 gm)), (ta, .inr (6, fl 14 gt)), (nu, .inl (Y 0, 1000, .inl fn)), (tp, .inl (Y 0, 400, .inl f))]) (runV (n := 0) (As := []) (rest := []) (C := RX4) (T := TX4) (N := 10) (ci := 4) F hK hZ hP hD hS hA (c_readT l D Y q_1 sp grn_2 gs o_4 o_5 o_6 ) 6 rfl rfl [6, 2] rfl rfl m_142 m_143 m_144 m_131 m_141 (by decide +kernel) rfl ⟨Nat.le_of_ble_eq_true rfl, Nat.le_of_ble_eq_true rfl⟩ hl.1 rfl (Nat.le_of_ble_eq_true rfl) dX9_text_34 ⟨Nat.le_of_ble_eq_true rfl, Nat.le_of_ble_eq_true rfl⟩) hP hD hS hA [6, 2] [0, 1, 3, 4, 5, 7] rfl rfl rfl (by decide) (fun r_12 gsn_8 H locs hw hP hD hS => ?_)
  obtain ⟨hrr, o_9, o_10, o_11⟩ := hw
  have hP : va_P D vwCl [(h0, .inr (8, fl 9 g)), (pr, .inr (3, fl 9 gp)), (mo, .inr (2, fl 7 gm)), (ta, .inr (6, fl 14 gt)), (nu, .inl (Y 0, 1000, .inl fn)), (tp, .inl (Y 0, 400, .inl f)), (q_1, .inr (4, fl 10 grn_2)), (sp, .inr (3, fl 9 gsn_8))] H := hP
  have hD : va_D A [(h0, .inr (8, fl 9 g)), (pr, .inr (3, fl 9 gp)), (mo, .inr (2, fl 7 gm)), (ta, .inr (6, fl 14 gt)), (nu, .inl (Y 0, 1000, .inl fn)), (tp, .inl (Y 0, 400, .inl f)), (q_1, .inr (4, fl 10 grn_2)), (sp, .inr (3, fl 9 gsn_8))] := hD
  subst hrr
  refine W.widen (k := 3) (n := 16) (Nat.le_of_ble_eq_true rfl) (Nat.le_of_ble_eq_true rfl) ?_
  refine lv_istore_n (lv' := [(3, .int 1), (2, .ref q_1), (0, .ref h0), (1, .int 0)]) hx hb dX9_text_37 rfl hl (by decide) rfl (fun ls hl => ?_)
  refine lv_aload_n hx hb dX9_text_38 rfl (lv_at hl 2 rfl) ?_
  refine lv_iconst (v := 0) hx hb dX9_text_39 (by decide) ?_
  refine pF (C := RX9) (T := TX9) (ci := 8) F hK hP hD hS 0 rfl rfl iwX9 tyX9 tyX9_ok nmX9 1 (by decide) m_3 (fun _ h => h) rfl rfl rfl dX9_text_40 (fun H locs hP hD hS => ?_)
  have hP : va_P D vwCl [(h0, .inr (8, fl 9 (va_up g 1 (.int 0)))), (pr, .inr (3, fl 9 gp)), (mo, .inr (2, fl 7 gm)), (ta, .inr (6, fl 14 gt)), (nu, .inl (Y 0, 1000, .inl fn)), (tp, .inl (Y 0, 400, .inl f)), (q_1, .inr (4, fl 10 grn_2)), (sp, .inr (3, fl 9 gsn_8))] H := hP
  have hD : va_D A [(h0, .inr (8, fl 9 (va_up g 1 (.int 0)))), (pr, .inr (3, fl 9 gp)), (mo, .inr (2, fl 7 gm)), (ta, .inr (6, fl 14 gt)), (nu, .inl (Y 0, 1000, .inl fn)), (tp, .inl (Y 0, 400, .inl f)), (q_1, .inr (4, fl 10 grn_2)), (sp, .inr (3, fl 9 gsn_8))] := hD
  refine lv_aload_n hx hb dX9_text_43 rfl (lv_at hl 2 rfl) ?_
  refine lv_aload_n hx hb dX9_text_44 rfl (lv_at hl 1 rfl) ?_
  refine gF (C := RX4) (T := TX4) (ci := 4) (v := .int (-1)) F hK hP 6 rfl rfl iwX4 1 (by decide) m_145 (fun _ h => h) o_3 dX9_text_45 ?_
  refine pF (C := RX9) (T := TX9) (ci := 8) F hK hP hD hS 0 rfl rfl iwX9 tyX9 tyX9_ok nmX9 2 (by decide) m_10 (fun _ h => h) rfl rfl rfl dX9_text_48 (fun H locs hP hD hS => ?_)
  have hP : va_P D vwCl [(h0, .inr (8, fl 9 (va_up (va_up g 1 (.int 0)) 2 (.int (-1))))), (pr, .inr (3, fl 9 gp)), (mo, .inr (2, fl 7 gm)), (ta, .inr (6, fl 14 gt)), (nu, .inl (Y 0, 1000, .inl fn)), (tp, .inl (Y 0, 400, .inl f)), (q_1, .inr (4, fl 10 grn_2)), (sp, .inr (3, fl 9 gsn_8))] H := hP
  have hD : va_D A [(h0, .inr (8, fl 9 (va_up (va_up g 1 (.int 0)) 2 (.int (-1))))), (pr, .inr (3, fl 9 gp)), (mo, .inr (2, fl 7 gm)), (ta, .inr (6, fl 14 gt)), (nu, .inl (Y 0, 1000, .inl fn)), (tp, .inl (Y 0, 400, .inl f)), (q_1, .inr (4, fl 10 grn_2)), (sp, .inr (3, fl 9 gsn_8))] := hD
  refine lv_iload_n hx hb dX9_text_51 rfl (lv_at hl 0 rfl) ?_
  refine lv_if_ne (tgt := 63) hx hb dX9_text_52 (by decide) (fun _ => ?_) (fun c9 => absurd c9 (by decide))
  refine lv_aload_n hx hb dX9_text_63 rfl (lv_at hl 2 rfl) ?_
  refine gF (C := RX9) (T := TX9) (ci := 8) (v := .ref pr) F hK hP 0 rfl rfl iwX9 4 (by decide) m_20 (fun _ h => h) g_4 dX9_text_64 ?_
  refine lv_astore (lv' := [(4, .ref pr), (3, .int 1), (2, .ref q_1), (0, .ref h0), (1, .int 0)]) hx hb dX9_text_67 hl (by decide) rfl (fun ls hl => ?_)
  refine lv_aload_n hx hb dX9_text_69 rfl (lv_at hl 3 rfl) ?_
  refine lv_aload_n hx hb dX9_text_70 rfl (lv_at hl 3 rfl) ?_
  refine gF (C := RX9) (T := TX9) (ci := 8) (v := .ref sp) F hK hP 0 rfl rfl iwX9 5 (by decide) m_137 (fun _ h => h) g_5 dX9_text_71 ?_
  refine pF (C := RX9) (T := TX9) (ci := 8) F hK hP hD hS 0 rfl rfl iwX9 tyX9 tyX9_ok nmX9 4 (by decide) m_20 (fun _ h => h) rfl rfl rfl dX9_text_74 (fun H locs hP hD hS => ?_)
  have hP : va_P D vwCl [(h0, .inr (8, fl 9 (va_up (va_up (va_up g 1 (.int 0)) 2 (.int (-1))) 4 (.ref sp)))), (pr, .inr (3, fl 9 gp)), (mo, .inr (2, fl 7 gm)), (ta, .inr (6, fl 14 gt)), (nu, .inl (Y 0, 1000, .inl fn)), (tp, .inl (Y 0, 400, .inl f)), (q_1, .inr (4, fl 10 grn_2)), (sp, .inr (3, fl 9 gsn_8))] H := hP
  have hD : va_D A [(h0, .inr (8, fl 9 (va_up (va_up (va_up g 1 (.int 0)) 2 (.int (-1))) 4 (.ref sp)))), (pr, .inr (3, fl 9 gp)), (mo, .inr (2, fl 7 gm)), (ta, .inr (6, fl 14 gt)), (nu, .inl (Y 0, 1000, .inl fn)), (tp, .inl (Y 0, 400, .inl f)), (q_1, .inr (4, fl 10 grn_2)), (sp, .inr (3, fl 9 gsn_8))] := hD
  refine lv_aload_n hx hb dX9_text_77 rfl (lv_at hl 3 rfl) ?_
  refine lv_aload hx hb dX9_text_78 (lv_at hl 0 rfl) ?_
  refine pF (C := RX9) (T := TX9) (ci := 8) F hK hP hD hS 0 rfl rfl iwX9 tyX9 tyX9_ok nmX9 5 (by decide) m_137 (fun _ h => h) rfl rfl rfl dX9_text_80 (fun H locs hP hD hS => ?_)
  have hP : va_P D vwCl [(h0, .inr (8, fl 9 (va_up (va_up (va_up (va_up g 1 (.int 0)) 2 (.int (-1))) 4 (.ref sp)) 5 (.ref pr)))), (pr, .inr (3, fl 9 gp)), (mo, .inr (2, fl 7 gm)), (ta, .inr (6, fl 14 gt)), (nu, .inl (Y 0, 1000, .inl fn)), (tp, .inl (Y 0, 400, .inl f)), (q_1, .inr (4, fl 10 grn_2)), (sp, .inr (3, fl 9 gsn_8))] H := hP
  have hD : va_D A [(h0, .inr (8, fl 9 (va_up (va_up (va_up (va_up g 1 (.int 0)) 2 (.int (-1))) 4 (.ref sp)) 5 (.ref pr)))), (pr, .inr (3, fl 9 gp)), (mo, .inr (2, fl 7 gm)), (ta, .inr (6, fl 14 gt)), (nu, .inl (Y 0, 1000, .inl fn)), (tp, .inl (Y 0, 400, .inl f)), (q_1, .inr (4, fl 10 grn_2)), (sp, .inr (3, fl 9 gsn_8))] := hD
  refine lv_aload_n hx hb dX9_text_83 rfl (lv_at hl 3 rfl) ?_
  refine gF (C := RX9) (T := TX9) (ci := 8) (v := .ref mo) F hK hP 0 rfl rfl iwX9 6 (by decide) m_146 (fun _ h => h) g_6 dX9_text_84 ?_
  refine lv_iconst (v := 0) hx hb dX9_text_87 (by decide) ?_
  refine pF (C := RX2) (T := TX2) (ci := 2) F hK hP hD hS 2 rfl rfl iwX2 tyX2 tyX2_ok nmX2 0 (by decide) m_147 (fun _ h => h) rfl rfl rfl dX9_text_88 (fun H locs hP hD hS => ?_)
  have hP : va_P D vwCl [(h0, .inr (8, fl 9 (va_up (va_up (va_up (va_up g 1 (.int 0)) 2 (.int (-1))) 4 (.ref sp)) 5 (.ref pr)))), (pr, .inr (3, fl 9 gp)), (mo, .inr (2, fl 7 (va_up gm 0 (.int 0)))), (ta, .inr (6, fl 14 gt)), (nu, .inl (Y 0, 1000, .inl fn)), (tp, .inl (Y 0, 400, .inl f)), (q_1, .inr (4, fl 10 grn_2)), (sp, .inr (3, fl 9 gsn_8))] H := hP
  have hD : va_D A [(h0, .inr (8, fl 9 (va_up (va_up (va_up (va_up g 1 (.int 0)) 2 (.int (-1))) 4 (.ref sp)) 5 (.ref pr)))), (pr, .inr (3, fl 9 gp)), (mo, .inr (2, fl 7 (va_up gm 0 (.int 0)))), (ta, .inr (6, fl 14 gt)), (nu, .inl (Y 0, 1000, .inl fn)), (tp, .inl (Y 0, 400, .inl f)), (q_1, .inr (4, fl 10 grn_2)), (sp, .inr (3, fl 9 gsn_8))] := hD
  refine lv_aload_n hx hb dX9_text_91 rfl (lv_at hl 3 rfl) ?_
  refine gF (C := RX9) (T := TX9) (ci := 8) (v := .ref ta) F hK hP 0 rfl rfl iwX9 8 (by decide) m_148 (fun _ h => h) g_8 dX9_text_92 ?_
  refine goV (wr := [(h0, .inr (8, fl 9 (va_up (va_up (va_up (va_up g 1 (.int 0)) 2 (.int (-1))) 4 (.ref sp)) 5 (.ref pr)))), (pr, .inr (3, fl 9 gp)), (mo, .inr (2, fl 7 (va_up gm 0 (.int 0)))), (tp, .inl (Y 0, 400, .inl f)), (q_1, .inr (4, fl 10 grn_2)), (sp, .inr (3, fl 9 gsn_8))]) (runV (n := 0) (As := []) (rest := []) (C := RX6) (T := TX6) (N := 14) (ci := 6) F hK hZ hP hD hS hA (c_startA l D Y ta nu gt fn gt_5 ) 3 rfl rfl [3, 4] rfl rfl m_150 m_151 m_152 m_102 m_149 (by decide +kernel) rfl ⟨Nat.le_of_ble_eq_true rfl, Nat.le_of_ble_eq_true rfl⟩ hl.1 rfl (Nat.le_of_ble_eq_true rfl) dX9_text_95 ⟨Nat.le_of_ble_eq_true rfl, Nat.le_of_ble_eq_true rfl⟩) hP hD hS hA [3, 4] [0, 1, 2, 5, 6, 7] rfl rfl rfl (by decide) (fun u H locs hw hP hD hS => ?_)
  have hP : va_P D vwCl [(h0, .inr (8, fl 9 (va_up (va_up (va_up (va_up g 1 (.int 0)) 2 (.int (-1))) 4 (.ref sp)) 5 (.ref pr)))), (pr, .inr (3, fl 9 gp)), (mo, .inr (2, fl 7 (va_up gm 0 (.int 0)))), (tp, .inl (Y 0, 400, .inl f)), (q_1, .inr (4, fl 10 grn_2)), (sp, .inr (3, fl 9 gsn_8))] H := hP
  have hD : va_D A [(h0, .inr (8, fl 9 (va_up (va_up (va_up (va_up g 1 (.int 0)) 2 (.int (-1))) 4 (.ref sp)) 5 (.ref pr)))), (pr, .inr (3, fl 9 gp)), (mo, .inr (2, fl 7 (va_up gm 0 (.int 0)))), (tp, .inl (Y 0, 400, .inl f)), (q_1, .inr (4, fl 10 grn_2)), (sp, .inr (3, fl 9 gsn_8))] := hD
  refine W.widen (k := 3) (n := 16) (Nat.le_of_ble_eq_true rfl) (Nat.le_of_ble_eq_true rfl) ?_
  refine lv_aload_n hx hb dX9_text_98 rfl (lv_at hl 3 rfl) ?_
  refine gF (C := RX9) (T := TX9) (ci := 8) (v := .ref sp) F hK hP 0 rfl rfl iwX9 4 (by decide) m_20 (fun _ h => h) rfl dX9_text_99 ?_
  refine gF (C := RX3) (T := TX3) (ci := 3) (v := .int 0) F hK hP 5 rfl rfl iwX3 2 (by decide) m_39 (fun _ h => h) o_11 dX9_text_102 ?_
  exact retI F hr hlocks rfl hP hD hS () [] rfl rfl (Nat.le_of_ble_eq_true rfl) (Nat.le_of_ble_eq_true rfl) dX9_text_105 rfl
set_option maxRecDepth 100000 in
set_option maxHeartbeats 4000000 in
theorem c_textB (l : Launch) (hfl : l.stackTraces = false) (D : va_G) (Y : Nat → ClassId) (h0 : Nat) (rf : Nat) (g : Nat → Value) (f : Nat → Int32) (j : Int32) (g_1 : g 1 = .int 0) (g_3 : g 3 = .ref rf) (hj : ¬ j = 0) : xM l D Y yX9_text cX9_text 5 (some .int) 2 1 6 [.ref h0, .int j] [(h0, .inr (8, fl 9 g)), (rf, .inl (Y 0, 3, .inl f))] (qI D (fun (r : Int32) (u : Unit) => False) (fun (u : Unit) => [])) (fun E => E = iae) := by
  refine xM.mk RX9 rfl (by decide) (Nat.le_of_ble_eq_true rfl) ?_
  intro p e s m below meth c A F hr hlocks hno hK hZ hP hD hA hS ls hl
  have hx := F.1
  have hb := F.2.1
  have hl : lv_has ls 5 [(0, .ref h0), (1, .int j)] := hl
  refine lv_iload_n hx hb dX9_text_0 rfl (lv_at hl 1 rfl) ?_
  refine lv_if_lt (tgt := 12) hx hb dX9_text_1 (by decide) (fun c9 => ?_) (fun c9 => ?_)
  · skip
    refine lv_aload_n hx hb dX9_text_12 rfl (lv_at hl 0 rfl) ?_
    refine xgoV (wr := []) (xrunV (n := 0) (As := []) (rest := []) (C := RX9) (T := TX9) (N := 9) (ci := 8) F hK hZ hP hD hS hA (c_refA l hfl D Y h0 rf g f g_3 ) 0 rfl rfl [0, 1] rfl rfl m_41 m_42 m_43 m_6 m_40 (by decide +kernel) rfl ⟨Nat.le_of_ble_eq_true rfl, Nat.le_of_ble_eq_true rfl⟩ hl.1 rfl (Nat.le_of_ble_eq_true rfl) dX9_text_13 ⟨Nat.le_of_ble_eq_true rfl, Nat.le_of_ble_eq_true rfl⟩) hP hD hS hA [0, 1] [] rfl rfl rfl (by decide) (fun E ce q9 H locs hE hP hD hS h1 h2 h3 => ?_) (fun u H locs hw hP hD hS => ?_)
    · skip
      exact xOut hno hlocks hE hS h1 h2 h3 (Nat.le_of_ble_eq_true rfl) (Nat.le_of_ble_eq_true rfl)
    · exact hw.elim
  · skip
    refine lv_iload_n hx hb dX9_text_4 rfl (lv_at hl 1 rfl) ?_
    refine lv_aload_n hx hb dX9_text_5 rfl (lv_at hl 0 rfl) ?_
    refine gF (C := RX9) (T := TX9) (ci := 8) (v := .int 0) F hK hP 0 rfl rfl iwX9 1 (by decide) m_3 (fun _ h => h) g_1 dX9_text_6 ?_
    refine lv_icmp_le (tgt := 16) hx hb dX9_text_9 (by decide) (fun c8 => ?_) (fun c8 => ?_)
    · skip
      exact absurd (Int32.le_antisymm c8 (Int32.not_lt.mp c9)) hj
    · skip
      refine lv_aload_n hx hb dX9_text_12 rfl (lv_at hl 0 rfl) ?_
      refine xgoV (wr := []) (xrunV (n := 0) (As := []) (rest := []) (C := RX9) (T := TX9) (N := 9) (ci := 8) F hK hZ hP hD hS hA (c_refA l hfl D Y h0 rf g f g_3 ) 0 rfl rfl [0, 1] rfl rfl m_41 m_42 m_43 m_6 m_40 (by decide +kernel) rfl ⟨Nat.le_of_ble_eq_true rfl, Nat.le_of_ble_eq_true rfl⟩ hl.1 rfl (Nat.le_of_ble_eq_true rfl) dX9_text_13 ⟨Nat.le_of_ble_eq_true rfl, Nat.le_of_ble_eq_true rfl⟩) hP hD hS hA [0, 1] [] rfl rfl rfl (by decide) (fun E ce q9 H locs hE hP hD hS h1 h2 h3 => ?_) (fun u H locs hw hP hD hS => ?_)
      · skip
        exact xOut hno hlocks hE hS h1 h2 h3 (Nat.le_of_ble_eq_true rfl) (Nat.le_of_ble_eq_true rfl)
      · exact hw.elim
set_option maxRecDepth 100000 in
set_option maxHeartbeats 4000000 in
theorem c_abol (l : Launch) (D : va_G) (Y : Nat → ClassId) (h0 : Nat) (ta : Nat) (nu : Nat) (g : Nat → Value) (gt : Nat → Value) (fn : Nat → Int32) (g_8 : g 8 = .ref ta) (gt_0 : gt 0 = .int 0) (gt_5 : gt 5 = .ref nu)  : cM l D Y yX9_abolish cX9_abolish 2 (some .int) 3 0 0 [.ref h0] [(h0, .inr (8, fl 9 g)), (ta, .inr (6, fl 14 gt)), (nu, .inl (Y 0, 1000, .inl fn))] (qI D (fun (r : Int32) (u : Unit) => r = 0) (fun (u : Unit) => [])) := by
  refine cM.mk RX9 rfl (by decide) (Nat.le_of_ble_eq_true rfl) ?_
  intro p e s m below meth c A F hr hlocks hin hK hZ hP hD hA hS ls hl
  have hx := F.1
  have hb := F.2.1
  have hl : lv_has ls 2 [(0, .ref h0)] := hl
  refine lv_aload_n hx hb dX9_abolish_0 rfl (lv_at hl 0 rfl) ?_
  refine gF (C := RX9) (T := TX9) (ci := 8) (v := .ref ta) F hK hP 0 rfl rfl iwX9 8 (by decide) m_148 (fun _ h => h) g_8 dX9_abolish_1 ?_
  refine gF (C := RX6) (T := TX6) (ci := 6) (v := .int 0) F hK hP 1 rfl rfl iwX6 0 (by decide) m_153 (fun _ h => h) gt_0 dX9_abolish_4 ?_
  refine lv_istore_n (lv' := [(1, .int 0), (0, .ref h0)]) hx hb dX9_abolish_7 rfl hl (by decide) rfl (fun ls hl => ?_)
  refine lv_aload_n hx hb dX9_abolish_8 rfl (lv_at hl 1 rfl) ?_
  refine gF (C := RX9) (T := TX9) (ci := 8) (v := .ref ta) F hK hP 0 rfl rfl iwX9 8 (by decide) m_148 (fun _ h => h) g_8 dX9_abolish_9 ?_
  refine goV (wr := [(h0, .inr (8, fl 9 g))]) (runV (n := 0) (As := []) (rest := []) (C := RX6) (T := TX6) (N := 14) (ci := 6) F hK hZ hP hD hS hA (c_clearT l D Y ta nu gt fn gt_5 ) 1 rfl rfl [1, 2] rfl rfl m_154 m_104 m_105 m_102 m_101 (by decide +kernel) rfl ⟨Nat.le_of_ble_eq_true rfl, Nat.le_of_ble_eq_true rfl⟩ hl.1 rfl (Nat.le_of_ble_eq_true rfl) dX9_abolish_12 ⟨Nat.le_of_ble_eq_true rfl, Nat.le_of_ble_eq_true rfl⟩) hP hD hS hA [1, 2] [0] rfl rfl rfl (by decide) (fun u H locs hw hP hD hS => ?_)
  obtain ⟨gtn_1, fn_2⟩ := u
  have hP : va_P D vwCl [(h0, .inr (8, fl 9 g)), (ta, .inr (6, fl 14 gtn_1)), (nu, .inl (Y 0, 1000, .inl fn_2))] H := hP
  have hD : va_D A [(h0, .inr (8, fl 9 g)), (ta, .inr (6, fl 14 gtn_1)), (nu, .inl (Y 0, 1000, .inl fn_2))] := hD
  refine W.widen (k := 0) (n := 0) (Nat.le_of_ble_eq_true rfl) (Nat.le_of_ble_eq_true rfl) ?_
  refine lv_iload_n hx hb dX9_abolish_15 rfl (lv_at hl 0 rfl) ?_
  exact retI F hr hlocks rfl hP hD hS () [] rfl rfl (Nat.le_of_ble_eq_true rfl) (Nat.le_of_ble_eq_true rfl) dX9_abolish_16 rfl
set_option maxRecDepth 100000 in
set_option maxHeartbeats 4000000 in
theorem c_told_0 (l : Launch) (D : va_G) (Y : Nat → ClassId) (h0 : Nat) (pr : Nat) (ta : Nat) (mo : Nat) (tr : Nat) (po : Nat) (gr : Nat) (fo : Nat) (so : Nat) (g : Nat → Value) (gp : Nat → Value) (gt : Nat → Value) (gm : Nat → Value) (gf : Nat → Value) (fs : Nat → Int32) (g_1 : g 1 = .int 0) (g_4 : g 4 = .ref pr) (g_6 : g 6 = .ref mo) (g_8 : g 8 = .ref ta) (gp_0 : gp 0 = .int 0) (gp_1 : gp 1 = .int 0) (gp_2 : gp 2 = .int 0) (gt_0 : gt 0 = .int 0) (gt_1 : gt 1 = .int 0) (gt_2 : gt 2 = .int 0) (gm_0 : gm 0 = .int 0) (gm_2 : gm 2 = .ref tr) (gm_3 : gm 3 = .ref po) (gm_4 : gm 4 = .ref so) (gm_5 : gm 5 = .ref gr) (gm_6 : gm 6 = .ref fo)  : cM l D Y yX9_told cX9_told 2 (some .int) 4 0 0 [.ref h0, .int 0] [(h0, .inr (8, fl 9 g)), (pr, .inr (3, fl 9 gp)), (ta, .inr (6, fl 14 gt)), (mo, .inr (2, fl 7 gm)), (tr, .inl (Y 1, 10, .inr (.inl (fun _ => 0)))), (po, .inl (Y 1, 10, .inr (.inl (fun _ => 0)))), (gr, .inl (Y 1, 10, .inr (.inl (fun _ => 0)))), (fo, .inr (1, fl 7 gf)), (so, .inl (Y 0, 640, .inl fs))] (qI D (fun (r : Int32) (u : Unit) => r = 0) (fun (u : Unit) => [])) := by
  refine cM.mk RX9 rfl (by decide) (Nat.le_of_ble_eq_true rfl) ?_
  intro p e s m below meth c A F hr hlocks hin hK hZ hP hD hA hS ls hl
  have hx := F.1
  have hb := F.2.1
  have hl : lv_has ls 2 [(0, .ref h0), (1, .int 0)] := hl
  refine lv_aload_n hx hb dX9_told_0 rfl (lv_at hl 0 rfl) ?_
  refine lv_iload_n hx hb dX9_told_1 rfl (lv_at hl 1 rfl) ?_
  refine lv_bipush (v := 11) hx hb dX9_told_2 (by decide) ?_
  refine goV (wr := [(pr, .inr (3, fl 9 gp)), (ta, .inr (6, fl 14 gt)), (mo, .inr (2, fl 7 gm)), (tr, .inl (Y 1, 10, .inr (.inl (fun _ => 0)))), (po, .inl (Y 1, 10, .inr (.inl (fun _ => 0)))), (gr, .inl (Y 1, 10, .inr (.inl (fun _ => 0)))), (fo, .inr (1, fl 7 gf)), (so, .inl (Y 0, 640, .inl fs))]) (runV (n := 2) (As := [.int 0, .int 11]) (rest := []) (C := RX9) (T := TX9) (N := 9) (ci := 8) F hK hZ hP hD hS hA (c_needWok l D Y h0 0 11 g  (by decide) (by decide)) 0 rfl rfl [0] rfl rfl m_156 m_157 m_158 m_6 m_155 (by decide +kernel) rfl ⟨Nat.le_of_ble_eq_true rfl, Nat.le_of_ble_eq_true rfl⟩ hl.1 rfl (Nat.le_of_ble_eq_true rfl) dX9_told_4 ⟨Nat.le_of_ble_eq_true rfl, Nat.le_of_ble_eq_true rfl⟩) hP hD hS hA [0] [1, 2, 3, 4, 5, 6, 7, 8] rfl rfl rfl (by decide) (fun u H locs hw hP hD hS => ?_)
  have hP : va_P D vwCl [(pr, .inr (3, fl 9 gp)), (ta, .inr (6, fl 14 gt)), (mo, .inr (2, fl 7 gm)), (tr, .inl (Y 1, 10, .inr (.inl (fun _ => 0)))), (po, .inl (Y 1, 10, .inr (.inl (fun _ => 0)))), (gr, .inl (Y 1, 10, .inr (.inl (fun _ => 0)))), (fo, .inr (1, fl 7 gf)), (so, .inl (Y 0, 640, .inl fs)), (h0, .inr (8, fl 9 g))] H := hP
  have hD : va_D A [(pr, .inr (3, fl 9 gp)), (ta, .inr (6, fl 14 gt)), (mo, .inr (2, fl 7 gm)), (tr, .inl (Y 1, 10, .inr (.inl (fun _ => 0)))), (po, .inl (Y 1, 10, .inr (.inl (fun _ => 0)))), (gr, .inl (Y 1, 10, .inr (.inl (fun _ => 0)))), (fo, .inr (1, fl 7 gf)), (so, .inl (Y 0, 640, .inl fs)), (h0, .inr (8, fl 9 g))] := hD
  refine W.widen (k := 0) (n := 0) (Nat.le_of_ble_eq_true rfl) (Nat.le_of_ble_eq_true rfl) ?_
  refine lv_iload_n hx hb dX9_told_7 rfl (lv_at hl 1 rfl) ?_
  refine lv_bipush (v := 8) hx hb dX9_told_8 (by decide) ?_
  refine lv_icmp_lt (tgt := 30) hx hb dX9_told_10 (by decide) (fun _ => ?_) (fun c9 => absurd (by decide) c9)
  refine lv_iload_n hx hb dX9_told_30 rfl (lv_at hl 1 rfl) ?_
  refine lv_tableIn (off := 57) (tgt := 88) hx hb dX9_told_31 (by decide) (by decide) (by decide) (by decide) ?_
  refine lv_aload_n hx hb dX9_told_88 rfl (lv_at hl 0 rfl) ?_
  refine gF (C := RX9) (T := TX9) (ci := 8) (v := .ref pr) F hK hP 8 rfl rfl iwX9 4 (by decide) m_20 (fun _ h => h) g_4 dX9_told_89 ?_
  refine gF (C := RX3) (T := TX3) (ci := 3) (v := .int 0) F hK hP 0 rfl rfl iwX3 0 (by decide) m_21 (fun _ h => h) gp_0 dX9_told_92 ?_
  exact retI F hr hlocks rfl hP hD hS () [] rfl rfl (Nat.le_of_ble_eq_true rfl) (Nat.le_of_ble_eq_true rfl) dX9_told_95 rfl
set_option maxRecDepth 100000 in
set_option maxHeartbeats 4000000 in
theorem c_told_1 (l : Launch) (D : va_G) (Y : Nat → ClassId) (h0 : Nat) (pr : Nat) (ta : Nat) (mo : Nat) (tr : Nat) (po : Nat) (gr : Nat) (fo : Nat) (so : Nat) (g : Nat → Value) (gp : Nat → Value) (gt : Nat → Value) (gm : Nat → Value) (gf : Nat → Value) (fs : Nat → Int32) (g_1 : g 1 = .int 0) (g_4 : g 4 = .ref pr) (g_6 : g 6 = .ref mo) (g_8 : g 8 = .ref ta) (gp_0 : gp 0 = .int 0) (gp_1 : gp 1 = .int 0) (gp_2 : gp 2 = .int 0) (gt_0 : gt 0 = .int 0) (gt_1 : gt 1 = .int 0) (gt_2 : gt 2 = .int 0) (gm_0 : gm 0 = .int 0) (gm_2 : gm 2 = .ref tr) (gm_3 : gm 3 = .ref po) (gm_4 : gm 4 = .ref so) (gm_5 : gm 5 = .ref gr) (gm_6 : gm 6 = .ref fo)  : cM l D Y yX9_told cX9_told 2 (some .int) 4 0 0 [.ref h0, .int 1] [(h0, .inr (8, fl 9 g)), (pr, .inr (3, fl 9 gp)), (ta, .inr (6, fl 14 gt)), (mo, .inr (2, fl 7 gm)), (tr, .inl (Y 1, 10, .inr (.inl (fun _ => 0)))), (po, .inl (Y 1, 10, .inr (.inl (fun _ => 0)))), (gr, .inl (Y 1, 10, .inr (.inl (fun _ => 0)))), (fo, .inr (1, fl 7 gf)), (so, .inl (Y 0, 640, .inl fs))] (qI D (fun (r : Int32) (u : Unit) => r = 0) (fun (u : Unit) => [])) := by
  refine cM.mk RX9 rfl (by decide) (Nat.le_of_ble_eq_true rfl) ?_
  intro p e s m below meth c A F hr hlocks hin hK hZ hP hD hA hS ls hl
  have hx := F.1
  have hb := F.2.1
  have hl : lv_has ls 2 [(0, .ref h0), (1, .int 1)] := hl
  refine lv_aload_n hx hb dX9_told_0 rfl (lv_at hl 0 rfl) ?_
  refine lv_iload_n hx hb dX9_told_1 rfl (lv_at hl 1 rfl) ?_
  refine lv_bipush (v := 11) hx hb dX9_told_2 (by decide) ?_
  refine goV (wr := [(pr, .inr (3, fl 9 gp)), (ta, .inr (6, fl 14 gt)), (mo, .inr (2, fl 7 gm)), (tr, .inl (Y 1, 10, .inr (.inl (fun _ => 0)))), (po, .inl (Y 1, 10, .inr (.inl (fun _ => 0)))), (gr, .inl (Y 1, 10, .inr (.inl (fun _ => 0)))), (fo, .inr (1, fl 7 gf)), (so, .inl (Y 0, 640, .inl fs))]) (runV (n := 2) (As := [.int 1, .int 11]) (rest := []) (C := RX9) (T := TX9) (N := 9) (ci := 8) F hK hZ hP hD hS hA (c_needWok l D Y h0 1 11 g  (by decide) (by decide)) 0 rfl rfl [0] rfl rfl m_156 m_157 m_158 m_6 m_155 (by decide +kernel) rfl ⟨Nat.le_of_ble_eq_true rfl, Nat.le_of_ble_eq_true rfl⟩ hl.1 rfl (Nat.le_of_ble_eq_true rfl) dX9_told_4 ⟨Nat.le_of_ble_eq_true rfl, Nat.le_of_ble_eq_true rfl⟩) hP hD hS hA [0] [1, 2, 3, 4, 5, 6, 7, 8] rfl rfl rfl (by decide) (fun u H locs hw hP hD hS => ?_)
  have hP : va_P D vwCl [(pr, .inr (3, fl 9 gp)), (ta, .inr (6, fl 14 gt)), (mo, .inr (2, fl 7 gm)), (tr, .inl (Y 1, 10, .inr (.inl (fun _ => 0)))), (po, .inl (Y 1, 10, .inr (.inl (fun _ => 0)))), (gr, .inl (Y 1, 10, .inr (.inl (fun _ => 0)))), (fo, .inr (1, fl 7 gf)), (so, .inl (Y 0, 640, .inl fs)), (h0, .inr (8, fl 9 g))] H := hP
  have hD : va_D A [(pr, .inr (3, fl 9 gp)), (ta, .inr (6, fl 14 gt)), (mo, .inr (2, fl 7 gm)), (tr, .inl (Y 1, 10, .inr (.inl (fun _ => 0)))), (po, .inl (Y 1, 10, .inr (.inl (fun _ => 0)))), (gr, .inl (Y 1, 10, .inr (.inl (fun _ => 0)))), (fo, .inr (1, fl 7 gf)), (so, .inl (Y 0, 640, .inl fs)), (h0, .inr (8, fl 9 g))] := hD
  refine W.widen (k := 0) (n := 0) (Nat.le_of_ble_eq_true rfl) (Nat.le_of_ble_eq_true rfl) ?_
  refine lv_iload_n hx hb dX9_told_7 rfl (lv_at hl 1 rfl) ?_
  refine lv_bipush (v := 8) hx hb dX9_told_8 (by decide) ?_
  refine lv_icmp_lt (tgt := 30) hx hb dX9_told_10 (by decide) (fun _ => ?_) (fun c9 => absurd (by decide) c9)
  refine lv_iload_n hx hb dX9_told_30 rfl (lv_at hl 1 rfl) ?_
  refine lv_tableIn (off := 65) (tgt := 96) hx hb dX9_told_31 (by decide) (by decide) (by decide) (by decide) ?_
  refine lv_aload_n hx hb dX9_told_96 rfl (lv_at hl 0 rfl) ?_
  refine gF (C := RX9) (T := TX9) (ci := 8) (v := .ref pr) F hK hP 8 rfl rfl iwX9 4 (by decide) m_20 (fun _ h => h) g_4 dX9_told_97 ?_
  refine gF (C := RX3) (T := TX3) (ci := 3) (v := .int 0) F hK hP 0 rfl rfl iwX3 1 (by decide) m_26 (fun _ h => h) gp_1 dX9_told_100 ?_
  exact retI F hr hlocks rfl hP hD hS () [] rfl rfl (Nat.le_of_ble_eq_true rfl) (Nat.le_of_ble_eq_true rfl) dX9_told_103 rfl
set_option maxRecDepth 100000 in
set_option maxHeartbeats 4000000 in
theorem c_told_2 (l : Launch) (D : va_G) (Y : Nat → ClassId) (h0 : Nat) (pr : Nat) (ta : Nat) (mo : Nat) (tr : Nat) (po : Nat) (gr : Nat) (fo : Nat) (so : Nat) (g : Nat → Value) (gp : Nat → Value) (gt : Nat → Value) (gm : Nat → Value) (gf : Nat → Value) (fs : Nat → Int32) (g_1 : g 1 = .int 0) (g_4 : g 4 = .ref pr) (g_6 : g 6 = .ref mo) (g_8 : g 8 = .ref ta) (gp_0 : gp 0 = .int 0) (gp_1 : gp 1 = .int 0) (gp_2 : gp 2 = .int 0) (gt_0 : gt 0 = .int 0) (gt_1 : gt 1 = .int 0) (gt_2 : gt 2 = .int 0) (gm_0 : gm 0 = .int 0) (gm_2 : gm 2 = .ref tr) (gm_3 : gm 3 = .ref po) (gm_4 : gm 4 = .ref so) (gm_5 : gm 5 = .ref gr) (gm_6 : gm 6 = .ref fo)  : cM l D Y yX9_told cX9_told 2 (some .int) 4 0 0 [.ref h0, .int 2] [(h0, .inr (8, fl 9 g)), (pr, .inr (3, fl 9 gp)), (ta, .inr (6, fl 14 gt)), (mo, .inr (2, fl 7 gm)), (tr, .inl (Y 1, 10, .inr (.inl (fun _ => 0)))), (po, .inl (Y 1, 10, .inr (.inl (fun _ => 0)))), (gr, .inl (Y 1, 10, .inr (.inl (fun _ => 0)))), (fo, .inr (1, fl 7 gf)), (so, .inl (Y 0, 640, .inl fs))] (qI D (fun (r : Int32) (u : Unit) => r = 0) (fun (u : Unit) => [])) := by
  refine cM.mk RX9 rfl (by decide) (Nat.le_of_ble_eq_true rfl) ?_
  intro p e s m below meth c A F hr hlocks hin hK hZ hP hD hA hS ls hl
  have hx := F.1
  have hb := F.2.1
  have hl : lv_has ls 2 [(0, .ref h0), (1, .int 2)] := hl
  refine lv_aload_n hx hb dX9_told_0 rfl (lv_at hl 0 rfl) ?_
  refine lv_iload_n hx hb dX9_told_1 rfl (lv_at hl 1 rfl) ?_
  refine lv_bipush (v := 11) hx hb dX9_told_2 (by decide) ?_
  refine goV (wr := [(pr, .inr (3, fl 9 gp)), (ta, .inr (6, fl 14 gt)), (mo, .inr (2, fl 7 gm)), (tr, .inl (Y 1, 10, .inr (.inl (fun _ => 0)))), (po, .inl (Y 1, 10, .inr (.inl (fun _ => 0)))), (gr, .inl (Y 1, 10, .inr (.inl (fun _ => 0)))), (fo, .inr (1, fl 7 gf)), (so, .inl (Y 0, 640, .inl fs))]) (runV (n := 2) (As := [.int 2, .int 11]) (rest := []) (C := RX9) (T := TX9) (N := 9) (ci := 8) F hK hZ hP hD hS hA (c_needWok l D Y h0 2 11 g  (by decide) (by decide)) 0 rfl rfl [0] rfl rfl m_156 m_157 m_158 m_6 m_155 (by decide +kernel) rfl ⟨Nat.le_of_ble_eq_true rfl, Nat.le_of_ble_eq_true rfl⟩ hl.1 rfl (Nat.le_of_ble_eq_true rfl) dX9_told_4 ⟨Nat.le_of_ble_eq_true rfl, Nat.le_of_ble_eq_true rfl⟩) hP hD hS hA [0] [1, 2, 3, 4, 5, 6, 7, 8] rfl rfl rfl (by decide) (fun u H locs hw hP hD hS => ?_)
  have hP : va_P D vwCl [(pr, .inr (3, fl 9 gp)), (ta, .inr (6, fl 14 gt)), (mo, .inr (2, fl 7 gm)), (tr, .inl (Y 1, 10, .inr (.inl (fun _ => 0)))), (po, .inl (Y 1, 10, .inr (.inl (fun _ => 0)))), (gr, .inl (Y 1, 10, .inr (.inl (fun _ => 0)))), (fo, .inr (1, fl 7 gf)), (so, .inl (Y 0, 640, .inl fs)), (h0, .inr (8, fl 9 g))] H := hP
  have hD : va_D A [(pr, .inr (3, fl 9 gp)), (ta, .inr (6, fl 14 gt)), (mo, .inr (2, fl 7 gm)), (tr, .inl (Y 1, 10, .inr (.inl (fun _ => 0)))), (po, .inl (Y 1, 10, .inr (.inl (fun _ => 0)))), (gr, .inl (Y 1, 10, .inr (.inl (fun _ => 0)))), (fo, .inr (1, fl 7 gf)), (so, .inl (Y 0, 640, .inl fs)), (h0, .inr (8, fl 9 g))] := hD
  refine W.widen (k := 0) (n := 0) (Nat.le_of_ble_eq_true rfl) (Nat.le_of_ble_eq_true rfl) ?_
  refine lv_iload_n hx hb dX9_told_7 rfl (lv_at hl 1 rfl) ?_
  refine lv_bipush (v := 8) hx hb dX9_told_8 (by decide) ?_
  refine lv_icmp_lt (tgt := 30) hx hb dX9_told_10 (by decide) (fun _ => ?_) (fun c9 => absurd (by decide) c9)
  refine lv_iload_n hx hb dX9_told_30 rfl (lv_at hl 1 rfl) ?_
  refine lv_tableIn (off := 73) (tgt := 104) hx hb dX9_told_31 (by decide) (by decide) (by decide) (by decide) ?_
  refine lv_aload_n hx hb dX9_told_104 rfl (lv_at hl 0 rfl) ?_
  refine gF (C := RX9) (T := TX9) (ci := 8) (v := .ref pr) F hK hP 8 rfl rfl iwX9 4 (by decide) m_20 (fun _ h => h) g_4 dX9_told_105 ?_
  refine gF (C := RX3) (T := TX3) (ci := 3) (v := .int 0) F hK hP 0 rfl rfl iwX3 2 (by decide) m_39 (fun _ h => h) gp_2 dX9_told_108 ?_
  exact retI F hr hlocks rfl hP hD hS () [] rfl rfl (Nat.le_of_ble_eq_true rfl) (Nat.le_of_ble_eq_true rfl) dX9_told_111 rfl
set_option maxRecDepth 100000 in
set_option maxHeartbeats 4000000 in
theorem c_told_3 (l : Launch) (D : va_G) (Y : Nat → ClassId) (h0 : Nat) (pr : Nat) (ta : Nat) (mo : Nat) (tr : Nat) (po : Nat) (gr : Nat) (fo : Nat) (so : Nat) (g : Nat → Value) (gp : Nat → Value) (gt : Nat → Value) (gm : Nat → Value) (gf : Nat → Value) (fs : Nat → Int32) (g_1 : g 1 = .int 0) (g_4 : g 4 = .ref pr) (g_6 : g 6 = .ref mo) (g_8 : g 8 = .ref ta) (gp_0 : gp 0 = .int 0) (gp_1 : gp 1 = .int 0) (gp_2 : gp 2 = .int 0) (gt_0 : gt 0 = .int 0) (gt_1 : gt 1 = .int 0) (gt_2 : gt 2 = .int 0) (gm_0 : gm 0 = .int 0) (gm_2 : gm 2 = .ref tr) (gm_3 : gm 3 = .ref po) (gm_4 : gm 4 = .ref so) (gm_5 : gm 5 = .ref gr) (gm_6 : gm 6 = .ref fo)  : cM l D Y yX9_told cX9_told 2 (some .int) 4 0 0 [.ref h0, .int 3] [(h0, .inr (8, fl 9 g)), (pr, .inr (3, fl 9 gp)), (ta, .inr (6, fl 14 gt)), (mo, .inr (2, fl 7 gm)), (tr, .inl (Y 1, 10, .inr (.inl (fun _ => 0)))), (po, .inl (Y 1, 10, .inr (.inl (fun _ => 0)))), (gr, .inl (Y 1, 10, .inr (.inl (fun _ => 0)))), (fo, .inr (1, fl 7 gf)), (so, .inl (Y 0, 640, .inl fs))] (qI D (fun (r : Int32) (u : Unit) => r = 0) (fun (u : Unit) => [])) := by
  refine cM.mk RX9 rfl (by decide) (Nat.le_of_ble_eq_true rfl) ?_
  intro p e s m below meth c A F hr hlocks hin hK hZ hP hD hA hS ls hl
  have hx := F.1
  have hb := F.2.1
  have hl : lv_has ls 2 [(0, .ref h0), (1, .int 3)] := hl
  refine lv_aload_n hx hb dX9_told_0 rfl (lv_at hl 0 rfl) ?_
  refine lv_iload_n hx hb dX9_told_1 rfl (lv_at hl 1 rfl) ?_
  refine lv_bipush (v := 11) hx hb dX9_told_2 (by decide) ?_
  refine goV (wr := [(pr, .inr (3, fl 9 gp)), (ta, .inr (6, fl 14 gt)), (mo, .inr (2, fl 7 gm)), (tr, .inl (Y 1, 10, .inr (.inl (fun _ => 0)))), (po, .inl (Y 1, 10, .inr (.inl (fun _ => 0)))), (gr, .inl (Y 1, 10, .inr (.inl (fun _ => 0)))), (fo, .inr (1, fl 7 gf)), (so, .inl (Y 0, 640, .inl fs))]) (runV (n := 2) (As := [.int 3, .int 11]) (rest := []) (C := RX9) (T := TX9) (N := 9) (ci := 8) F hK hZ hP hD hS hA (c_needWok l D Y h0 3 11 g  (by decide) (by decide)) 0 rfl rfl [0] rfl rfl m_156 m_157 m_158 m_6 m_155 (by decide +kernel) rfl ⟨Nat.le_of_ble_eq_true rfl, Nat.le_of_ble_eq_true rfl⟩ hl.1 rfl (Nat.le_of_ble_eq_true rfl) dX9_told_4 ⟨Nat.le_of_ble_eq_true rfl, Nat.le_of_ble_eq_true rfl⟩) hP hD hS hA [0] [1, 2, 3, 4, 5, 6, 7, 8] rfl rfl rfl (by decide) (fun u H locs hw hP hD hS => ?_)
  have hP : va_P D vwCl [(pr, .inr (3, fl 9 gp)), (ta, .inr (6, fl 14 gt)), (mo, .inr (2, fl 7 gm)), (tr, .inl (Y 1, 10, .inr (.inl (fun _ => 0)))), (po, .inl (Y 1, 10, .inr (.inl (fun _ => 0)))), (gr, .inl (Y 1, 10, .inr (.inl (fun _ => 0)))), (fo, .inr (1, fl 7 gf)), (so, .inl (Y 0, 640, .inl fs)), (h0, .inr (8, fl 9 g))] H := hP
  have hD : va_D A [(pr, .inr (3, fl 9 gp)), (ta, .inr (6, fl 14 gt)), (mo, .inr (2, fl 7 gm)), (tr, .inl (Y 1, 10, .inr (.inl (fun _ => 0)))), (po, .inl (Y 1, 10, .inr (.inl (fun _ => 0)))), (gr, .inl (Y 1, 10, .inr (.inl (fun _ => 0)))), (fo, .inr (1, fl 7 gf)), (so, .inl (Y 0, 640, .inl fs)), (h0, .inr (8, fl 9 g))] := hD
  refine W.widen (k := 0) (n := 0) (Nat.le_of_ble_eq_true rfl) (Nat.le_of_ble_eq_true rfl) ?_
  refine lv_iload_n hx hb dX9_told_7 rfl (lv_at hl 1 rfl) ?_
  refine lv_bipush (v := 8) hx hb dX9_told_8 (by decide) ?_
  refine lv_icmp_lt (tgt := 30) hx hb dX9_told_10 (by decide) (fun _ => ?_) (fun c9 => absurd (by decide) c9)
  refine lv_iload_n hx hb dX9_told_30 rfl (lv_at hl 1 rfl) ?_
  refine lv_tableIn (off := 81) (tgt := 112) hx hb dX9_told_31 (by decide) (by decide) (by decide) (by decide) ?_
  refine lv_aload_n hx hb dX9_told_112 rfl (lv_at hl 0 rfl) ?_
  refine gF (C := RX9) (T := TX9) (ci := 8) (v := .ref pr) F hK hP 8 rfl rfl iwX9 4 (by decide) m_20 (fun _ h => h) g_4 dX9_told_113 ?_
  refine goI (wr := [(ta, .inr (6, fl 14 gt)), (mo, .inr (2, fl 7 gm)), (tr, .inl (Y 1, 10, .inr (.inl (fun _ => 0)))), (po, .inl (Y 1, 10, .inr (.inl (fun _ => 0)))), (gr, .inl (Y 1, 10, .inr (.inl (fun _ => 0)))), (fo, .inr (1, fl 7 gf)), (so, .inl (Y 0, 640, .inl fs)), (h0, .inr (8, fl 9 g))]) (runV (n := 0) (As := []) (rest := []) (C := RX3) (T := TX3) (N := 9) (ci := 3) F hK hZ hP hD hS hA (c_facts l D Y pr gp gp_2 ) 0 rfl rfl [0] rfl rfl m_160 m_161 m_162 m_126 m_159 (by decide +kernel) rfl ⟨Nat.le_of_ble_eq_true rfl, Nat.le_of_ble_eq_true rfl⟩ hl.1 rfl (Nat.le_of_ble_eq_true rfl) dX9_told_116 ⟨Nat.le_of_ble_eq_true rfl, Nat.le_of_ble_eq_true rfl⟩) hP hD hS hA [0] [1, 2, 3, 4, 5, 6, 7, 8] rfl rfl rfl (by decide) (fun r_2 u H locs hw hP hD hS => ?_)
  have hrr := hw
  have hP : va_P D vwCl [(ta, .inr (6, fl 14 gt)), (mo, .inr (2, fl 7 gm)), (tr, .inl (Y 1, 10, .inr (.inl (fun _ => 0)))), (po, .inl (Y 1, 10, .inr (.inl (fun _ => 0)))), (gr, .inl (Y 1, 10, .inr (.inl (fun _ => 0)))), (fo, .inr (1, fl 7 gf)), (so, .inl (Y 0, 640, .inl fs)), (h0, .inr (8, fl 9 g))] H := hP
  have hD : va_D A [(ta, .inr (6, fl 14 gt)), (mo, .inr (2, fl 7 gm)), (tr, .inl (Y 1, 10, .inr (.inl (fun _ => 0)))), (po, .inl (Y 1, 10, .inr (.inl (fun _ => 0)))), (gr, .inl (Y 1, 10, .inr (.inl (fun _ => 0)))), (fo, .inr (1, fl 7 gf)), (so, .inl (Y 0, 640, .inl fs)), (h0, .inr (8, fl 9 g))] := hD
  subst hrr
  refine W.widen (k := 0) (n := 0) (Nat.le_of_ble_eq_true rfl) (Nat.le_of_ble_eq_true rfl) ?_
  exact retI F hr hlocks rfl hP hD hS () [] rfl rfl (Nat.le_of_ble_eq_true rfl) (Nat.le_of_ble_eq_true rfl) dX9_told_119 rfl
set_option maxRecDepth 100000 in
set_option maxHeartbeats 4000000 in
theorem c_told_4 (l : Launch) (D : va_G) (Y : Nat → ClassId) (h0 : Nat) (pr : Nat) (ta : Nat) (mo : Nat) (tr : Nat) (po : Nat) (gr : Nat) (fo : Nat) (so : Nat) (g : Nat → Value) (gp : Nat → Value) (gt : Nat → Value) (gm : Nat → Value) (gf : Nat → Value) (fs : Nat → Int32) (g_1 : g 1 = .int 0) (g_4 : g 4 = .ref pr) (g_6 : g 6 = .ref mo) (g_8 : g 8 = .ref ta) (gp_0 : gp 0 = .int 0) (gp_1 : gp 1 = .int 0) (gp_2 : gp 2 = .int 0) (gt_0 : gt 0 = .int 0) (gt_1 : gt 1 = .int 0) (gt_2 : gt 2 = .int 0) (gm_0 : gm 0 = .int 0) (gm_2 : gm 2 = .ref tr) (gm_3 : gm 3 = .ref po) (gm_4 : gm 4 = .ref so) (gm_5 : gm 5 = .ref gr) (gm_6 : gm 6 = .ref fo)  : cM l D Y yX9_told cX9_told 2 (some .int) 4 0 0 [.ref h0, .int 4] [(h0, .inr (8, fl 9 g)), (pr, .inr (3, fl 9 gp)), (ta, .inr (6, fl 14 gt)), (mo, .inr (2, fl 7 gm)), (tr, .inl (Y 1, 10, .inr (.inl (fun _ => 0)))), (po, .inl (Y 1, 10, .inr (.inl (fun _ => 0)))), (gr, .inl (Y 1, 10, .inr (.inl (fun _ => 0)))), (fo, .inr (1, fl 7 gf)), (so, .inl (Y 0, 640, .inl fs))] (qI D (fun (r : Int32) (u : Unit) => r = 0) (fun (u : Unit) => [])) := by
  refine cM.mk RX9 rfl (by decide) (Nat.le_of_ble_eq_true rfl) ?_
  intro p e s m below meth c A F hr hlocks hin hK hZ hP hD hA hS ls hl
  have hx := F.1
  have hb := F.2.1
  have hl : lv_has ls 2 [(0, .ref h0), (1, .int 4)] := hl
  refine lv_aload_n hx hb dX9_told_0 rfl (lv_at hl 0 rfl) ?_
  refine lv_iload_n hx hb dX9_told_1 rfl (lv_at hl 1 rfl) ?_
  refine lv_bipush (v := 11) hx hb dX9_told_2 (by decide) ?_
  refine goV (wr := [(pr, .inr (3, fl 9 gp)), (ta, .inr (6, fl 14 gt)), (mo, .inr (2, fl 7 gm)), (tr, .inl (Y 1, 10, .inr (.inl (fun _ => 0)))), (po, .inl (Y 1, 10, .inr (.inl (fun _ => 0)))), (gr, .inl (Y 1, 10, .inr (.inl (fun _ => 0)))), (fo, .inr (1, fl 7 gf)), (so, .inl (Y 0, 640, .inl fs))]) (runV (n := 2) (As := [.int 4, .int 11]) (rest := []) (C := RX9) (T := TX9) (N := 9) (ci := 8) F hK hZ hP hD hS hA (c_needWok l D Y h0 4 11 g  (by decide) (by decide)) 0 rfl rfl [0] rfl rfl m_156 m_157 m_158 m_6 m_155 (by decide +kernel) rfl ⟨Nat.le_of_ble_eq_true rfl, Nat.le_of_ble_eq_true rfl⟩ hl.1 rfl (Nat.le_of_ble_eq_true rfl) dX9_told_4 ⟨Nat.le_of_ble_eq_true rfl, Nat.le_of_ble_eq_true rfl⟩) hP hD hS hA [0] [1, 2, 3, 4, 5, 6, 7, 8] rfl rfl rfl (by decide) (fun u H locs hw hP hD hS => ?_)
  have hP : va_P D vwCl [(pr, .inr (3, fl 9 gp)), (ta, .inr (6, fl 14 gt)), (mo, .inr (2, fl 7 gm)), (tr, .inl (Y 1, 10, .inr (.inl (fun _ => 0)))), (po, .inl (Y 1, 10, .inr (.inl (fun _ => 0)))), (gr, .inl (Y 1, 10, .inr (.inl (fun _ => 0)))), (fo, .inr (1, fl 7 gf)), (so, .inl (Y 0, 640, .inl fs)), (h0, .inr (8, fl 9 g))] H := hP
  have hD : va_D A [(pr, .inr (3, fl 9 gp)), (ta, .inr (6, fl 14 gt)), (mo, .inr (2, fl 7 gm)), (tr, .inl (Y 1, 10, .inr (.inl (fun _ => 0)))), (po, .inl (Y 1, 10, .inr (.inl (fun _ => 0)))), (gr, .inl (Y 1, 10, .inr (.inl (fun _ => 0)))), (fo, .inr (1, fl 7 gf)), (so, .inl (Y 0, 640, .inl fs)), (h0, .inr (8, fl 9 g))] := hD
  refine W.widen (k := 0) (n := 0) (Nat.le_of_ble_eq_true rfl) (Nat.le_of_ble_eq_true rfl) ?_
  refine lv_iload_n hx hb dX9_told_7 rfl (lv_at hl 1 rfl) ?_
  refine lv_bipush (v := 8) hx hb dX9_told_8 (by decide) ?_
  refine lv_icmp_lt (tgt := 30) hx hb dX9_told_10 (by decide) (fun _ => ?_) (fun c9 => absurd (by decide) c9)
  refine lv_iload_n hx hb dX9_told_30 rfl (lv_at hl 1 rfl) ?_
  refine lv_tableIn (off := 89) (tgt := 120) hx hb dX9_told_31 (by decide) (by decide) (by decide) (by decide) ?_
  refine lv_aload_n hx hb dX9_told_120 rfl (lv_at hl 0 rfl) ?_
  refine gF (C := RX9) (T := TX9) (ci := 8) (v := .ref ta) F hK hP 8 rfl rfl iwX9 8 (by decide) m_148 (fun _ h => h) g_8 dX9_told_121 ?_
  refine gF (C := RX6) (T := TX6) (ci := 6) (v := .int 0) F hK hP 1 rfl rfl iwX6 0 (by decide) m_153 (fun _ h => h) gt_0 dX9_told_124 ?_
  exact retI F hr hlocks rfl hP hD hS () [] rfl rfl (Nat.le_of_ble_eq_true rfl) (Nat.le_of_ble_eq_true rfl) dX9_told_127 rfl
set_option maxRecDepth 100000 in
set_option maxHeartbeats 4000000 in
theorem c_told_5 (l : Launch) (D : va_G) (Y : Nat → ClassId) (h0 : Nat) (pr : Nat) (ta : Nat) (mo : Nat) (tr : Nat) (po : Nat) (gr : Nat) (fo : Nat) (so : Nat) (g : Nat → Value) (gp : Nat → Value) (gt : Nat → Value) (gm : Nat → Value) (gf : Nat → Value) (fs : Nat → Int32) (g_1 : g 1 = .int 0) (g_4 : g 4 = .ref pr) (g_6 : g 6 = .ref mo) (g_8 : g 8 = .ref ta) (gp_0 : gp 0 = .int 0) (gp_1 : gp 1 = .int 0) (gp_2 : gp 2 = .int 0) (gt_0 : gt 0 = .int 0) (gt_1 : gt 1 = .int 0) (gt_2 : gt 2 = .int 0) (gm_0 : gm 0 = .int 0) (gm_2 : gm 2 = .ref tr) (gm_3 : gm 3 = .ref po) (gm_4 : gm 4 = .ref so) (gm_5 : gm 5 = .ref gr) (gm_6 : gm 6 = .ref fo)  : cM l D Y yX9_told cX9_told 2 (some .int) 4 0 0 [.ref h0, .int 5] [(h0, .inr (8, fl 9 g)), (pr, .inr (3, fl 9 gp)), (ta, .inr (6, fl 14 gt)), (mo, .inr (2, fl 7 gm)), (tr, .inl (Y 1, 10, .inr (.inl (fun _ => 0)))), (po, .inl (Y 1, 10, .inr (.inl (fun _ => 0)))), (gr, .inl (Y 1, 10, .inr (.inl (fun _ => 0)))), (fo, .inr (1, fl 7 gf)), (so, .inl (Y 0, 640, .inl fs))] (qI D (fun (r : Int32) (u : Unit) => r = 0) (fun (u : Unit) => [])) := by
  refine cM.mk RX9 rfl (by decide) (Nat.le_of_ble_eq_true rfl) ?_
  intro p e s m below meth c A F hr hlocks hin hK hZ hP hD hA hS ls hl
  have hx := F.1
  have hb := F.2.1
  have hl : lv_has ls 2 [(0, .ref h0), (1, .int 5)] := hl
  refine lv_aload_n hx hb dX9_told_0 rfl (lv_at hl 0 rfl) ?_
  refine lv_iload_n hx hb dX9_told_1 rfl (lv_at hl 1 rfl) ?_
  refine lv_bipush (v := 11) hx hb dX9_told_2 (by decide) ?_
  refine goV (wr := [(pr, .inr (3, fl 9 gp)), (ta, .inr (6, fl 14 gt)), (mo, .inr (2, fl 7 gm)), (tr, .inl (Y 1, 10, .inr (.inl (fun _ => 0)))), (po, .inl (Y 1, 10, .inr (.inl (fun _ => 0)))), (gr, .inl (Y 1, 10, .inr (.inl (fun _ => 0)))), (fo, .inr (1, fl 7 gf)), (so, .inl (Y 0, 640, .inl fs))]) (runV (n := 2) (As := [.int 5, .int 11]) (rest := []) (C := RX9) (T := TX9) (N := 9) (ci := 8) F hK hZ hP hD hS hA (c_needWok l D Y h0 5 11 g  (by decide) (by decide)) 0 rfl rfl [0] rfl rfl m_156 m_157 m_158 m_6 m_155 (by decide +kernel) rfl ⟨Nat.le_of_ble_eq_true rfl, Nat.le_of_ble_eq_true rfl⟩ hl.1 rfl (Nat.le_of_ble_eq_true rfl) dX9_told_4 ⟨Nat.le_of_ble_eq_true rfl, Nat.le_of_ble_eq_true rfl⟩) hP hD hS hA [0] [1, 2, 3, 4, 5, 6, 7, 8] rfl rfl rfl (by decide) (fun u H locs hw hP hD hS => ?_)
  have hP : va_P D vwCl [(pr, .inr (3, fl 9 gp)), (ta, .inr (6, fl 14 gt)), (mo, .inr (2, fl 7 gm)), (tr, .inl (Y 1, 10, .inr (.inl (fun _ => 0)))), (po, .inl (Y 1, 10, .inr (.inl (fun _ => 0)))), (gr, .inl (Y 1, 10, .inr (.inl (fun _ => 0)))), (fo, .inr (1, fl 7 gf)), (so, .inl (Y 0, 640, .inl fs)), (h0, .inr (8, fl 9 g))] H := hP
  have hD : va_D A [(pr, .inr (3, fl 9 gp)), (ta, .inr (6, fl 14 gt)), (mo, .inr (2, fl 7 gm)), (tr, .inl (Y 1, 10, .inr (.inl (fun _ => 0)))), (po, .inl (Y 1, 10, .inr (.inl (fun _ => 0)))), (gr, .inl (Y 1, 10, .inr (.inl (fun _ => 0)))), (fo, .inr (1, fl 7 gf)), (so, .inl (Y 0, 640, .inl fs)), (h0, .inr (8, fl 9 g))] := hD
  refine W.widen (k := 0) (n := 0) (Nat.le_of_ble_eq_true rfl) (Nat.le_of_ble_eq_true rfl) ?_
  refine lv_iload_n hx hb dX9_told_7 rfl (lv_at hl 1 rfl) ?_
  refine lv_bipush (v := 8) hx hb dX9_told_8 (by decide) ?_
  refine lv_icmp_lt (tgt := 30) hx hb dX9_told_10 (by decide) (fun _ => ?_) (fun c9 => absurd (by decide) c9)
  refine lv_iload_n hx hb dX9_told_30 rfl (lv_at hl 1 rfl) ?_
  refine lv_tableIn (off := 97) (tgt := 128) hx hb dX9_told_31 (by decide) (by decide) (by decide) (by decide) ?_
  refine lv_aload_n hx hb dX9_told_128 rfl (lv_at hl 0 rfl) ?_
  refine gF (C := RX9) (T := TX9) (ci := 8) (v := .ref ta) F hK hP 8 rfl rfl iwX9 8 (by decide) m_148 (fun _ h => h) g_8 dX9_told_129 ?_
  refine goI (wr := [(pr, .inr (3, fl 9 gp)), (mo, .inr (2, fl 7 gm)), (tr, .inl (Y 1, 10, .inr (.inl (fun _ => 0)))), (po, .inl (Y 1, 10, .inr (.inl (fun _ => 0)))), (gr, .inl (Y 1, 10, .inr (.inl (fun _ => 0)))), (fo, .inr (1, fl 7 gf)), (so, .inl (Y 0, 640, .inl fs)), (h0, .inr (8, fl 9 g))]) (runV (n := 0) (As := []) (rest := []) (C := RX6) (T := TX6) (N := 14) (ci := 6) F hK hZ hP hD hS hA (c_freshO l D Y ta gt gt_0 ) 1 rfl rfl [1] rfl rfl m_164 m_165 m_166 m_102 m_163 (by decide +kernel) rfl ⟨Nat.le_of_ble_eq_true rfl, Nat.le_of_ble_eq_true rfl⟩ hl.1 rfl (Nat.le_of_ble_eq_true rfl) dX9_told_132 ⟨Nat.le_of_ble_eq_true rfl, Nat.le_of_ble_eq_true rfl⟩) hP hD hS hA [1] [0, 2, 3, 4, 5, 6, 7, 8] rfl rfl rfl (by decide) (fun r_2 u H locs hw hP hD hS => ?_)
  have hrr := hw
  have hP : va_P D vwCl [(pr, .inr (3, fl 9 gp)), (mo, .inr (2, fl 7 gm)), (tr, .inl (Y 1, 10, .inr (.inl (fun _ => 0)))), (po, .inl (Y 1, 10, .inr (.inl (fun _ => 0)))), (gr, .inl (Y 1, 10, .inr (.inl (fun _ => 0)))), (fo, .inr (1, fl 7 gf)), (so, .inl (Y 0, 640, .inl fs)), (h0, .inr (8, fl 9 g))] H := hP
  have hD : va_D A [(pr, .inr (3, fl 9 gp)), (mo, .inr (2, fl 7 gm)), (tr, .inl (Y 1, 10, .inr (.inl (fun _ => 0)))), (po, .inl (Y 1, 10, .inr (.inl (fun _ => 0)))), (gr, .inl (Y 1, 10, .inr (.inl (fun _ => 0)))), (fo, .inr (1, fl 7 gf)), (so, .inl (Y 0, 640, .inl fs)), (h0, .inr (8, fl 9 g))] := hD
  subst hrr
  refine W.widen (k := 0) (n := 0) (Nat.le_of_ble_eq_true rfl) (Nat.le_of_ble_eq_true rfl) ?_
  exact retI F hr hlocks rfl hP hD hS () [] rfl rfl (Nat.le_of_ble_eq_true rfl) (Nat.le_of_ble_eq_true rfl) dX9_told_135 rfl
set_option maxRecDepth 100000 in
set_option maxHeartbeats 4000000 in
theorem c_told_6 (l : Launch) (D : va_G) (Y : Nat → ClassId) (h0 : Nat) (pr : Nat) (ta : Nat) (mo : Nat) (tr : Nat) (po : Nat) (gr : Nat) (fo : Nat) (so : Nat) (g : Nat → Value) (gp : Nat → Value) (gt : Nat → Value) (gm : Nat → Value) (gf : Nat → Value) (fs : Nat → Int32) (g_1 : g 1 = .int 0) (g_4 : g 4 = .ref pr) (g_6 : g 6 = .ref mo) (g_8 : g 8 = .ref ta) (gp_0 : gp 0 = .int 0) (gp_1 : gp 1 = .int 0) (gp_2 : gp 2 = .int 0) (gt_0 : gt 0 = .int 0) (gt_1 : gt 1 = .int 0) (gt_2 : gt 2 = .int 0) (gm_0 : gm 0 = .int 0) (gm_2 : gm 2 = .ref tr) (gm_3 : gm 3 = .ref po) (gm_4 : gm 4 = .ref so) (gm_5 : gm 5 = .ref gr) (gm_6 : gm 6 = .ref fo)  : cM l D Y yX9_told cX9_told 2 (some .int) 4 0 0 [.ref h0, .int 6] [(h0, .inr (8, fl 9 g)), (pr, .inr (3, fl 9 gp)), (ta, .inr (6, fl 14 gt)), (mo, .inr (2, fl 7 gm)), (tr, .inl (Y 1, 10, .inr (.inl (fun _ => 0)))), (po, .inl (Y 1, 10, .inr (.inl (fun _ => 0)))), (gr, .inl (Y 1, 10, .inr (.inl (fun _ => 0)))), (fo, .inr (1, fl 7 gf)), (so, .inl (Y 0, 640, .inl fs))] (qI D (fun (r : Int32) (u : Unit) => r = 0) (fun (u : Unit) => [])) := by
  refine cM.mk RX9 rfl (by decide) (Nat.le_of_ble_eq_true rfl) ?_
  intro p e s m below meth c A F hr hlocks hin hK hZ hP hD hA hS ls hl
  have hx := F.1
  have hb := F.2.1
  have hl : lv_has ls 2 [(0, .ref h0), (1, .int 6)] := hl
  refine lv_aload_n hx hb dX9_told_0 rfl (lv_at hl 0 rfl) ?_
  refine lv_iload_n hx hb dX9_told_1 rfl (lv_at hl 1 rfl) ?_
  refine lv_bipush (v := 11) hx hb dX9_told_2 (by decide) ?_
  refine goV (wr := [(pr, .inr (3, fl 9 gp)), (ta, .inr (6, fl 14 gt)), (mo, .inr (2, fl 7 gm)), (tr, .inl (Y 1, 10, .inr (.inl (fun _ => 0)))), (po, .inl (Y 1, 10, .inr (.inl (fun _ => 0)))), (gr, .inl (Y 1, 10, .inr (.inl (fun _ => 0)))), (fo, .inr (1, fl 7 gf)), (so, .inl (Y 0, 640, .inl fs))]) (runV (n := 2) (As := [.int 6, .int 11]) (rest := []) (C := RX9) (T := TX9) (N := 9) (ci := 8) F hK hZ hP hD hS hA (c_needWok l D Y h0 6 11 g  (by decide) (by decide)) 0 rfl rfl [0] rfl rfl m_156 m_157 m_158 m_6 m_155 (by decide +kernel) rfl ⟨Nat.le_of_ble_eq_true rfl, Nat.le_of_ble_eq_true rfl⟩ hl.1 rfl (Nat.le_of_ble_eq_true rfl) dX9_told_4 ⟨Nat.le_of_ble_eq_true rfl, Nat.le_of_ble_eq_true rfl⟩) hP hD hS hA [0] [1, 2, 3, 4, 5, 6, 7, 8] rfl rfl rfl (by decide) (fun u H locs hw hP hD hS => ?_)
  have hP : va_P D vwCl [(pr, .inr (3, fl 9 gp)), (ta, .inr (6, fl 14 gt)), (mo, .inr (2, fl 7 gm)), (tr, .inl (Y 1, 10, .inr (.inl (fun _ => 0)))), (po, .inl (Y 1, 10, .inr (.inl (fun _ => 0)))), (gr, .inl (Y 1, 10, .inr (.inl (fun _ => 0)))), (fo, .inr (1, fl 7 gf)), (so, .inl (Y 0, 640, .inl fs)), (h0, .inr (8, fl 9 g))] H := hP
  have hD : va_D A [(pr, .inr (3, fl 9 gp)), (ta, .inr (6, fl 14 gt)), (mo, .inr (2, fl 7 gm)), (tr, .inl (Y 1, 10, .inr (.inl (fun _ => 0)))), (po, .inl (Y 1, 10, .inr (.inl (fun _ => 0)))), (gr, .inl (Y 1, 10, .inr (.inl (fun _ => 0)))), (fo, .inr (1, fl 7 gf)), (so, .inl (Y 0, 640, .inl fs)), (h0, .inr (8, fl 9 g))] := hD
  refine W.widen (k := 0) (n := 0) (Nat.le_of_ble_eq_true rfl) (Nat.le_of_ble_eq_true rfl) ?_
  refine lv_iload_n hx hb dX9_told_7 rfl (lv_at hl 1 rfl) ?_
  refine lv_bipush (v := 8) hx hb dX9_told_8 (by decide) ?_
  refine lv_icmp_lt (tgt := 30) hx hb dX9_told_10 (by decide) (fun _ => ?_) (fun c9 => absurd (by decide) c9)
  refine lv_iload_n hx hb dX9_told_30 rfl (lv_at hl 1 rfl) ?_
  refine lv_tableIn (off := 105) (tgt := 136) hx hb dX9_told_31 (by decide) (by decide) (by decide) (by decide) ?_
  refine lv_aload_n hx hb dX9_told_136 rfl (lv_at hl 0 rfl) ?_
  refine gF (C := RX9) (T := TX9) (ci := 8) (v := .ref ta) F hK hP 8 rfl rfl iwX9 8 (by decide) m_148 (fun _ h => h) g_8 dX9_told_137 ?_
  refine gF (C := RX6) (T := TX6) (ci := 6) (v := .int 0) F hK hP 1 rfl rfl iwX6 1 (by decide) m_167 (fun _ h => h) gt_1 dX9_told_140 ?_
  exact retI F hr hlocks rfl hP hD hS () [] rfl rfl (Nat.le_of_ble_eq_true rfl) (Nat.le_of_ble_eq_true rfl) dX9_told_143 rfl
set_option maxRecDepth 100000 in
set_option maxHeartbeats 4000000 in
theorem c_told_7 (l : Launch) (D : va_G) (Y : Nat → ClassId) (h0 : Nat) (pr : Nat) (ta : Nat) (mo : Nat) (tr : Nat) (po : Nat) (gr : Nat) (fo : Nat) (so : Nat) (g : Nat → Value) (gp : Nat → Value) (gt : Nat → Value) (gm : Nat → Value) (gf : Nat → Value) (fs : Nat → Int32) (g_1 : g 1 = .int 0) (g_4 : g 4 = .ref pr) (g_6 : g 6 = .ref mo) (g_8 : g 8 = .ref ta) (gp_0 : gp 0 = .int 0) (gp_1 : gp 1 = .int 0) (gp_2 : gp 2 = .int 0) (gt_0 : gt 0 = .int 0) (gt_1 : gt 1 = .int 0) (gt_2 : gt 2 = .int 0) (gm_0 : gm 0 = .int 0) (gm_2 : gm 2 = .ref tr) (gm_3 : gm 3 = .ref po) (gm_4 : gm 4 = .ref so) (gm_5 : gm 5 = .ref gr) (gm_6 : gm 6 = .ref fo)  : cM l D Y yX9_told cX9_told 2 (some .int) 4 0 0 [.ref h0, .int 7] [(h0, .inr (8, fl 9 g)), (pr, .inr (3, fl 9 gp)), (ta, .inr (6, fl 14 gt)), (mo, .inr (2, fl 7 gm)), (tr, .inl (Y 1, 10, .inr (.inl (fun _ => 0)))), (po, .inl (Y 1, 10, .inr (.inl (fun _ => 0)))), (gr, .inl (Y 1, 10, .inr (.inl (fun _ => 0)))), (fo, .inr (1, fl 7 gf)), (so, .inl (Y 0, 640, .inl fs))] (qI D (fun (r : Int32) (u : Unit) => r = 0) (fun (u : Unit) => [])) := by
  refine cM.mk RX9 rfl (by decide) (Nat.le_of_ble_eq_true rfl) ?_
  intro p e s m below meth c A F hr hlocks hin hK hZ hP hD hA hS ls hl
  have hx := F.1
  have hb := F.2.1
  have hl : lv_has ls 2 [(0, .ref h0), (1, .int 7)] := hl
  refine lv_aload_n hx hb dX9_told_0 rfl (lv_at hl 0 rfl) ?_
  refine lv_iload_n hx hb dX9_told_1 rfl (lv_at hl 1 rfl) ?_
  refine lv_bipush (v := 11) hx hb dX9_told_2 (by decide) ?_
  refine goV (wr := [(pr, .inr (3, fl 9 gp)), (ta, .inr (6, fl 14 gt)), (mo, .inr (2, fl 7 gm)), (tr, .inl (Y 1, 10, .inr (.inl (fun _ => 0)))), (po, .inl (Y 1, 10, .inr (.inl (fun _ => 0)))), (gr, .inl (Y 1, 10, .inr (.inl (fun _ => 0)))), (fo, .inr (1, fl 7 gf)), (so, .inl (Y 0, 640, .inl fs))]) (runV (n := 2) (As := [.int 7, .int 11]) (rest := []) (C := RX9) (T := TX9) (N := 9) (ci := 8) F hK hZ hP hD hS hA (c_needWok l D Y h0 7 11 g  (by decide) (by decide)) 0 rfl rfl [0] rfl rfl m_156 m_157 m_158 m_6 m_155 (by decide +kernel) rfl ⟨Nat.le_of_ble_eq_true rfl, Nat.le_of_ble_eq_true rfl⟩ hl.1 rfl (Nat.le_of_ble_eq_true rfl) dX9_told_4 ⟨Nat.le_of_ble_eq_true rfl, Nat.le_of_ble_eq_true rfl⟩) hP hD hS hA [0] [1, 2, 3, 4, 5, 6, 7, 8] rfl rfl rfl (by decide) (fun u H locs hw hP hD hS => ?_)
  have hP : va_P D vwCl [(pr, .inr (3, fl 9 gp)), (ta, .inr (6, fl 14 gt)), (mo, .inr (2, fl 7 gm)), (tr, .inl (Y 1, 10, .inr (.inl (fun _ => 0)))), (po, .inl (Y 1, 10, .inr (.inl (fun _ => 0)))), (gr, .inl (Y 1, 10, .inr (.inl (fun _ => 0)))), (fo, .inr (1, fl 7 gf)), (so, .inl (Y 0, 640, .inl fs)), (h0, .inr (8, fl 9 g))] H := hP
  have hD : va_D A [(pr, .inr (3, fl 9 gp)), (ta, .inr (6, fl 14 gt)), (mo, .inr (2, fl 7 gm)), (tr, .inl (Y 1, 10, .inr (.inl (fun _ => 0)))), (po, .inl (Y 1, 10, .inr (.inl (fun _ => 0)))), (gr, .inl (Y 1, 10, .inr (.inl (fun _ => 0)))), (fo, .inr (1, fl 7 gf)), (so, .inl (Y 0, 640, .inl fs)), (h0, .inr (8, fl 9 g))] := hD
  refine W.widen (k := 0) (n := 0) (Nat.le_of_ble_eq_true rfl) (Nat.le_of_ble_eq_true rfl) ?_
  refine lv_iload_n hx hb dX9_told_7 rfl (lv_at hl 1 rfl) ?_
  refine lv_bipush (v := 8) hx hb dX9_told_8 (by decide) ?_
  refine lv_icmp_lt (tgt := 30) hx hb dX9_told_10 (by decide) (fun _ => ?_) (fun c9 => absurd (by decide) c9)
  refine lv_iload_n hx hb dX9_told_30 rfl (lv_at hl 1 rfl) ?_
  refine lv_tableIn (off := 113) (tgt := 144) hx hb dX9_told_31 (by decide) (by decide) (by decide) (by decide) ?_
  refine lv_aload_n hx hb dX9_told_144 rfl (lv_at hl 0 rfl) ?_
  refine gF (C := RX9) (T := TX9) (ci := 8) (v := .ref ta) F hK hP 8 rfl rfl iwX9 8 (by decide) m_148 (fun _ h => h) g_8 dX9_told_145 ?_
  refine gF (C := RX6) (T := TX6) (ci := 6) (v := .int 0) F hK hP 1 rfl rfl iwX6 2 (by decide) m_168 (fun _ h => h) gt_2 dX9_told_148 ?_
  exact retI F hr hlocks rfl hP hD hS () [] rfl rfl (Nat.le_of_ble_eq_true rfl) (Nat.le_of_ble_eq_true rfl) dX9_told_151 rfl
set_option maxRecDepth 100000 in
set_option maxHeartbeats 4000000 in
theorem c_told_8 (l : Launch) (D : va_G) (Y : Nat → ClassId) (h0 : Nat) (pr : Nat) (ta : Nat) (mo : Nat) (tr : Nat) (po : Nat) (gr : Nat) (fo : Nat) (so : Nat) (g : Nat → Value) (gp : Nat → Value) (gt : Nat → Value) (gm : Nat → Value) (gf : Nat → Value) (fs : Nat → Int32) (g_1 : g 1 = .int 0) (g_4 : g 4 = .ref pr) (g_6 : g 6 = .ref mo) (g_8 : g 8 = .ref ta) (gp_0 : gp 0 = .int 0) (gp_1 : gp 1 = .int 0) (gp_2 : gp 2 = .int 0) (gt_0 : gt 0 = .int 0) (gt_1 : gt 1 = .int 0) (gt_2 : gt 2 = .int 0) (gm_0 : gm 0 = .int 0) (gm_2 : gm 2 = .ref tr) (gm_3 : gm 3 = .ref po) (gm_4 : gm 4 = .ref so) (gm_5 : gm 5 = .ref gr) (gm_6 : gm 6 = .ref fo)  : cM l D Y yX9_told cX9_told 2 (some .int) 4 0 0 [.ref h0, .int 8] [(h0, .inr (8, fl 9 g)), (pr, .inr (3, fl 9 gp)), (ta, .inr (6, fl 14 gt)), (mo, .inr (2, fl 7 gm)), (tr, .inl (Y 1, 10, .inr (.inl (fun _ => 0)))), (po, .inl (Y 1, 10, .inr (.inl (fun _ => 0)))), (gr, .inl (Y 1, 10, .inr (.inl (fun _ => 0)))), (fo, .inr (1, fl 7 gf)), (so, .inl (Y 0, 640, .inl fs))] (qI D (fun (r : Int32) (u : Unit) => r = 0) (fun (u : Unit) => [])) := by
  refine cM.mk RX9 rfl (by decide) (Nat.le_of_ble_eq_true rfl) ?_
  intro p e s m below meth c A F hr hlocks hin hK hZ hP hD hA hS ls hl
  have hx := F.1
  have hb := F.2.1
  have hl : lv_has ls 2 [(0, .ref h0), (1, .int 8)] := hl
  refine lv_aload_n hx hb dX9_told_0 rfl (lv_at hl 0 rfl) ?_
  refine lv_iload_n hx hb dX9_told_1 rfl (lv_at hl 1 rfl) ?_
  refine lv_bipush (v := 11) hx hb dX9_told_2 (by decide) ?_
  refine goV (wr := [(pr, .inr (3, fl 9 gp)), (ta, .inr (6, fl 14 gt)), (mo, .inr (2, fl 7 gm)), (tr, .inl (Y 1, 10, .inr (.inl (fun _ => 0)))), (po, .inl (Y 1, 10, .inr (.inl (fun _ => 0)))), (gr, .inl (Y 1, 10, .inr (.inl (fun _ => 0)))), (fo, .inr (1, fl 7 gf)), (so, .inl (Y 0, 640, .inl fs))]) (runV (n := 2) (As := [.int 8, .int 11]) (rest := []) (C := RX9) (T := TX9) (N := 9) (ci := 8) F hK hZ hP hD hS hA (c_needWok l D Y h0 8 11 g  (by decide) (by decide)) 0 rfl rfl [0] rfl rfl m_156 m_157 m_158 m_6 m_155 (by decide +kernel) rfl ⟨Nat.le_of_ble_eq_true rfl, Nat.le_of_ble_eq_true rfl⟩ hl.1 rfl (Nat.le_of_ble_eq_true rfl) dX9_told_4 ⟨Nat.le_of_ble_eq_true rfl, Nat.le_of_ble_eq_true rfl⟩) hP hD hS hA [0] [1, 2, 3, 4, 5, 6, 7, 8] rfl rfl rfl (by decide) (fun u H locs hw hP hD hS => ?_)
  have hP : va_P D vwCl [(pr, .inr (3, fl 9 gp)), (ta, .inr (6, fl 14 gt)), (mo, .inr (2, fl 7 gm)), (tr, .inl (Y 1, 10, .inr (.inl (fun _ => 0)))), (po, .inl (Y 1, 10, .inr (.inl (fun _ => 0)))), (gr, .inl (Y 1, 10, .inr (.inl (fun _ => 0)))), (fo, .inr (1, fl 7 gf)), (so, .inl (Y 0, 640, .inl fs)), (h0, .inr (8, fl 9 g))] H := hP
  have hD : va_D A [(pr, .inr (3, fl 9 gp)), (ta, .inr (6, fl 14 gt)), (mo, .inr (2, fl 7 gm)), (tr, .inl (Y 1, 10, .inr (.inl (fun _ => 0)))), (po, .inl (Y 1, 10, .inr (.inl (fun _ => 0)))), (gr, .inl (Y 1, 10, .inr (.inl (fun _ => 0)))), (fo, .inr (1, fl 7 gf)), (so, .inl (Y 0, 640, .inl fs)), (h0, .inr (8, fl 9 g))] := hD
  refine W.widen (k := 0) (n := 0) (Nat.le_of_ble_eq_true rfl) (Nat.le_of_ble_eq_true rfl) ?_
  refine lv_iload_n hx hb dX9_told_7 rfl (lv_at hl 1 rfl) ?_
  refine lv_bipush (v := 8) hx hb dX9_told_8 (by decide) ?_
  refine lv_icmp_lt (tgt := 30) hx hb dX9_told_10 (by decide) (fun c9 => absurd c9 (by decide)) (fun _ => ?_)
  refine lv_iload_n hx hb dX9_told_13 rfl (lv_at hl 1 rfl) ?_
  refine lv_bipush (v := 10) hx hb dX9_told_14 (by decide) ?_
  refine lv_icmp_gt (tgt := 30) hx hb dX9_told_16 (by decide) (fun c9 => absurd c9 (by decide)) (fun _ => ?_)
  refine lv_aload_n hx hb dX9_told_19 rfl (lv_at hl 0 rfl) ?_
  refine gF (C := RX9) (T := TX9) (ci := 8) (v := .ref mo) F hK hP 8 rfl rfl iwX9 6 (by decide) m_146 (fun _ h => h) g_6 dX9_told_20 ?_
  refine lv_aload_n hx hb dX9_told_23 rfl (lv_at hl 0 rfl) ?_
  refine gF (C := RX9) (T := TX9) (ci := 8) (v := .ref pr) F hK hP 8 rfl rfl iwX9 4 (by decide) m_20 (fun _ h => h) g_4 dX9_told_24 ?_
  refine goV (wr := [(ta, .inr (6, fl 14 gt)), (h0, .inr (8, fl 9 g))]) (runV (n := 1) (As := [.ref pr]) (rest := []) (C := RX2) (T := TX2) (N := 7) (ci := 2) F hK hZ hP hD hS hA (c_settle l D Y mo pr tr po so gr fo gm gf gp fs gm_0 gm_2 gm_3 gm_4 gm_5 gm_6 gp_0 gp_2 ) 2 rfl rfl [2, 3, 4, 5, 6, 0, 7] rfl rfl m_170 m_171 m_172 m_74 m_169 (by decide +kernel) rfl ⟨Nat.le_of_ble_eq_true rfl, Nat.le_of_ble_eq_true rfl⟩ hl.1 rfl (Nat.le_of_ble_eq_true rfl) dX9_told_27 ⟨Nat.le_of_ble_eq_true rfl, Nat.le_of_ble_eq_true rfl⟩) hP hD hS hA [2, 3, 4, 5, 6, 0, 7] [1, 8] rfl rfl rfl (by decide) (fun u H locs hw hP hD hS => ?_)
  obtain ⟨gmn_2, gfn_3, fsn_4⟩ := u
  obtain ⟨o_5, o_6, o_7, o_8, o_9, o_10⟩ := hw
  have hP : va_P D vwCl [(ta, .inr (6, fl 14 gt)), (h0, .inr (8, fl 9 g)), (mo, .inr (2, fl 7 gmn_2)), (tr, .inl (Y 1, 10, .inr (.inl (fun _ => 0)))), (po, .inl (Y 1, 10, .inr (.inl (fun _ => 0)))), (gr, .inl (Y 1, 10, .inr (.inl (fun _ => 0)))), (fo, .inr (1, fl 7 gfn_3)), (pr, .inr (3, fl 9 gp)), (so, .inl (Y 0, 640, .inl fsn_4))] H := hP
  have hD : va_D A [(ta, .inr (6, fl 14 gt)), (h0, .inr (8, fl 9 g)), (mo, .inr (2, fl 7 gmn_2)), (tr, .inl (Y 1, 10, .inr (.inl (fun _ => 0)))), (po, .inl (Y 1, 10, .inr (.inl (fun _ => 0)))), (gr, .inl (Y 1, 10, .inr (.inl (fun _ => 0)))), (fo, .inr (1, fl 7 gfn_3)), (pr, .inr (3, fl 9 gp)), (so, .inl (Y 0, 640, .inl fsn_4))] := hD
  refine W.widen (k := 0) (n := 0) (Nat.le_of_ble_eq_true rfl) (Nat.le_of_ble_eq_true rfl) ?_
  refine lv_iload_n hx hb dX9_told_30 rfl (lv_at hl 1 rfl) ?_
  refine lv_tableIn (off := 121) (tgt := 152) hx hb dX9_told_31 (by decide) (by decide) (by decide) (by decide) ?_
  refine lv_aload_n hx hb dX9_told_152 rfl (lv_at hl 0 rfl) ?_
  refine gF (C := RX9) (T := TX9) (ci := 8) (v := .ref mo) F hK hP 1 rfl rfl iwX9 6 (by decide) m_146 (fun _ h => h) g_6 dX9_told_153 ?_
  refine gF (C := RX2) (T := TX2) (ci := 2) (v := .int 0) F hK hP 2 rfl rfl iwX2 1 (by decide) m_173 (fun _ h => h) o_5 dX9_told_156 ?_
  exact retI F hr hlocks rfl hP hD hS () [] rfl rfl (Nat.le_of_ble_eq_true rfl) (Nat.le_of_ble_eq_true rfl) dX9_told_159 rfl
set_option maxRecDepth 100000 in
set_option maxHeartbeats 4000000 in
theorem c_told_9 (l : Launch) (D : va_G) (Y : Nat → ClassId) (h0 : Nat) (pr : Nat) (ta : Nat) (mo : Nat) (tr : Nat) (po : Nat) (gr : Nat) (fo : Nat) (so : Nat) (g : Nat → Value) (gp : Nat → Value) (gt : Nat → Value) (gm : Nat → Value) (gf : Nat → Value) (fs : Nat → Int32) (g_1 : g 1 = .int 0) (g_4 : g 4 = .ref pr) (g_6 : g 6 = .ref mo) (g_8 : g 8 = .ref ta) (gp_0 : gp 0 = .int 0) (gp_1 : gp 1 = .int 0) (gp_2 : gp 2 = .int 0) (gt_0 : gt 0 = .int 0) (gt_1 : gt 1 = .int 0) (gt_2 : gt 2 = .int 0) (gm_0 : gm 0 = .int 0) (gm_2 : gm 2 = .ref tr) (gm_3 : gm 3 = .ref po) (gm_4 : gm 4 = .ref so) (gm_5 : gm 5 = .ref gr) (gm_6 : gm 6 = .ref fo)  : cM l D Y yX9_told cX9_told 2 (some .int) 4 0 0 [.ref h0, .int 9] [(h0, .inr (8, fl 9 g)), (pr, .inr (3, fl 9 gp)), (ta, .inr (6, fl 14 gt)), (mo, .inr (2, fl 7 gm)), (tr, .inl (Y 1, 10, .inr (.inl (fun _ => 0)))), (po, .inl (Y 1, 10, .inr (.inl (fun _ => 0)))), (gr, .inl (Y 1, 10, .inr (.inl (fun _ => 0)))), (fo, .inr (1, fl 7 gf)), (so, .inl (Y 0, 640, .inl fs))] (qI D (fun (r : Int32) (u : Unit) => r = 0) (fun (u : Unit) => [])) := by
  refine cM.mk RX9 rfl (by decide) (Nat.le_of_ble_eq_true rfl) ?_
  intro p e s m below meth c A F hr hlocks hin hK hZ hP hD hA hS ls hl
  have hx := F.1
  have hb := F.2.1
  have hl : lv_has ls 2 [(0, .ref h0), (1, .int 9)] := hl
  refine lv_aload_n hx hb dX9_told_0 rfl (lv_at hl 0 rfl) ?_
  refine lv_iload_n hx hb dX9_told_1 rfl (lv_at hl 1 rfl) ?_
  refine lv_bipush (v := 11) hx hb dX9_told_2 (by decide) ?_
  refine goV (wr := [(pr, .inr (3, fl 9 gp)), (ta, .inr (6, fl 14 gt)), (mo, .inr (2, fl 7 gm)), (tr, .inl (Y 1, 10, .inr (.inl (fun _ => 0)))), (po, .inl (Y 1, 10, .inr (.inl (fun _ => 0)))), (gr, .inl (Y 1, 10, .inr (.inl (fun _ => 0)))), (fo, .inr (1, fl 7 gf)), (so, .inl (Y 0, 640, .inl fs))]) (runV (n := 2) (As := [.int 9, .int 11]) (rest := []) (C := RX9) (T := TX9) (N := 9) (ci := 8) F hK hZ hP hD hS hA (c_needWok l D Y h0 9 11 g  (by decide) (by decide)) 0 rfl rfl [0] rfl rfl m_156 m_157 m_158 m_6 m_155 (by decide +kernel) rfl ⟨Nat.le_of_ble_eq_true rfl, Nat.le_of_ble_eq_true rfl⟩ hl.1 rfl (Nat.le_of_ble_eq_true rfl) dX9_told_4 ⟨Nat.le_of_ble_eq_true rfl, Nat.le_of_ble_eq_true rfl⟩) hP hD hS hA [0] [1, 2, 3, 4, 5, 6, 7, 8] rfl rfl rfl (by decide) (fun u H locs hw hP hD hS => ?_)
  have hP : va_P D vwCl [(pr, .inr (3, fl 9 gp)), (ta, .inr (6, fl 14 gt)), (mo, .inr (2, fl 7 gm)), (tr, .inl (Y 1, 10, .inr (.inl (fun _ => 0)))), (po, .inl (Y 1, 10, .inr (.inl (fun _ => 0)))), (gr, .inl (Y 1, 10, .inr (.inl (fun _ => 0)))), (fo, .inr (1, fl 7 gf)), (so, .inl (Y 0, 640, .inl fs)), (h0, .inr (8, fl 9 g))] H := hP
  have hD : va_D A [(pr, .inr (3, fl 9 gp)), (ta, .inr (6, fl 14 gt)), (mo, .inr (2, fl 7 gm)), (tr, .inl (Y 1, 10, .inr (.inl (fun _ => 0)))), (po, .inl (Y 1, 10, .inr (.inl (fun _ => 0)))), (gr, .inl (Y 1, 10, .inr (.inl (fun _ => 0)))), (fo, .inr (1, fl 7 gf)), (so, .inl (Y 0, 640, .inl fs)), (h0, .inr (8, fl 9 g))] := hD
  refine W.widen (k := 0) (n := 0) (Nat.le_of_ble_eq_true rfl) (Nat.le_of_ble_eq_true rfl) ?_
  refine lv_iload_n hx hb dX9_told_7 rfl (lv_at hl 1 rfl) ?_
  refine lv_bipush (v := 8) hx hb dX9_told_8 (by decide) ?_
  refine lv_icmp_lt (tgt := 30) hx hb dX9_told_10 (by decide) (fun c9 => absurd c9 (by decide)) (fun _ => ?_)
  refine lv_iload_n hx hb dX9_told_13 rfl (lv_at hl 1 rfl) ?_
  refine lv_bipush (v := 10) hx hb dX9_told_14 (by decide) ?_
  refine lv_icmp_gt (tgt := 30) hx hb dX9_told_16 (by decide) (fun c9 => absurd c9 (by decide)) (fun _ => ?_)
  refine lv_aload_n hx hb dX9_told_19 rfl (lv_at hl 0 rfl) ?_
  refine gF (C := RX9) (T := TX9) (ci := 8) (v := .ref mo) F hK hP 8 rfl rfl iwX9 6 (by decide) m_146 (fun _ h => h) g_6 dX9_told_20 ?_
  refine lv_aload_n hx hb dX9_told_23 rfl (lv_at hl 0 rfl) ?_
  refine gF (C := RX9) (T := TX9) (ci := 8) (v := .ref pr) F hK hP 8 rfl rfl iwX9 4 (by decide) m_20 (fun _ h => h) g_4 dX9_told_24 ?_
  refine goV (wr := [(ta, .inr (6, fl 14 gt)), (h0, .inr (8, fl 9 g))]) (runV (n := 1) (As := [.ref pr]) (rest := []) (C := RX2) (T := TX2) (N := 7) (ci := 2) F hK hZ hP hD hS hA (c_settle l D Y mo pr tr po so gr fo gm gf gp fs gm_0 gm_2 gm_3 gm_4 gm_5 gm_6 gp_0 gp_2 ) 2 rfl rfl [2, 3, 4, 5, 6, 0, 7] rfl rfl m_170 m_171 m_172 m_74 m_169 (by decide +kernel) rfl ⟨Nat.le_of_ble_eq_true rfl, Nat.le_of_ble_eq_true rfl⟩ hl.1 rfl (Nat.le_of_ble_eq_true rfl) dX9_told_27 ⟨Nat.le_of_ble_eq_true rfl, Nat.le_of_ble_eq_true rfl⟩) hP hD hS hA [2, 3, 4, 5, 6, 0, 7] [1, 8] rfl rfl rfl (by decide) (fun u H locs hw hP hD hS => ?_)
  obtain ⟨gmn_2, gfn_3, fsn_4⟩ := u
  obtain ⟨o_5, o_6, o_7, o_8, o_9, o_10⟩ := hw
  have hP : va_P D vwCl [(ta, .inr (6, fl 14 gt)), (h0, .inr (8, fl 9 g)), (mo, .inr (2, fl 7 gmn_2)), (tr, .inl (Y 1, 10, .inr (.inl (fun _ => 0)))), (po, .inl (Y 1, 10, .inr (.inl (fun _ => 0)))), (gr, .inl (Y 1, 10, .inr (.inl (fun _ => 0)))), (fo, .inr (1, fl 7 gfn_3)), (pr, .inr (3, fl 9 gp)), (so, .inl (Y 0, 640, .inl fsn_4))] H := hP
  have hD : va_D A [(ta, .inr (6, fl 14 gt)), (h0, .inr (8, fl 9 g)), (mo, .inr (2, fl 7 gmn_2)), (tr, .inl (Y 1, 10, .inr (.inl (fun _ => 0)))), (po, .inl (Y 1, 10, .inr (.inl (fun _ => 0)))), (gr, .inl (Y 1, 10, .inr (.inl (fun _ => 0)))), (fo, .inr (1, fl 7 gfn_3)), (pr, .inr (3, fl 9 gp)), (so, .inl (Y 0, 640, .inl fsn_4))] := hD
  refine W.widen (k := 0) (n := 0) (Nat.le_of_ble_eq_true rfl) (Nat.le_of_ble_eq_true rfl) ?_
  refine lv_iload_n hx hb dX9_told_30 rfl (lv_at hl 1 rfl) ?_
  refine lv_tableIn (off := 129) (tgt := 160) hx hb dX9_told_31 (by decide) (by decide) (by decide) (by decide) ?_
  refine lv_aload_n hx hb dX9_told_160 rfl (lv_at hl 0 rfl) ?_
  refine gF (C := RX9) (T := TX9) (ci := 8) (v := .ref mo) F hK hP 1 rfl rfl iwX9 6 (by decide) m_146 (fun _ h => h) g_6 dX9_told_161 ?_
  refine goI (wr := [(ta, .inr (6, fl 14 gt)), (h0, .inr (8, fl 9 g)), (gr, .inl (Y 1, 10, .inr (.inl (fun _ => 0)))), (fo, .inr (1, fl 7 gfn_3)), (pr, .inr (3, fl 9 gp)), (so, .inl (Y 0, 640, .inl fsn_4))]) (runV (n := 0) (As := []) (rest := []) (C := RX2) (T := TX2) (N := 7) (ci := 2) F hK hZ hP hD hS hA (c_trueA l D Y mo tr po gmn_2 o_6 o_7 ) 2 rfl rfl [2, 3, 4] rfl rfl m_175 m_176 m_177 m_74 m_174 (by decide +kernel) rfl ⟨Nat.le_of_ble_eq_true rfl, Nat.le_of_ble_eq_true rfl⟩ hl.1 rfl (Nat.le_of_ble_eq_true rfl) dX9_told_164 ⟨Nat.le_of_ble_eq_true rfl, Nat.le_of_ble_eq_true rfl⟩) hP hD hS hA [2, 3, 4] [0, 1, 5, 6, 7, 8] rfl rfl rfl (by decide) (fun r_12 u H locs hw hP hD hS => ?_)
  have hrr := hw
  have hP : va_P D vwCl [(ta, .inr (6, fl 14 gt)), (h0, .inr (8, fl 9 g)), (gr, .inl (Y 1, 10, .inr (.inl (fun _ => 0)))), (fo, .inr (1, fl 7 gfn_3)), (pr, .inr (3, fl 9 gp)), (so, .inl (Y 0, 640, .inl fsn_4))] H := hP
  have hD : va_D A [(ta, .inr (6, fl 14 gt)), (h0, .inr (8, fl 9 g)), (gr, .inl (Y 1, 10, .inr (.inl (fun _ => 0)))), (fo, .inr (1, fl 7 gfn_3)), (pr, .inr (3, fl 9 gp)), (so, .inl (Y 0, 640, .inl fsn_4))] := hD
  subst hrr
  refine W.widen (k := 0) (n := 0) (Nat.le_of_ble_eq_true rfl) (Nat.le_of_ble_eq_true rfl) ?_
  exact retI F hr hlocks rfl hP hD hS () [] rfl rfl (Nat.le_of_ble_eq_true rfl) (Nat.le_of_ble_eq_true rfl) dX9_told_167 rfl
set_option maxRecDepth 100000 in
set_option maxHeartbeats 4000000 in
theorem c_told_10 (l : Launch) (D : va_G) (Y : Nat → ClassId) (h0 : Nat) (pr : Nat) (ta : Nat) (mo : Nat) (tr : Nat) (po : Nat) (gr : Nat) (fo : Nat) (so : Nat) (g : Nat → Value) (gp : Nat → Value) (gt : Nat → Value) (gm : Nat → Value) (gf : Nat → Value) (fs : Nat → Int32) (g_1 : g 1 = .int 0) (g_4 : g 4 = .ref pr) (g_6 : g 6 = .ref mo) (g_8 : g 8 = .ref ta) (gp_0 : gp 0 = .int 0) (gp_1 : gp 1 = .int 0) (gp_2 : gp 2 = .int 0) (gt_0 : gt 0 = .int 0) (gt_1 : gt 1 = .int 0) (gt_2 : gt 2 = .int 0) (gm_0 : gm 0 = .int 0) (gm_2 : gm 2 = .ref tr) (gm_3 : gm 3 = .ref po) (gm_4 : gm 4 = .ref so) (gm_5 : gm 5 = .ref gr) (gm_6 : gm 6 = .ref fo)  : cM l D Y yX9_told cX9_told 2 (some .int) 4 0 0 [.ref h0, .int 10] [(h0, .inr (8, fl 9 g)), (pr, .inr (3, fl 9 gp)), (ta, .inr (6, fl 14 gt)), (mo, .inr (2, fl 7 gm)), (tr, .inl (Y 1, 10, .inr (.inl (fun _ => 0)))), (po, .inl (Y 1, 10, .inr (.inl (fun _ => 0)))), (gr, .inl (Y 1, 10, .inr (.inl (fun _ => 0)))), (fo, .inr (1, fl 7 gf)), (so, .inl (Y 0, 640, .inl fs))] (qI D (fun (r : Int32) (u : Unit) => r = 0) (fun (u : Unit) => [])) := by
  refine cM.mk RX9 rfl (by decide) (Nat.le_of_ble_eq_true rfl) ?_
  intro p e s m below meth c A F hr hlocks hin hK hZ hP hD hA hS ls hl
  have hx := F.1
  have hb := F.2.1
  have hl : lv_has ls 2 [(0, .ref h0), (1, .int 10)] := hl
  refine lv_aload_n hx hb dX9_told_0 rfl (lv_at hl 0 rfl) ?_
  refine lv_iload_n hx hb dX9_told_1 rfl (lv_at hl 1 rfl) ?_
  refine lv_bipush (v := 11) hx hb dX9_told_2 (by decide) ?_
  refine goV (wr := [(pr, .inr (3, fl 9 gp)), (ta, .inr (6, fl 14 gt)), (mo, .inr (2, fl 7 gm)), (tr, .inl (Y 1, 10, .inr (.inl (fun _ => 0)))), (po, .inl (Y 1, 10, .inr (.inl (fun _ => 0)))), (gr, .inl (Y 1, 10, .inr (.inl (fun _ => 0)))), (fo, .inr (1, fl 7 gf)), (so, .inl (Y 0, 640, .inl fs))]) (runV (n := 2) (As := [.int 10, .int 11]) (rest := []) (C := RX9) (T := TX9) (N := 9) (ci := 8) F hK hZ hP hD hS hA (c_needWok l D Y h0 10 11 g  (by decide) (by decide)) 0 rfl rfl [0] rfl rfl m_156 m_157 m_158 m_6 m_155 (by decide +kernel) rfl ⟨Nat.le_of_ble_eq_true rfl, Nat.le_of_ble_eq_true rfl⟩ hl.1 rfl (Nat.le_of_ble_eq_true rfl) dX9_told_4 ⟨Nat.le_of_ble_eq_true rfl, Nat.le_of_ble_eq_true rfl⟩) hP hD hS hA [0] [1, 2, 3, 4, 5, 6, 7, 8] rfl rfl rfl (by decide) (fun u H locs hw hP hD hS => ?_)
  have hP : va_P D vwCl [(pr, .inr (3, fl 9 gp)), (ta, .inr (6, fl 14 gt)), (mo, .inr (2, fl 7 gm)), (tr, .inl (Y 1, 10, .inr (.inl (fun _ => 0)))), (po, .inl (Y 1, 10, .inr (.inl (fun _ => 0)))), (gr, .inl (Y 1, 10, .inr (.inl (fun _ => 0)))), (fo, .inr (1, fl 7 gf)), (so, .inl (Y 0, 640, .inl fs)), (h0, .inr (8, fl 9 g))] H := hP
  have hD : va_D A [(pr, .inr (3, fl 9 gp)), (ta, .inr (6, fl 14 gt)), (mo, .inr (2, fl 7 gm)), (tr, .inl (Y 1, 10, .inr (.inl (fun _ => 0)))), (po, .inl (Y 1, 10, .inr (.inl (fun _ => 0)))), (gr, .inl (Y 1, 10, .inr (.inl (fun _ => 0)))), (fo, .inr (1, fl 7 gf)), (so, .inl (Y 0, 640, .inl fs)), (h0, .inr (8, fl 9 g))] := hD
  refine W.widen (k := 0) (n := 0) (Nat.le_of_ble_eq_true rfl) (Nat.le_of_ble_eq_true rfl) ?_
  refine lv_iload_n hx hb dX9_told_7 rfl (lv_at hl 1 rfl) ?_
  refine lv_bipush (v := 8) hx hb dX9_told_8 (by decide) ?_
  refine lv_icmp_lt (tgt := 30) hx hb dX9_told_10 (by decide) (fun c9 => absurd c9 (by decide)) (fun _ => ?_)
  refine lv_iload_n hx hb dX9_told_13 rfl (lv_at hl 1 rfl) ?_
  refine lv_bipush (v := 10) hx hb dX9_told_14 (by decide) ?_
  refine lv_icmp_gt (tgt := 30) hx hb dX9_told_16 (by decide) (fun c9 => absurd c9 (by decide)) (fun _ => ?_)
  refine lv_aload_n hx hb dX9_told_19 rfl (lv_at hl 0 rfl) ?_
  refine gF (C := RX9) (T := TX9) (ci := 8) (v := .ref mo) F hK hP 8 rfl rfl iwX9 6 (by decide) m_146 (fun _ h => h) g_6 dX9_told_20 ?_
  refine lv_aload_n hx hb dX9_told_23 rfl (lv_at hl 0 rfl) ?_
  refine gF (C := RX9) (T := TX9) (ci := 8) (v := .ref pr) F hK hP 8 rfl rfl iwX9 4 (by decide) m_20 (fun _ h => h) g_4 dX9_told_24 ?_
  refine goV (wr := [(ta, .inr (6, fl 14 gt)), (h0, .inr (8, fl 9 g))]) (runV (n := 1) (As := [.ref pr]) (rest := []) (C := RX2) (T := TX2) (N := 7) (ci := 2) F hK hZ hP hD hS hA (c_settle l D Y mo pr tr po so gr fo gm gf gp fs gm_0 gm_2 gm_3 gm_4 gm_5 gm_6 gp_0 gp_2 ) 2 rfl rfl [2, 3, 4, 5, 6, 0, 7] rfl rfl m_170 m_171 m_172 m_74 m_169 (by decide +kernel) rfl ⟨Nat.le_of_ble_eq_true rfl, Nat.le_of_ble_eq_true rfl⟩ hl.1 rfl (Nat.le_of_ble_eq_true rfl) dX9_told_27 ⟨Nat.le_of_ble_eq_true rfl, Nat.le_of_ble_eq_true rfl⟩) hP hD hS hA [2, 3, 4, 5, 6, 0, 7] [1, 8] rfl rfl rfl (by decide) (fun u H locs hw hP hD hS => ?_)
  obtain ⟨gmn_2, gfn_3, fsn_4⟩ := u
  obtain ⟨o_5, o_6, o_7, o_8, o_9, o_10⟩ := hw
  have hP : va_P D vwCl [(ta, .inr (6, fl 14 gt)), (h0, .inr (8, fl 9 g)), (mo, .inr (2, fl 7 gmn_2)), (tr, .inl (Y 1, 10, .inr (.inl (fun _ => 0)))), (po, .inl (Y 1, 10, .inr (.inl (fun _ => 0)))), (gr, .inl (Y 1, 10, .inr (.inl (fun _ => 0)))), (fo, .inr (1, fl 7 gfn_3)), (pr, .inr (3, fl 9 gp)), (so, .inl (Y 0, 640, .inl fsn_4))] H := hP
  have hD : va_D A [(ta, .inr (6, fl 14 gt)), (h0, .inr (8, fl 9 g)), (mo, .inr (2, fl 7 gmn_2)), (tr, .inl (Y 1, 10, .inr (.inl (fun _ => 0)))), (po, .inl (Y 1, 10, .inr (.inl (fun _ => 0)))), (gr, .inl (Y 1, 10, .inr (.inl (fun _ => 0)))), (fo, .inr (1, fl 7 gfn_3)), (pr, .inr (3, fl 9 gp)), (so, .inl (Y 0, 640, .inl fsn_4))] := hD
  refine W.widen (k := 0) (n := 0) (Nat.le_of_ble_eq_true rfl) (Nat.le_of_ble_eq_true rfl) ?_
  refine lv_iload_n hx hb dX9_told_30 rfl (lv_at hl 1 rfl) ?_
  refine lv_tableIn (off := 137) (tgt := 168) hx hb dX9_told_31 (by decide) (by decide) (by decide) (by decide) ?_
  refine lv_aload_n hx hb dX9_told_168 rfl (lv_at hl 0 rfl) ?_
  refine gF (C := RX9) (T := TX9) (ci := 8) (v := .ref mo) F hK hP 1 rfl rfl iwX9 6 (by decide) m_146 (fun _ h => h) g_6 dX9_told_169 ?_
  refine goI (wr := [(ta, .inr (6, fl 14 gt)), (h0, .inr (8, fl 9 g)), (gr, .inl (Y 1, 10, .inr (.inl (fun _ => 0)))), (fo, .inr (1, fl 7 gfn_3)), (pr, .inr (3, fl 9 gp)), (so, .inl (Y 0, 640, .inl fsn_4))]) (runV (n := 0) (As := []) (rest := []) (C := RX2) (T := TX2) (N := 7) (ci := 2) F hK hZ hP hD hS hA (c_undA l D Y mo tr po gmn_2 o_6 o_7 ) 2 rfl rfl [2, 3, 4] rfl rfl m_179 m_180 m_181 m_74 m_178 (by decide +kernel) rfl ⟨Nat.le_of_ble_eq_true rfl, Nat.le_of_ble_eq_true rfl⟩ hl.1 rfl (Nat.le_of_ble_eq_true rfl) dX9_told_172 ⟨Nat.le_of_ble_eq_true rfl, Nat.le_of_ble_eq_true rfl⟩) hP hD hS hA [2, 3, 4] [0, 1, 5, 6, 7, 8] rfl rfl rfl (by decide) (fun r_12 u H locs hw hP hD hS => ?_)
  have hrr := hw
  have hP : va_P D vwCl [(ta, .inr (6, fl 14 gt)), (h0, .inr (8, fl 9 g)), (gr, .inl (Y 1, 10, .inr (.inl (fun _ => 0)))), (fo, .inr (1, fl 7 gfn_3)), (pr, .inr (3, fl 9 gp)), (so, .inl (Y 0, 640, .inl fsn_4))] H := hP
  have hD : va_D A [(ta, .inr (6, fl 14 gt)), (h0, .inr (8, fl 9 g)), (gr, .inl (Y 1, 10, .inr (.inl (fun _ => 0)))), (fo, .inr (1, fl 7 gfn_3)), (pr, .inr (3, fl 9 gp)), (so, .inl (Y 0, 640, .inl fsn_4))] := hD
  subst hrr
  refine W.widen (k := 0) (n := 0) (Nat.le_of_ble_eq_true rfl) (Nat.le_of_ble_eq_true rfl) ?_
  exact retI F hr hlocks rfl hP hD hS () [] rfl rfl (Nat.le_of_ble_eq_true rfl) (Nat.le_of_ble_eq_true rfl) dX9_told_175 rfl
set_option maxRecDepth 100000 in
set_option maxHeartbeats 4000000 in
theorem c_told_11 (l : Launch) (D : va_G) (Y : Nat → ClassId) (h0 : Nat) (pr : Nat) (ta : Nat) (mo : Nat) (tr : Nat) (po : Nat) (gr : Nat) (fo : Nat) (so : Nat) (g : Nat → Value) (gp : Nat → Value) (gt : Nat → Value) (gm : Nat → Value) (gf : Nat → Value) (fs : Nat → Int32) (g_1 : g 1 = .int 0) (g_4 : g 4 = .ref pr) (g_6 : g 6 = .ref mo) (g_8 : g 8 = .ref ta) (gp_0 : gp 0 = .int 0) (gp_1 : gp 1 = .int 0) (gp_2 : gp 2 = .int 0) (gt_0 : gt 0 = .int 0) (gt_1 : gt 1 = .int 0) (gt_2 : gt 2 = .int 0) (gm_0 : gm 0 = .int 0) (gm_2 : gm 2 = .ref tr) (gm_3 : gm 3 = .ref po) (gm_4 : gm 4 = .ref so) (gm_5 : gm 5 = .ref gr) (gm_6 : gm 6 = .ref fo)  : cM l D Y yX9_told cX9_told 2 (some .int) 4 0 0 [.ref h0, .int 11] [(h0, .inr (8, fl 9 g)), (pr, .inr (3, fl 9 gp)), (ta, .inr (6, fl 14 gt)), (mo, .inr (2, fl 7 gm)), (tr, .inl (Y 1, 10, .inr (.inl (fun _ => 0)))), (po, .inl (Y 1, 10, .inr (.inl (fun _ => 0)))), (gr, .inl (Y 1, 10, .inr (.inl (fun _ => 0)))), (fo, .inr (1, fl 7 gf)), (so, .inl (Y 0, 640, .inl fs))] (qI D (fun (r : Int32) (u : Unit) => r = 0) (fun (u : Unit) => [])) := by
  refine cM.mk RX9 rfl (by decide) (Nat.le_of_ble_eq_true rfl) ?_
  intro p e s m below meth c A F hr hlocks hin hK hZ hP hD hA hS ls hl
  have hx := F.1
  have hb := F.2.1
  have hl : lv_has ls 2 [(0, .ref h0), (1, .int 11)] := hl
  refine lv_aload_n hx hb dX9_told_0 rfl (lv_at hl 0 rfl) ?_
  refine lv_iload_n hx hb dX9_told_1 rfl (lv_at hl 1 rfl) ?_
  refine lv_bipush (v := 11) hx hb dX9_told_2 (by decide) ?_
  refine goV (wr := [(pr, .inr (3, fl 9 gp)), (ta, .inr (6, fl 14 gt)), (mo, .inr (2, fl 7 gm)), (tr, .inl (Y 1, 10, .inr (.inl (fun _ => 0)))), (po, .inl (Y 1, 10, .inr (.inl (fun _ => 0)))), (gr, .inl (Y 1, 10, .inr (.inl (fun _ => 0)))), (fo, .inr (1, fl 7 gf)), (so, .inl (Y 0, 640, .inl fs))]) (runV (n := 2) (As := [.int 11, .int 11]) (rest := []) (C := RX9) (T := TX9) (N := 9) (ci := 8) F hK hZ hP hD hS hA (c_needWok l D Y h0 11 11 g  (by decide) (by decide)) 0 rfl rfl [0] rfl rfl m_156 m_157 m_158 m_6 m_155 (by decide +kernel) rfl ⟨Nat.le_of_ble_eq_true rfl, Nat.le_of_ble_eq_true rfl⟩ hl.1 rfl (Nat.le_of_ble_eq_true rfl) dX9_told_4 ⟨Nat.le_of_ble_eq_true rfl, Nat.le_of_ble_eq_true rfl⟩) hP hD hS hA [0] [1, 2, 3, 4, 5, 6, 7, 8] rfl rfl rfl (by decide) (fun u H locs hw hP hD hS => ?_)
  have hP : va_P D vwCl [(pr, .inr (3, fl 9 gp)), (ta, .inr (6, fl 14 gt)), (mo, .inr (2, fl 7 gm)), (tr, .inl (Y 1, 10, .inr (.inl (fun _ => 0)))), (po, .inl (Y 1, 10, .inr (.inl (fun _ => 0)))), (gr, .inl (Y 1, 10, .inr (.inl (fun _ => 0)))), (fo, .inr (1, fl 7 gf)), (so, .inl (Y 0, 640, .inl fs)), (h0, .inr (8, fl 9 g))] H := hP
  have hD : va_D A [(pr, .inr (3, fl 9 gp)), (ta, .inr (6, fl 14 gt)), (mo, .inr (2, fl 7 gm)), (tr, .inl (Y 1, 10, .inr (.inl (fun _ => 0)))), (po, .inl (Y 1, 10, .inr (.inl (fun _ => 0)))), (gr, .inl (Y 1, 10, .inr (.inl (fun _ => 0)))), (fo, .inr (1, fl 7 gf)), (so, .inl (Y 0, 640, .inl fs)), (h0, .inr (8, fl 9 g))] := hD
  refine W.widen (k := 0) (n := 0) (Nat.le_of_ble_eq_true rfl) (Nat.le_of_ble_eq_true rfl) ?_
  refine lv_iload_n hx hb dX9_told_7 rfl (lv_at hl 1 rfl) ?_
  refine lv_bipush (v := 8) hx hb dX9_told_8 (by decide) ?_
  refine lv_icmp_lt (tgt := 30) hx hb dX9_told_10 (by decide) (fun c9 => absurd c9 (by decide)) (fun _ => ?_)
  refine lv_iload_n hx hb dX9_told_13 rfl (lv_at hl 1 rfl) ?_
  refine lv_bipush (v := 10) hx hb dX9_told_14 (by decide) ?_
  refine lv_icmp_gt (tgt := 30) hx hb dX9_told_16 (by decide) (fun _ => ?_) (fun c9 => absurd (by decide) c9)
  refine lv_iload_n hx hb dX9_told_30 rfl (lv_at hl 1 rfl) ?_
  refine lv_tableOut (tgt := 176) hx hb dX9_told_31 (by decide) (by decide) ?_
  refine lv_aload_n hx hb dX9_told_176 rfl (lv_at hl 0 rfl) ?_
  refine gF (C := RX9) (T := TX9) (ci := 8) (v := .int 0) F hK hP 8 rfl rfl iwX9 1 (by decide) m_3 (fun _ h => h) g_1 dX9_told_177 ?_
  exact retI F hr hlocks rfl hP hD hS () [] rfl rfl (Nat.le_of_ble_eq_true rfl) (Nat.le_of_ble_eq_true rfl) dX9_told_180 rfl
set_option maxRecDepth 100000 in
set_option maxHeartbeats 4000000 in
theorem c_toldB (l : Launch) (hfl : l.stackTraces = false) (D : va_G) (Y : Nat → ClassId) (h0 : Nat) (rf : Nat) (g : Nat → Value) (f : Nat → Int32) (j : Int32) (g_3 : g 3 = .ref rf) (hj : j < 0 ∨ 11 < j) : xM l D Y yX9_told cX9_told 2 (some .int) 3 1 6 [.ref h0, .int j] [(h0, .inr (8, fl 9 g)), (rf, .inl (Y 0, 3, .inl f))] (qI D (fun (r : Int32) (u : Unit) => False) (fun (u : Unit) => [])) (fun E => E = iae) := by
  refine xM.mk RX9 rfl (by decide) (Nat.le_of_ble_eq_true rfl) ?_
  intro p e s m below meth c A F hr hlocks hno hK hZ hP hD hA hS ls hl
  have hx := F.1
  have hb := F.2.1
  have hl : lv_has ls 2 [(0, .ref h0), (1, .int j)] := hl
  refine lv_aload_n hx hb dX9_told_0 rfl (lv_at hl 0 rfl) ?_
  refine lv_iload_n hx hb dX9_told_1 rfl (lv_at hl 1 rfl) ?_
  refine lv_bipush (v := 11) hx hb dX9_told_2 (by decide) ?_
  refine xgoV (wr := []) (xrunV (n := 2) (As := [.int j, .int 11]) (rest := []) (C := RX9) (T := TX9) (N := 9) (ci := 8) F hK hZ hP hD hS hA (c_needWbad l hfl D Y h0 rf g f j 11 g_3 hj) 0 rfl rfl [0, 1] rfl rfl m_156 m_157 m_158 m_6 m_155 (by decide +kernel) rfl ⟨Nat.le_of_ble_eq_true rfl, Nat.le_of_ble_eq_true rfl⟩ hl.1 rfl (Nat.le_of_ble_eq_true rfl) dX9_told_4 ⟨Nat.le_of_ble_eq_true rfl, Nat.le_of_ble_eq_true rfl⟩) hP hD hS hA [0, 1] [] rfl rfl rfl (by decide) (fun E ce q9 H locs hE hP hD hS h1 h2 h3 => ?_) (fun u H locs hw hP hD hS => ?_)
  · skip
    exact xOut hno hlocks hE hS h1 h2 h3 (Nat.le_of_ble_eq_true rfl) (Nat.le_of_ble_eq_true rfl)
  · exact hw.elim
set_option maxRecDepth 100000 in
set_option maxHeartbeats 4000000 in
theorem c_nameAt0 (l : Launch) (hfl : l.stackTraces = false) (D : va_G) (Y : Nat → ClassId) (h0 : Nat) (rf : Nat) (pr : Nat) (g : Nat → Value) (gp : Nat → Value) (f : Nat → Int32) (j2 : Int32) (j3 : Int32) (g_3 : g 3 = .ref rf) (g_4 : g 4 = .ref pr) (gp_0 : gp 0 = .int 0) (gp_1 : gp 1 = .int 0) (gp_2 : gp 2 = .int 0)  : xM l D Y yX9_nameAt cX9_nameAt 5 (some .int) 4 1 6 [.ref h0, .int 0, .int j2, .int j3] [(h0, .inr (8, fl 9 g)), (rf, .inl (Y 0, 3, .inl f)), (pr, .inr (3, fl 9 gp))] (qI D (fun (r : Int32) (u : Unit) => False) (fun (u : Unit) => [])) (fun E => E = nse) := by
  refine xM.mk RX9 rfl (by decide) (Nat.le_of_ble_eq_true rfl) ?_
  intro p e s m below meth c A F hr hlocks hno hK hZ hP hD hA hS ls hl
  have hx := F.1
  have hb := F.2.1
  have hl : lv_has ls 5 [(0, .ref h0), (1, .int 0), (2, .int j2), (3, .int j3)] := hl
  refine lv_aload_n hx hb dX9_nameAt_0 rfl (lv_at hl 0 rfl) ?_
  refine lv_iload_n hx hb dX9_nameAt_1 rfl (lv_at hl 1 rfl) ?_
  refine lv_iconst (v := 1) hx hb dX9_nameAt_2 (by decide) ?_
  refine goV (wr := [(rf, .inl (Y 0, 3, .inl f)), (pr, .inr (3, fl 9 gp))]) (runV (n := 2) (As := [.int 0, .int 1]) (rest := []) (C := RX9) (T := TX9) (N := 9) (ci := 8) F hK hZ hP hD hS hA (c_needWok l D Y h0 0 1 g  (by decide) (by decide)) 0 rfl rfl [0] rfl rfl m_156 m_157 m_158 m_6 m_155 (by decide +kernel) rfl ⟨Nat.le_of_ble_eq_true rfl, Nat.le_of_ble_eq_true rfl⟩ hl.1 rfl (Nat.le_of_ble_eq_true rfl) dX9_nameAt_3 ⟨Nat.le_of_ble_eq_true rfl, Nat.le_of_ble_eq_true rfl⟩) hP hD hS hA [0] [1, 2] rfl rfl rfl (by decide) (fun u H locs hw hP hD hS => ?_)
  have hP : va_P D vwCl [(rf, .inl (Y 0, 3, .inl f)), (pr, .inr (3, fl 9 gp)), (h0, .inr (8, fl 9 g))] H := hP
  have hD : va_D A [(rf, .inl (Y 0, 3, .inl f)), (pr, .inr (3, fl 9 gp)), (h0, .inr (8, fl 9 g))] := hD
  refine W.widen (k := 0) (n := 0) (Nat.le_of_ble_eq_true rfl) (Nat.le_of_ble_eq_true rfl) ?_
  refine lv_iload_n hx hb dX9_nameAt_6 rfl (lv_at hl 1 rfl) ?_
  refine lv_if_ne (tgt := 18) hx hb dX9_nameAt_7 (by decide) (fun c9 => absurd (by decide) c9) (fun _ => ?_)
  refine lv_aload_n hx hb dX9_nameAt_10 rfl (lv_at hl 0 rfl) ?_
  refine lv_iload_n hx hb dX9_nameAt_11 rfl (lv_at hl 2 rfl) ?_
  refine xgoV (wr := []) (xrunV (n := 1) (As := [.int j2]) (rest := []) (C := RX9) (T := TX9) (N := 9) (ci := 8) F hK hZ hP hD hS hA (c_needP l hfl D Y h0 rf pr g gp f j2 g_3 g_4 gp_0 gp_1 gp_2 ) 2 rfl rfl [2, 0, 1] rfl rfl m_28 m_29 m_30 m_6 m_27 (by decide +kernel) rfl ⟨Nat.le_of_ble_eq_true rfl, Nat.le_of_ble_eq_true rfl⟩ hl.1 rfl (Nat.le_of_ble_eq_true rfl) dX9_nameAt_12 ⟨Nat.le_of_ble_eq_true rfl, Nat.le_of_ble_eq_true rfl⟩) hP hD hS hA [2, 0, 1] [] rfl rfl rfl (by decide) (fun E ce q9 H locs hE hP hD hS h1 h2 h3 => ?_) (fun u H locs hw hP hD hS => ?_)
  · skip
    exact xOut hno hlocks hE hS h1 h2 h3 (Nat.le_of_ble_eq_true rfl) (Nat.le_of_ble_eq_true rfl)
  · exact hw.elim
set_option maxRecDepth 100000 in
set_option maxHeartbeats 4000000 in
theorem c_nameAt1 (l : Launch) (hfl : l.stackTraces = false) (D : va_G) (Y : Nat → ClassId) (h0 : Nat) (rf : Nat) (pr : Nat) (g : Nat → Value) (gp : Nat → Value) (f : Nat → Int32) (j2 : Int32) (j3 : Int32) (g_3 : g 3 = .ref rf) (g_4 : g 4 = .ref pr) (gp_0 : gp 0 = .int 0) (gp_1 : gp 1 = .int 0) (gp_2 : gp 2 = .int 0)  : xM l D Y yX9_nameAt cX9_nameAt 5 (some .int) 4 1 6 [.ref h0, .int 1, .int j2, .int j3] [(h0, .inr (8, fl 9 g)), (rf, .inl (Y 0, 3, .inl f)), (pr, .inr (3, fl 9 gp))] (qI D (fun (r : Int32) (u : Unit) => False) (fun (u : Unit) => [])) (fun E => E = nse) := by
  refine xM.mk RX9 rfl (by decide) (Nat.le_of_ble_eq_true rfl) ?_
  intro p e s m below meth c A F hr hlocks hno hK hZ hP hD hA hS ls hl
  have hx := F.1
  have hb := F.2.1
  have hl : lv_has ls 5 [(0, .ref h0), (1, .int 1), (2, .int j2), (3, .int j3)] := hl
  refine lv_aload_n hx hb dX9_nameAt_0 rfl (lv_at hl 0 rfl) ?_
  refine lv_iload_n hx hb dX9_nameAt_1 rfl (lv_at hl 1 rfl) ?_
  refine lv_iconst (v := 1) hx hb dX9_nameAt_2 (by decide) ?_
  refine goV (wr := [(rf, .inl (Y 0, 3, .inl f)), (pr, .inr (3, fl 9 gp))]) (runV (n := 2) (As := [.int 1, .int 1]) (rest := []) (C := RX9) (T := TX9) (N := 9) (ci := 8) F hK hZ hP hD hS hA (c_needWok l D Y h0 1 1 g  (by decide) (by decide)) 0 rfl rfl [0] rfl rfl m_156 m_157 m_158 m_6 m_155 (by decide +kernel) rfl ⟨Nat.le_of_ble_eq_true rfl, Nat.le_of_ble_eq_true rfl⟩ hl.1 rfl (Nat.le_of_ble_eq_true rfl) dX9_nameAt_3 ⟨Nat.le_of_ble_eq_true rfl, Nat.le_of_ble_eq_true rfl⟩) hP hD hS hA [0] [1, 2] rfl rfl rfl (by decide) (fun u H locs hw hP hD hS => ?_)
  have hP : va_P D vwCl [(rf, .inl (Y 0, 3, .inl f)), (pr, .inr (3, fl 9 gp)), (h0, .inr (8, fl 9 g))] H := hP
  have hD : va_D A [(rf, .inl (Y 0, 3, .inl f)), (pr, .inr (3, fl 9 gp)), (h0, .inr (8, fl 9 g))] := hD
  refine W.widen (k := 0) (n := 0) (Nat.le_of_ble_eq_true rfl) (Nat.le_of_ble_eq_true rfl) ?_
  refine lv_iload_n hx hb dX9_nameAt_6 rfl (lv_at hl 1 rfl) ?_
  refine lv_if_ne (tgt := 18) hx hb dX9_nameAt_7 (by decide) (fun _ => ?_) (fun c9 => absurd c9 (by decide))
  refine lv_aload_n hx hb dX9_nameAt_18 rfl (lv_at hl 0 rfl) ?_
  refine lv_iload_n hx hb dX9_nameAt_19 rfl (lv_at hl 2 rfl) ?_
  refine xgoV (wr := []) (xrunV (n := 1) (As := [.int j2]) (rest := []) (C := RX9) (T := TX9) (N := 9) (ci := 8) F hK hZ hP hD hS hA (c_needC l hfl D Y h0 rf pr g gp f j2 g_3 g_4 gp_0 gp_1 gp_2 ) 2 rfl rfl [2, 0, 1] rfl rfl m_183 m_184 m_185 m_6 m_182 (by decide +kernel) rfl ⟨Nat.le_of_ble_eq_true rfl, Nat.le_of_ble_eq_true rfl⟩ hl.1 rfl (Nat.le_of_ble_eq_true rfl) dX9_nameAt_20 ⟨Nat.le_of_ble_eq_true rfl, Nat.le_of_ble_eq_true rfl⟩) hP hD hS hA [2, 0, 1] [] rfl rfl rfl (by decide) (fun E ce q9 H locs hE hP hD hS h1 h2 h3 => ?_) (fun u H locs hw hP hD hS => ?_)
  · skip
    exact xOut hno hlocks hE hS h1 h2 h3 (Nat.le_of_ble_eq_true rfl) (Nat.le_of_ble_eq_true rfl)
  · exact hw.elim
set_option maxRecDepth 100000 in
set_option maxHeartbeats 4000000 in
theorem c_nameAtB (l : Launch) (hfl : l.stackTraces = false) (D : va_G) (Y : Nat → ClassId) (h0 : Nat) (rf : Nat) (g : Nat → Value) (f : Nat → Int32) (j : Int32) (j2 : Int32) (j3 : Int32) (g_3 : g 3 = .ref rf) (hj : j < 0 ∨ 1 < j) : xM l D Y yX9_nameAt cX9_nameAt 5 (some .int) 4 1 6 [.ref h0, .int j, .int j2, .int j3] [(h0, .inr (8, fl 9 g)), (rf, .inl (Y 0, 3, .inl f))] (qI D (fun (r : Int32) (u : Unit) => False) (fun (u : Unit) => [])) (fun E => E = iae) := by
  refine xM.mk RX9 rfl (by decide) (Nat.le_of_ble_eq_true rfl) ?_
  intro p e s m below meth c A F hr hlocks hno hK hZ hP hD hA hS ls hl
  have hx := F.1
  have hb := F.2.1
  have hl : lv_has ls 5 [(0, .ref h0), (1, .int j), (2, .int j2), (3, .int j3)] := hl
  refine lv_aload_n hx hb dX9_nameAt_0 rfl (lv_at hl 0 rfl) ?_
  refine lv_iload_n hx hb dX9_nameAt_1 rfl (lv_at hl 1 rfl) ?_
  refine lv_iconst (v := 1) hx hb dX9_nameAt_2 (by decide) ?_
  refine xgoV (wr := []) (xrunV (n := 2) (As := [.int j, .int 1]) (rest := []) (C := RX9) (T := TX9) (N := 9) (ci := 8) F hK hZ hP hD hS hA (c_needWbad l hfl D Y h0 rf g f j 1 g_3 hj) 0 rfl rfl [0, 1] rfl rfl m_156 m_157 m_158 m_6 m_155 (by decide +kernel) rfl ⟨Nat.le_of_ble_eq_true rfl, Nat.le_of_ble_eq_true rfl⟩ hl.1 rfl (Nat.le_of_ble_eq_true rfl) dX9_nameAt_3 ⟨Nat.le_of_ble_eq_true rfl, Nat.le_of_ble_eq_true rfl⟩) hP hD hS hA [0, 1] [] rfl rfl rfl (by decide) (fun E ce q9 H locs hE hP hD hS h1 h2 h3 => ?_) (fun u H locs hw hP hD hS => ?_)
  · skip
    exact xOut hno hlocks hE hS h1 h2 h3 (Nat.le_of_ble_eq_true rfl) (Nat.le_of_ble_eq_true rfl)
  · exact hw.elim
set_option maxRecDepth 100000 in
set_option maxHeartbeats 4000000 in
theorem c_xtable (l : Launch) (hfl : l.stackTraces = false) (D : va_G) (Y : Nat → ClassId) (h0 : Nat) (rf : Nat) (ta : Nat) (g : Nat → Value) (gt : Nat → Value) (f : Nat → Int32) (j1 : Int32) (j2 : Int32) (g_3 : g 3 = .ref rf) (g_8 : g 8 = .ref ta) (gt_0 : gt 0 = .int 0)  : xM l D Y yX9_table cX9_table 4 (some .int) 4 1 6 [.ref h0, .int j1, .int j2] [(h0, .inr (8, fl 9 g)), (rf, .inl (Y 0, 3, .inl f)), (ta, .inr (6, fl 14 gt))] (qI D (fun (r : Int32) (u : Unit) => False) (fun (u : Unit) => [])) (fun E => E = nse) := by
  refine xM.mk RX9 rfl (by decide) (Nat.le_of_ble_eq_true rfl) ?_
  intro p e s m below meth c A F hr hlocks hno hK hZ hP hD hA hS ls hl
  have hx := F.1
  have hb := F.2.1
  have hl : lv_has ls 4 [(0, .ref h0), (1, .int j1), (2, .int j2)] := hl
  refine lv_aload_n hx hb dX9_table_0 rfl (lv_at hl 0 rfl) ?_
  refine lv_iload_n hx hb dX9_table_1 rfl (lv_at hl 1 rfl) ?_
  refine lv_aload_n hx hb dX9_table_2 rfl (lv_at hl 0 rfl) ?_
  refine gF (C := RX9) (T := TX9) (ci := 8) (v := .ref ta) F hK hP 0 rfl rfl iwX9 8 (by decide) m_148 (fun _ h => h) g_8 dX9_table_3 ?_
  refine gF (C := RX6) (T := TX6) (ci := 6) (v := .int 0) F hK hP 2 rfl rfl iwX6 0 (by decide) m_153 (fun _ h => h) gt_0 dX9_table_6 ?_
  refine xgoV (wr := [(ta, .inr (6, fl 14 gt))]) (xrunV (n := 2) (As := [.int j1, .int 0]) (rest := []) (C := RX9) (T := TX9) (N := 9) (ci := 8) F hK hZ hP hD hS hA (c_needIx l hfl D Y h0 rf g f j1 g_3 ) 0 rfl rfl [0, 1] rfl rfl m_23 m_24 m_25 m_6 m_22 (by decide +kernel) rfl ⟨Nat.le_of_ble_eq_true rfl, Nat.le_of_ble_eq_true rfl⟩ hl.1 rfl (Nat.le_of_ble_eq_true rfl) dX9_table_9 ⟨Nat.le_of_ble_eq_true rfl, Nat.le_of_ble_eq_true rfl⟩) hP hD hS hA [0, 1] [2] rfl rfl rfl (by decide) (fun E ce q9 H locs hE hP hD hS h1 h2 h3 => ?_) (fun u H locs hw hP hD hS => ?_)
  · skip
    exact xOut hno hlocks hE hS h1 h2 h3 (Nat.le_of_ble_eq_true rfl) (Nat.le_of_ble_eq_true rfl)
  · exact hw.elim
set_option maxRecDepth 100000 in
set_option maxHeartbeats 4000000 in
theorem c_xcalls (l : Launch) (hfl : l.stackTraces = false) (D : va_G) (Y : Nat → ClassId) (h0 : Nat) (rf : Nat) (ta : Nat) (g : Nat → Value) (gt : Nat → Value) (f : Nat → Int32) (j1 : Int32) (j2 : Int32) (j3 : Int32) (g_3 : g 3 = .ref rf) (g_8 : g 8 = .ref ta) (gt_0 : gt 0 = .int 0)  : xM l D Y yX9_calls cX9_calls 5 (some .int) 4 1 6 [.ref h0, .int j1, .int j2, .int j3] [(h0, .inr (8, fl 9 g)), (rf, .inl (Y 0, 3, .inl f)), (ta, .inr (6, fl 14 gt))] (qI D (fun (r : Int32) (u : Unit) => False) (fun (u : Unit) => [])) (fun E => E = nse) := by
  refine xM.mk RX9 rfl (by decide) (Nat.le_of_ble_eq_true rfl) ?_
  intro p e s m below meth c A F hr hlocks hno hK hZ hP hD hA hS ls hl
  have hx := F.1
  have hb := F.2.1
  have hl : lv_has ls 5 [(0, .ref h0), (1, .int j1), (2, .int j2), (3, .int j3)] := hl
  refine lv_aload_n hx hb dX9_calls_0 rfl (lv_at hl 0 rfl) ?_
  refine lv_iload_n hx hb dX9_calls_1 rfl (lv_at hl 1 rfl) ?_
  refine lv_aload_n hx hb dX9_calls_2 rfl (lv_at hl 0 rfl) ?_
  refine gF (C := RX9) (T := TX9) (ci := 8) (v := .ref ta) F hK hP 0 rfl rfl iwX9 8 (by decide) m_148 (fun _ h => h) g_8 dX9_calls_3 ?_
  refine gF (C := RX6) (T := TX6) (ci := 6) (v := .int 0) F hK hP 2 rfl rfl iwX6 0 (by decide) m_153 (fun _ h => h) gt_0 dX9_calls_6 ?_
  refine xgoV (wr := [(ta, .inr (6, fl 14 gt))]) (xrunV (n := 2) (As := [.int j1, .int 0]) (rest := []) (C := RX9) (T := TX9) (N := 9) (ci := 8) F hK hZ hP hD hS hA (c_needIx l hfl D Y h0 rf g f j1 g_3 ) 0 rfl rfl [0, 1] rfl rfl m_23 m_24 m_25 m_6 m_22 (by decide +kernel) rfl ⟨Nat.le_of_ble_eq_true rfl, Nat.le_of_ble_eq_true rfl⟩ hl.1 rfl (Nat.le_of_ble_eq_true rfl) dX9_calls_9 ⟨Nat.le_of_ble_eq_true rfl, Nat.le_of_ble_eq_true rfl⟩) hP hD hS hA [0, 1] [2] rfl rfl rfl (by decide) (fun E ce q9 H locs hE hP hD hS h1 h2 h3 => ?_) (fun u H locs hw hP hD hS => ?_)
  · skip
    exact xOut hno hlocks hE hS h1 h2 h3 (Nat.le_of_ble_eq_true rfl) (Nat.le_of_ble_eq_true rfl)
  · exact hw.elim
set_option maxRecDepth 100000 in
set_option maxHeartbeats 4000000 in
theorem c_xanswer (l : Launch) (hfl : l.stackTraces = false) (D : va_G) (Y : Nat → ClassId) (h0 : Nat) (rf : Nat) (ta : Nat) (g : Nat → Value) (gt : Nat → Value) (f : Nat → Int32) (j1 : Int32) (j2 : Int32) (j3 : Int32) (g_3 : g 3 = .ref rf) (g_8 : g 8 = .ref ta) (gt_0 : gt 0 = .int 0)  : xM l D Y yX9_answer cX9_answer 8 (some .int) 4 1 6 [.ref h0, .int j1, .int j2, .int j3] [(h0, .inr (8, fl 9 g)), (rf, .inl (Y 0, 3, .inl f)), (ta, .inr (6, fl 14 gt))] (qI D (fun (r : Int32) (u : Unit) => False) (fun (u : Unit) => [])) (fun E => E = nse) := by
  refine xM.mk RX9 rfl (by decide) (Nat.le_of_ble_eq_true rfl) ?_
  intro p e s m below meth c A F hr hlocks hno hK hZ hP hD hA hS ls hl
  have hx := F.1
  have hb := F.2.1
  have hl : lv_has ls 8 [(0, .ref h0), (1, .int j1), (2, .int j2), (3, .int j3)] := hl
  refine lv_aload_n hx hb dX9_answer_0 rfl (lv_at hl 0 rfl) ?_
  refine lv_iload_n hx hb dX9_answer_1 rfl (lv_at hl 1 rfl) ?_
  refine lv_aload_n hx hb dX9_answer_2 rfl (lv_at hl 0 rfl) ?_
  refine gF (C := RX9) (T := TX9) (ci := 8) (v := .ref ta) F hK hP 0 rfl rfl iwX9 8 (by decide) m_148 (fun _ h => h) g_8 dX9_answer_3 ?_
  refine gF (C := RX6) (T := TX6) (ci := 6) (v := .int 0) F hK hP 2 rfl rfl iwX6 0 (by decide) m_153 (fun _ h => h) gt_0 dX9_answer_6 ?_
  refine xgoV (wr := [(ta, .inr (6, fl 14 gt))]) (xrunV (n := 2) (As := [.int j1, .int 0]) (rest := []) (C := RX9) (T := TX9) (N := 9) (ci := 8) F hK hZ hP hD hS hA (c_needIx l hfl D Y h0 rf g f j1 g_3 ) 0 rfl rfl [0, 1] rfl rfl m_23 m_24 m_25 m_6 m_22 (by decide +kernel) rfl ⟨Nat.le_of_ble_eq_true rfl, Nat.le_of_ble_eq_true rfl⟩ hl.1 rfl (Nat.le_of_ble_eq_true rfl) dX9_answer_9 ⟨Nat.le_of_ble_eq_true rfl, Nat.le_of_ble_eq_true rfl⟩) hP hD hS hA [0, 1] [2] rfl rfl rfl (by decide) (fun E ce q9 H locs hE hP hD hS h1 h2 h3 => ?_) (fun u H locs hw hP hD hS => ?_)
  · skip
    exact xOut hno hlocks hE hS h1 h2 h3 (Nat.le_of_ble_eq_true rfl) (Nat.le_of_ble_eq_true rfl)
  · exact hw.elim
set_option maxRecDepth 100000 in
set_option maxHeartbeats 4000000 in
theorem c_compl (l : Launch) (D : va_G) (Y : Nat → ClassId) (h0 : Nat) (ta : Nat) (g : Nat → Value) (gt : Nat → Value) (j : Int32) (g_8 : g 8 = .ref ta) (gt_3 : gt 3 = .int 0)  : cM l D Y yX9_completed cX9_completed 2 (some .int) 1 0 0 [.ref h0, .int j] [(h0, .inr (8, fl 9 g)), (ta, .inr (6, fl 14 gt))] (qI D (fun (r : Int32) (u : Unit) => r = (-1)) (fun (u : Unit) => [])) := by
  refine cM.mk RX9 rfl (by decide) (Nat.le_of_ble_eq_true rfl) ?_
  intro p e s m below meth c A F hr hlocks hin hK hZ hP hD hA hS ls hl
  have hx := F.1
  have hb := F.2.1
  have hl : lv_has ls 2 [(0, .ref h0), (1, .int j)] := hl
  refine lv_iload_n hx hb dX9_completed_0 rfl (lv_at hl 1 rfl) ?_
  refine lv_if_lt (tgt := 15) hx hb dX9_completed_1 (by decide) (fun c9 => ?_) (fun c9 => ?_)
  · skip
    refine lv_iconst (v := (-1)) hx hb dX9_completed_15 (by decide) ?_
    refine lv_goto (tgt := 28) hx hb dX9_completed_16 (by decide) ?_
    exact retI F hr hlocks rfl hP hD hS () [] rfl rfl (Nat.le_of_ble_eq_true rfl) (Nat.le_of_ble_eq_true rfl) dX9_completed_28 rfl
  · skip
    refine lv_iload_n hx hb dX9_completed_4 rfl (lv_at hl 1 rfl) ?_
    refine lv_aload_n hx hb dX9_completed_5 rfl (lv_at hl 0 rfl) ?_
    refine gF (C := RX9) (T := TX9) (ci := 8) (v := .ref ta) F hK hP 0 rfl rfl iwX9 8 (by decide) m_148 (fun _ h => h) g_8 dX9_completed_6 ?_
    refine gF (C := RX6) (T := TX6) (ci := 6) (v := .int 0) F hK hP 1 rfl rfl iwX6 3 (by decide) m_186 (fun _ h => h) gt_3 dX9_completed_9 ?_
    refine lv_icmp_lt (tgt := 19) hx hb dX9_completed_12 (by decide) (fun c8 => ?_) (fun c8 => ?_)
    · skip
      exact absurd c8 c9
    · skip
      refine lv_iconst (v := (-1)) hx hb dX9_completed_15 (by decide) ?_
      refine lv_goto (tgt := 28) hx hb dX9_completed_16 (by decide) ?_
      exact retI F hr hlocks rfl hP hD hS () [] rfl rfl (Nat.le_of_ble_eq_true rfl) (Nat.le_of_ble_eq_true rfl) dX9_completed_28 rfl
set_option maxRecDepth 100000 in
set_option maxHeartbeats 4000000 in
theorem c_print (l : Launch) (D : va_G) (Y : Nat → ClassId) (h0 : Nat) (ta : Nat) (g : Nat → Value) (gt : Nat → Value) (g_8 : g 8 = .ref ta) (gt_0 : gt 0 = .int 0)  : cM l D Y yX9_print cX9_print 1 (some .long) 2 0 0 [.ref h0] [(h0, .inr (8, fl 9 g)), (ta, .inr (6, fl 14 gt))] (qL D (fun (r : Int64) (u : Unit) => r = 0) (fun (u : Unit) => [])) := by
  refine cM.mk RX9 rfl (by decide) (Nat.le_of_ble_eq_true rfl) ?_
  intro p e s m below meth c A F hr hlocks hin hK hZ hP hD hA hS ls hl
  have hx := F.1
  have hb := F.2.1
  have hl : lv_has ls 1 [(0, .ref h0)] := hl
  refine lv_aload_n hx hb dX9_print_0 rfl (lv_at hl 0 rfl) ?_
  refine gF (C := RX9) (T := TX9) (ci := 8) (v := .ref ta) F hK hP 0 rfl rfl iwX9 8 (by decide) m_148 (fun _ h => h) g_8 dX9_print_1 ?_
  refine goL (wr := [(h0, .inr (8, fl 9 g))]) (runV (n := 0) (As := []) (rest := []) (C := RX6) (T := TX6) (N := 14) (ci := 6) F hK hZ hP hD hS hA (c_sumT l D Y ta gt gt_0 ) 1 rfl rfl [1] rfl rfl m_188 m_189 m_190 m_102 m_187 (by decide +kernel) rfl ⟨Nat.le_of_ble_eq_true rfl, Nat.le_of_ble_eq_true rfl⟩ hl.1 rfl (Nat.le_of_ble_eq_true rfl) dX9_print_4 ⟨Nat.le_of_ble_eq_true rfl, Nat.le_of_ble_eq_true rfl⟩) hP hD hS hA [1] [0] rfl rfl rfl (by decide) (fun r_1 u H locs hw hP hD hS => ?_)
  have hrr := hw
  have hP : va_P D vwCl [(h0, .inr (8, fl 9 g))] H := hP
  have hD : va_D A [(h0, .inr (8, fl 9 g))] := hD
  subst hrr
  refine W.widen (k := 0) (n := 0) (Nat.le_of_ble_eq_true rfl) (Nat.le_of_ble_eq_true rfl) ?_
  exact retL F hr hlocks hP hD hS () [] rfl rfl (Nat.le_of_ble_eq_true rfl) (Nat.le_of_ble_eq_true rfl) dX9_print_7 rfl
set_option maxRecDepth 100000 in
set_option maxHeartbeats 4000000 in
theorem c_stat (l : Launch) (D : va_G) (Y : Nat → ClassId) (h0 : Nat) (rf : Nat) (g : Nat → Value) (j : Int32) (g_3 : g 3 = .ref rf)  : cM l D Y yX9_status cX9_status 2 (some .int) 1 0 0 [.ref h0, .int j] [(h0, .inr (8, fl 9 g)), (rf, .inl (Y 0, 3, .inl (fun _ => 0)))] (qI D (fun (r : Int32) (u : Unit) => r = if j < 0 then -1 else if 2 < j then -1 else 0) (fun (u : Unit) => [])) := by
  refine cM.mk RX9 rfl (by decide) (Nat.le_of_ble_eq_true rfl) ?_
  intro p e s m below meth c A F hr hlocks hin hK hZ hP hD hA hS ls hl
  have hx := F.1
  have hb := F.2.1
  have hl : lv_has ls 2 [(0, .ref h0), (1, .int j)] := hl
  refine lv_iload_n hx hb dX9_status_0 rfl (lv_at hl 1 rfl) ?_
  refine lv_if_lt (tgt := 9) hx hb dX9_status_1 (by decide) (fun c9 => ?_) (fun c9 => ?_)
  · skip
    refine lv_iconst (v := (-1)) hx hb dX9_status_9 (by decide) ?_
    refine lv_goto (tgt := 19) hx hb dX9_status_10 (by decide) ?_
    exact retI F hr hlocks rfl hP hD hS () [] rfl rfl (Nat.le_of_ble_eq_true rfl) (Nat.le_of_ble_eq_true rfl) dX9_status_19 (by rw [if_pos c9])
  · skip
    refine lv_iload_n hx hb dX9_status_4 rfl (lv_at hl 1 rfl) ?_
    refine lv_iconst (v := 2) hx hb dX9_status_5 (by decide) ?_
    refine lv_icmp_le (tgt := 13) hx hb dX9_status_6 (by decide) (fun c8 => ?_) (fun c8 => ?_)
    · skip
      refine lv_aload_n hx hb dX9_status_13 rfl (lv_at hl 0 rfl) ?_
      refine gF (C := RX9) (T := TX9) (ci := 8) (v := .ref rf) F hK hP 0 rfl rfl iwX9 3 (by decide) m_11 (fun _ h => h) g_3 dX9_status_14 ?_
      refine lv_iload_n hx hb dX9_status_17 rfl (lv_at hl 1 rfl) ?_
      refine va_iald hx hb hK.1 hP 1 0 rfl rfl (vp_in_iff.mpr (st_in c9 c8)) dX9_status_18 ?_
      refine lv_toc (v := 0) rfl ?_
      exact retI F hr hlocks rfl hP hD hS () [] rfl rfl (Nat.le_of_ble_eq_true rfl) (Nat.le_of_ble_eq_true rfl) dX9_status_19 (by rw [if_neg c9, if_neg (Int32.not_lt.mpr c8)])
    · skip
      refine lv_iconst (v := (-1)) hx hb dX9_status_9 (by decide) ?_
      refine lv_goto (tgt := 19) hx hb dX9_status_10 (by decide) ?_
      exact retI F hr hlocks rfl hP hD hS () [] rfl rfl (Nat.le_of_ble_eq_true rfl) (Nat.le_of_ble_eq_true rfl) dX9_status_19 (by rw [if_neg c9, if_pos (Int32.not_le.mp c8)])
