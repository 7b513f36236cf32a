theorem dX10_told_0 : decode cX10_told 0 = .ok (.aload_n 0, 1) := by decide +kernel
theorem dX10_told_1 : decode cX10_told 1 = .ok (.iconst 0, 1) := by decide +kernel
theorem dX10_told_2 : decode cX10_told 2 = .ok (.putfield 164, 3) := by decide +kernel
theorem dX10_told_5 : decode cX10_told 5 = .ok (.aload_n 0, 1) := by decide +kernel
theorem dX10_told_6 : decode cX10_told 6 = .ok (.iload_n 1, 1) := by decide +kernel
theorem dX10_told_7 : decode cX10_told 7 = .ok (.iconst 0, 1) := by decide +kernel
theorem dX10_told_8 : decode cX10_told 8 = .ok (.bipush 11, 2) := by decide +kernel
theorem dX10_told_10 : decode cX10_told 10 = .ok (.invokestatic 330, 3) := by decide +kernel
theorem dX10_told_13 : decode cX10_told 13 = .ok (.iconst 1, 1) := by decide +kernel
theorem dX10_told_14 : decode cX10_told 14 = .ok (.iconst 1, 1) := by decide +kernel
theorem dX10_told_15 : decode cX10_told 15 = .ok (.invokevirtual 334, 3) := by decide +kernel
theorem dX10_told_18 : decode cX10_told 18 = .ok (.ifCond .ne 5, 3) := by decide +kernel
theorem dX10_told_21 : decode cX10_told 21 = .ok (.iconst 0, 1) := by decide +kernel
theorem dX10_told_22 : decode cX10_told 22 = .ok (.ireturn, 1) := by decide +kernel
theorem dX10_told_23 : decode cX10_told 23 = .ok (.aload_n 0, 1) := by decide +kernel
theorem dX10_told_24 : decode cX10_told 24 = .ok (.invokevirtual 391, 3) := by decide +kernel
theorem dX10_told_27 : decode cX10_told 27 = .ok (.iload_n 1, 1) := by decide +kernel
theorem dX10_told_28 : decode cX10_told 28 = .ok (.tableswitch 117 0 10 #[60, 65, 70, 75, 80, 85, 90, 95, 100, 105, 111], 60) := by decide +kernel
theorem dX10_told_88 : decode cX10_told 88 = .ok (.aload_n 0, 1) := by decide +kernel
theorem dX10_told_89 : decode cX10_told 89 = .ok (.getfield 344, 3) := by decide +kernel
theorem dX10_told_92 : decode cX10_told 92 = .ok (.ireturn, 1) := by decide +kernel
theorem dX10_told_93 : decode cX10_told 93 = .ok (.aload_n 0, 1) := by decide +kernel
theorem dX10_told_94 : decode cX10_told 94 = .ok (.getfield 181, 3) := by decide +kernel
theorem dX10_told_97 : decode cX10_told 97 = .ok (.ireturn, 1) := by decide +kernel
theorem dX10_told_98 : decode cX10_told 98 = .ok (.aload_n 0, 1) := by decide +kernel
theorem dX10_told_99 : decode cX10_told 99 = .ok (.getfield 191, 3) := by decide +kernel
theorem dX10_told_102 : decode cX10_told 102 = .ok (.ireturn, 1) := by decide +kernel
theorem dX10_told_103 : decode cX10_told 103 = .ok (.aload_n 0, 1) := by decide +kernel
theorem dX10_told_104 : decode cX10_told 104 = .ok (.invokevirtual 468, 3) := by decide +kernel
theorem dX10_told_107 : decode cX10_told 107 = .ok (.ireturn, 1) := by decide +kernel
theorem dX10_told_108 : decode cX10_told 108 = .ok (.aload_n 0, 1) := by decide +kernel
theorem dX10_told_109 : decode cX10_told 109 = .ok (.getfield 400, 3) := by decide +kernel
theorem dX10_told_112 : decode cX10_told 112 = .ok (.ireturn, 1) := by decide +kernel
theorem dX10_told_113 : decode cX10_told 113 = .ok (.aload_n 0, 1) := by decide +kernel
theorem dX10_told_114 : decode cX10_told 114 = .ok (.invokevirtual 471, 3) := by decide +kernel
theorem dX10_told_117 : decode cX10_told 117 = .ok (.ireturn, 1) := by decide +kernel
theorem dX10_told_118 : decode cX10_told 118 = .ok (.aload_n 0, 1) := by decide +kernel
theorem dX10_told_119 : decode cX10_told 119 = .ok (.getfield 347, 3) := by decide +kernel
theorem dX10_told_122 : decode cX10_told 122 = .ok (.ireturn, 1) := by decide +kernel
theorem dX10_told_123 : decode cX10_told 123 = .ok (.aload_n 0, 1) := by decide +kernel
theorem dX10_told_124 : decode cX10_told 124 = .ok (.getfield 350, 3) := by decide +kernel
theorem dX10_told_127 : decode cX10_told 127 = .ok (.ireturn, 1) := by decide +kernel
theorem dX10_told_128 : decode cX10_told 128 = .ok (.aload_n 0, 1) := by decide +kernel
theorem dX10_told_129 : decode cX10_told 129 = .ok (.getfield 209, 3) := by decide +kernel
theorem dX10_told_132 : decode cX10_told 132 = .ok (.ireturn, 1) := by decide +kernel
theorem dX10_told_133 : decode cX10_told 133 = .ok (.aload_n 0, 1) := by decide +kernel
theorem dX10_told_134 : decode cX10_told 134 = .ok (.iconst 2, 1) := by decide +kernel
theorem dX10_told_135 : decode cX10_told 135 = .ok (.invokevirtual 474, 3) := by decide +kernel
theorem dX10_told_138 : decode cX10_told 138 = .ok (.ireturn, 1) := by decide +kernel
theorem dX10_told_139 : decode cX10_told 139 = .ok (.aload_n 0, 1) := by decide +kernel
theorem dX10_told_140 : decode cX10_told 140 = .ok (.iconst 1, 1) := by decide +kernel
theorem dX10_told_141 : decode cX10_told 141 = .ok (.invokevirtual 474, 3) := by decide +kernel
theorem dX10_told_144 : decode cX10_told 144 = .ok (.ireturn, 1) := by decide +kernel
theorem dX10_told_145 : decode cX10_told 145 = .ok (.aload_n 0, 1) := by decide +kernel
theorem dX10_told_146 : decode cX10_told 146 = .ok (.getfield 231, 3) := by decide +kernel
theorem dX10_told_149 : decode cX10_told 149 = .ok (.ireturn, 1) := by decide +kernel
theorem dX10_lettersOf_0 : decode cX10_lettersOf 0 = .ok (.iconst 0, 1) := by decide +kernel
theorem dX10_lettersOf_1 : decode cX10_lettersOf 1 = .ok (.istore_n 2, 1) := by decide +kernel
theorem dX10_lettersOf_2 : decode cX10_lettersOf 2 = .ok (.lload_n 0, 1) := by decide +kernel
theorem dX10_lettersOf_3 : decode cX10_lettersOf 3 = .ok (.lstore_n 3, 1) := by decide +kernel
theorem dX10_lettersOf_4 : decode cX10_lettersOf 4 = .ok (.lload_n 3, 1) := by decide +kernel
theorem dX10_lettersOf_5 : decode cX10_lettersOf 5 = .ok (.lconst 0, 1) := by decide +kernel
theorem dX10_lettersOf_6 : decode cX10_lettersOf 6 = .ok (.lcmp, 1) := by decide +kernel
theorem dX10_lettersOf_7 : decode cX10_lettersOf 7 = .ok (.ifCond .le 15, 3) := by decide +kernel
theorem dX10_lettersOf_22 : decode cX10_lettersOf 22 = .ok (.iload_n 2, 1) := by decide +kernel
theorem dX10_lettersOf_23 : decode cX10_lettersOf 23 = .ok (.ireturn, 1) := by decide +kernel
theorem dX10_nameAt_0 : decode cX10_nameAt 0 = .ok (.aload_n 0, 1) := by decide +kernel
theorem dX10_nameAt_1 : decode cX10_nameAt 1 = .ok (.iconst 0, 1) := by decide +kernel
theorem dX10_nameAt_2 : decode cX10_nameAt 2 = .ok (.putfield 164, 3) := by decide +kernel
theorem dX10_nameAt_5 : decode cX10_nameAt 5 = .ok (.iload_n 1, 1) := by decide +kernel
theorem dX10_nameAt_6 : decode cX10_nameAt 6 = .ok (.ifCond .ne 10, 3) := by decide +kernel
theorem dX10_nameAt_9 : decode cX10_nameAt 9 = .ok (.aload_n 0, 1) := by decide +kernel
theorem dX10_nameAt_10 : decode cX10_nameAt 10 = .ok (.getfield 344, 3) := by decide +kernel
theorem dX10_nameAt_13 : decode cX10_nameAt 13 = .ok (.goto 7, 3) := by decide +kernel
theorem dX10_nameAt_16 : decode cX10_nameAt 16 = .ok (.aload_n 0, 1) := by decide +kernel
theorem dX10_nameAt_17 : decode cX10_nameAt 17 = .ok (.getfield 181, 3) := by decide +kernel
theorem dX10_nameAt_20 : decode cX10_nameAt 20 = .ok (.istore 4, 2) := by decide +kernel
theorem dX10_nameAt_22 : decode cX10_nameAt 22 = .ok (.iload_n 1, 1) := by decide +kernel
theorem dX10_nameAt_23 : decode cX10_nameAt 23 = .ok (.iconst 0, 1) := by decide +kernel
theorem dX10_nameAt_24 : decode cX10_nameAt 24 = .ok (.iconst 1, 1) := by decide +kernel
theorem dX10_nameAt_25 : decode cX10_nameAt 25 = .ok (.invokestatic 330, 3) := by decide +kernel
theorem dX10_nameAt_28 : decode cX10_nameAt 28 = .ok (.istore 5, 2) := by decide +kernel
theorem dX10_nameAt_30 : decode cX10_nameAt 30 = .ok (.iload 5, 2) := by decide +kernel
theorem dX10_nameAt_32 : decode cX10_nameAt 32 = .ok (.ifCond .eq 37, 3) := by decide +kernel
theorem dX10_nameAt_35 : decode cX10_nameAt 35 = .ok (.iload_n 2, 1) := by decide +kernel
theorem dX10_nameAt_36 : decode cX10_nameAt 36 = .ok (.iconst 0, 1) := by decide +kernel
theorem dX10_nameAt_37 : decode cX10_nameAt 37 = .ok (.iload 4, 2) := by decide +kernel
theorem dX10_nameAt_39 : decode cX10_nameAt 39 = .ok (.iconst 1, 1) := by decide +kernel
theorem dX10_nameAt_40 : decode cX10_nameAt 40 = .ok (.isub, 1) := by decide +kernel
theorem dX10_nameAt_41 : decode cX10_nameAt 41 = .ok (.invokestatic 330, 3) := by decide +kernel
theorem dX10_nameAt_44 : decode cX10_nameAt 44 = .ok (.ifCond .eq 25, 3) := by decide +kernel
theorem dX10_nameAt_69 : decode cX10_nameAt 69 = .ok (.lconst 0, 1) := by decide +kernel
theorem dX10_nameAt_70 : decode cX10_nameAt 70 = .ok (.lstore 6, 2) := by decide +kernel
theorem dX10_nameAt_72 : decode cX10_nameAt 72 = .ok (.lload 6, 2) := by decide +kernel
theorem dX10_nameAt_74 : decode cX10_nameAt 74 = .ok (.invokestatic 483, 3) := by decide +kernel
theorem dX10_nameAt_77 : decode cX10_nameAt 77 = .ok (.istore 8, 2) := by decide +kernel
theorem dX10_nameAt_79 : decode cX10_nameAt 79 = .ok (.iload 5, 2) := by decide +kernel
theorem dX10_nameAt_81 : decode cX10_nameAt 81 = .ok (.ifCond .eq 21, 3) := by decide +kernel
theorem dX10_nameAt_84 : decode cX10_nameAt 84 = .ok (.aload_n 0, 1) := by decide +kernel
theorem dX10_nameAt_85 : decode cX10_nameAt 85 = .ok (.iload_n 3, 1) := by decide +kernel
theorem dX10_nameAt_86 : decode cX10_nameAt 86 = .ok (.iconst 0, 1) := by decide +kernel
theorem dX10_nameAt_87 : decode cX10_nameAt 87 = .ok (.iload 8, 2) := by decide +kernel
theorem dX10_nameAt_89 : decode cX10_nameAt 89 = .ok (.iconst 1, 1) := by decide +kernel
theorem dX10_nameAt_90 : decode cX10_nameAt 90 = .ok (.isub, 1) := by decide +kernel
theorem dX10_nameAt_91 : decode cX10_nameAt 91 = .ok (.invokestatic 330, 3) := by decide +kernel
theorem dX10_nameAt_94 : decode cX10_nameAt 94 = .ok (.iconst 1, 1) := by decide +kernel
theorem dX10_nameAt_95 : decode cX10_nameAt 95 = .ok (.iconst 0, 1) := by decide +kernel
theorem dX10_nameAt_96 : decode cX10_nameAt 96 = .ok (.invokevirtual 334, 3) := by decide +kernel
theorem dX10_nameAt_99 : decode cX10_nameAt 99 = .ok (.ifCond .eq 14, 3) := by decide +kernel
theorem dX10_nameAt_102 : decode cX10_nameAt 102 = .ok (.aload_n 0, 1) := by decide +kernel
theorem dX10_nameAt_103 : decode cX10_nameAt 103 = .ok (.iload 5, 2) := by decide +kernel
theorem dX10_nameAt_105 : decode cX10_nameAt 105 = .ok (.iconst 2, 1) := by decide +kernel
theorem dX10_nameAt_106 : decode cX10_nameAt 106 = .ok (.iconst 1, 1) := by decide +kernel
theorem dX10_nameAt_107 : decode cX10_nameAt 107 = .ok (.invokevirtual 334, 3) := by decide +kernel
theorem dX10_nameAt_110 : decode cX10_nameAt 110 = .ok (.ifCond .ne 5, 3) := by decide +kernel
theorem dX10_nameAt_113 : decode cX10_nameAt 113 = .ok (.iconst 0, 1) := by decide +kernel
theorem dX10_nameAt_114 : decode cX10_nameAt 114 = .ok (.ireturn, 1) := by decide +kernel
set_option maxRecDepth 100000 in
set_option maxHeartbeats 4000000 in
theorem m_told_0 (l : Launch) (D : va_G) (Y : Nat → ClassId) (mm : Nat) (kn : Nat) (ps : Nat) (nx : Nat) (ta : Nat) (fa : Nat) (g : Nat → Value) (f1 : Nat → Int32) (f2 : Nat → Int32) (g_2 : g 2 = .int 0) (g_3 : g 3 = .int 0) (g_4 : g 4 = .int 0) (g_10 : g 10 = .ref kn) (g_11 : g 11 = .ref ps) (g_12 : g 12 = .ref nx) (g_13 : g 13 = .ref ta) (g_14 : g 14 = .ref fa) (g_16 : g 16 = .int 0) (g_20 : g 20 = .int 0) (g_46 : g 46 = .int 0) (g_47 : g 47 = .int 0) (g_48 : g 48 = .int 0)  : cM l D Y yX10_told cX10_told 2 (some .int) 3 0 0 [.ref mm, .int 0] [(mm, .inr (9, fl 77 g)), (kn, .inl (Y 2, 640, .inl (fun _ => 0))), (ps, .inl (Y 2, 640, .inl (fun _ => 0))), (nx, .inl (Y 2, 640, .inl (fun _ => 0))), (ta, .inl (Y 0, 640, .inl f1)), (fa, .inl (Y 0, 640, .inl f2))] (qI D (fun (r : Int32) (u : Nat → Value) => r = 0 ∧ u 0 = .int 0) (fun (u : Nat → Value) => [(mm, .inr (9, fl 77 u))])) := by
  refine cM.mk RX10 rfl (by decide) (Nat.le_of_ble_eq_true rfl) ?_
  intro p e s m below meth c A F hr hlocks hin hK hZ hP hD hA hS ls hl
  have hx := F.1
  have hb := F.2.1
  have hl : lv_has ls 2 [(0, .ref mm), (1, .int 0)] := hl
  refine lv_aload_n hx hb dX10_told_0 rfl (lv_at hl 0 rfl) ?_
  refine lv_iconst (v := 0) hx hb dX10_told_1 (by decide) ?_
  refine pF (C := RX10) (T := TX10) (ci := 9) F hK hP hD hS 0 rfl rfl iwX10 tyX10 tyX10_ok nmX10 0 (by decide) m_191 (fun _ h => h) rfl rfl rfl dX10_told_2 (fun H locs hP hD hS => ?_)
  have hP : va_P D vwCl [(mm, .inr (9, fl 77 (va_up g 0 (.int 0)))), (kn, .inl (Y 2, 640, .inl (fun _ => 0))), (ps, .inl (Y 2, 640, .inl (fun _ => 0))), (nx, .inl (Y 2, 640, .inl (fun _ => 0))), (ta, .inl (Y 0, 640, .inl f1)), (fa, .inl (Y 0, 640, .inl f2))] H := hP
  have hD : va_D A [(mm, .inr (9, fl 77 (va_up g 0 (.int 0)))), (kn, .inl (Y 2, 640, .inl (fun _ => 0))), (ps, .inl (Y 2, 640, .inl (fun _ => 0))), (nx, .inl (Y 2, 640, .inl (fun _ => 0))), (ta, .inl (Y 0, 640, .inl f1)), (fa, .inl (Y 0, 640, .inl f2))] := hD
  refine lv_aload_n hx hb dX10_told_5 rfl (lv_at hl 0 rfl) ?_
  refine lv_iload_n hx hb dX10_told_6 rfl (lv_at hl 1 rfl) ?_
  refine lv_iconst (v := 0) hx hb dX10_told_7 (by decide) ?_
  refine lv_bipush (v := 11) hx hb dX10_told_8 (by decide) ?_
  refine goI (wr := [(mm, .inr (9, fl 77 (va_up g 0 (.int 0)))), (kn, .inl (Y 2, 640, .inl (fun _ => 0))), (ps, .inl (Y 2, 640, .inl (fun _ => 0))), (nx, .inl (Y 2, 640, .inl (fun _ => 0))), (ta, .inl (Y 0, 640, .inl f1)), (fa, .inl (Y 0, 640, .inl f2))]) (runS (n := 3) (As := [.int 0, .int 0, .int 11]) (rest := [.ref mm]) F hK hZ hP hD hS hA (c_within1 l D Y 0 0 11  (by decide) (by decide)) [] rfl rfl m_203 m_204 m_196 m_202 (by decide +kernel) rfl ⟨Nat.le_of_ble_eq_true rfl, Nat.le_of_ble_eq_true rfl⟩ hl.1 rfl (Nat.le_of_ble_eq_true rfl) dX10_told_10 ⟨Nat.le_of_ble_eq_true rfl, Nat.le_of_ble_eq_true rfl⟩) hP hD hS hA [] [0, 1, 2, 3, 4, 5] rfl rfl rfl (by decide) (fun r_1 u H locs hw hP hD hS => ?_)
  have hrr := hw
  have hP : va_P D vwCl [(mm, .inr (9, fl 77 (va_up g 0 (.int 0)))), (kn, .inl (Y 2, 640, .inl (fun _ => 0))), (ps, .inl (Y 2, 640, .inl (fun _ => 0))), (nx, .inl (Y 2, 640, .inl (fun _ => 0))), (ta, .inl (Y 0, 640, .inl f1)), (fa, .inl (Y 0, 640, .inl f2))] H := hP
  have hD : va_D A [(mm, .inr (9, fl 77 (va_up g 0 (.int 0)))), (kn, .inl (Y 2, 640, .inl (fun _ => 0))), (ps, .inl (Y 2, 640, .inl (fun _ => 0))), (nx, .inl (Y 2, 640, .inl (fun _ => 0))), (ta, .inl (Y 0, 640, .inl f1)), (fa, .inl (Y 0, 640, .inl f2))] := hD
  subst hrr
  refine W.widen (k := 0) (n := 0) (Nat.le_of_ble_eq_true rfl) (Nat.le_of_ble_eq_true rfl) ?_
  refine lv_iconst (v := 1) hx hb dX10_told_13 (by decide) ?_
  refine lv_iconst (v := 1) hx hb dX10_told_14 (by decide) ?_
  refine goI (wr := [(kn, .inl (Y 2, 640, .inl (fun _ => 0))), (ps, .inl (Y 2, 640, .inl (fun _ => 0))), (nx, .inl (Y 2, 640, .inl (fun _ => 0))), (ta, .inl (Y 0, 640, .inl f1)), (fa, .inl (Y 0, 640, .inl f2))]) (runV (n := 3) (As := [.int 1, .int 1, .int 1]) (rest := []) (C := RX10) (T := TX10) (N := 77) (ci := 9) F hK hZ hP hD hS hA (c_isF1 l D Y mm 1 1 (va_up g 0 (.int 0)) rfl ) 0 rfl rfl [0] rfl rfl m_206 m_207 m_208 m_196 m_205 (by decide +kernel) rfl ⟨Nat.le_of_ble_eq_true rfl, Nat.le_of_ble_eq_true rfl⟩ hl.1 rfl (Nat.le_of_ble_eq_true rfl) dX10_told_15 ⟨Nat.le_of_ble_eq_true rfl, Nat.le_of_ble_eq_true rfl⟩) hP hD hS hA [0] [1, 2, 3, 4, 5] rfl rfl rfl (by decide) (fun r_2 u H locs hw hP hD hS => ?_)
  have hrr := hw
  have hP : va_P D vwCl [(kn, .inl (Y 2, 640, .inl (fun _ => 0))), (ps, .inl (Y 2, 640, .inl (fun _ => 0))), (nx, .inl (Y 2, 640, .inl (fun _ => 0))), (ta, .inl (Y 0, 640, .inl f1)), (fa, .inl (Y 0, 640, .inl f2)), (mm, .inr (9, fl 77 (va_up g 0 (.int 0))))] H := hP
  have hD : va_D A [(kn, .inl (Y 2, 640, .inl (fun _ => 0))), (ps, .inl (Y 2, 640, .inl (fun _ => 0))), (nx, .inl (Y 2, 640, .inl (fun _ => 0))), (ta, .inl (Y 0, 640, .inl f1)), (fa, .inl (Y 0, 640, .inl f2)), (mm, .inr (9, fl 77 (va_up g 0 (.int 0))))] := hD
  subst hrr
  refine W.widen (k := 0) (n := 0) (Nat.le_of_ble_eq_true rfl) (Nat.le_of_ble_eq_true rfl) ?_
  refine lv_if_ne (tgt := 23) hx hb dX10_told_18 (by decide) (fun _ => ?_) (fun c9 => absurd c9 (by decide))
  refine lv_aload_n hx hb dX10_told_23 rfl (lv_at hl 0 rfl) ?_
  refine goV (wr := []) (runV (n := 0) (As := []) (rest := []) (C := RX10) (T := TX10) (N := 77) (ci := 9) F hK hZ hP hD hS hA (m_makes l D Y mm kn ps nx ta fa (va_up g 0 (.int 0)) f1 f2 rfl g_2 g_3 g_4 g_10 g_11 g_12 g_13 g_14 g_16 g_20 g_46 g_47 g_48 ) 5 rfl rfl [5, 0, 1, 2, 3, 4] rfl rfl m_266 m_267 m_268 m_196 m_265 (by decide +kernel) rfl ⟨Nat.le_of_ble_eq_true rfl, Nat.le_of_ble_eq_true rfl⟩ hl.1 rfl (Nat.le_of_ble_eq_true rfl) dX10_told_24 ⟨Nat.le_of_ble_eq_true rfl, Nat.le_of_ble_eq_true rfl⟩) hP hD hS hA [5, 0, 1, 2, 3, 4] [] rfl rfl rfl (by decide) (fun gn_3 H locs hw hP hD hS => ?_)
  obtain ⟨o_4, o_5, o_6, o_7, o_8, o_9, o_10, o_11, o_12⟩ := hw
  have hP : va_P D vwCl [(mm, .inr (9, fl 77 gn_3))] H := hP
  have hD : va_D A [(mm, .inr (9, fl 77 gn_3))] := hD
  refine W.widen (k := 0) (n := 0) (Nat.le_of_ble_eq_true rfl) (Nat.le_of_ble_eq_true rfl) ?_
  refine lv_iload_n hx hb dX10_told_27 rfl (lv_at hl 1 rfl) ?_
  refine lv_tableIn (off := 60) (tgt := 88) hx hb dX10_told_28 (by decide) (by decide) (by decide) (by decide) ?_
  refine lv_aload_n hx hb dX10_told_88 rfl (lv_at hl 0 rfl) ?_
  refine gF (C := RX10) (T := TX10) (ci := 9) (v := .int 0) F hK hP 0 rfl rfl iwX10 2 (by decide) m_201 (fun _ h => h) o_5 dX10_told_89 ?_
  exact retI F hr hlocks rfl hP hD hS gn_3 [0] rfl rfl (Nat.le_of_ble_eq_true rfl) (Nat.le_of_ble_eq_true rfl) dX10_told_92 ⟨rfl, o_4⟩
set_option maxRecDepth 100000 in
set_option maxHeartbeats 4000000 in
theorem m_told_1 (l : Launch) (D : va_G) (Y : Nat → ClassId) (mm : Nat) (kn : Nat) (ps : Nat) (nx : Nat) (ta : Nat) (fa : Nat) (g : Nat → Value) (f1 : Nat → Int32) (f2 : Nat → Int32) (g_2 : g 2 = .int 0) (g_3 : g 3 = .int 0) (g_4 : g 4 = .int 0) (g_10 : g 10 = .ref kn) (g_11 : g 11 = .ref ps) (g_12 : g 12 = .ref nx) (g_13 : g 13 = .ref ta) (g_14 : g 14 = .ref fa) (g_16 : g 16 = .int 0) (g_20 : g 20 = .int 0) (g_46 : g 46 = .int 0) (g_47 : g 47 = .int 0) (g_48 : g 48 = .int 0)  : cM l D Y yX10_told cX10_told 2 (some .int) 3 0 0 [.ref mm, .int 1] [(mm, .inr (9, fl 77 g)), (kn, .inl (Y 2, 640, .inl (fun _ => 0))), (ps, .inl (Y 2, 640, .inl (fun _ => 0))), (nx, .inl (Y 2, 640, .inl (fun _ => 0))), (ta, .inl (Y 0, 640, .inl f1)), (fa, .inl (Y 0, 640, .inl f2))] (qI D (fun (r : Int32) (u : Nat → Value) => r = 0 ∧ u 0 = .int 0) (fun (u : Nat → Value) => [(mm, .inr (9, fl 77 u))])) := by
  refine cM.mk RX10 rfl (by decide) (Nat.le_of_ble_eq_true rfl) ?_
  intro p e s m below meth c A F hr hlocks hin hK hZ hP hD hA hS ls hl
  have hx := F.1
  have hb := F.2.1
  have hl : lv_has ls 2 [(0, .ref mm), (1, .int 1)] := hl
  refine lv_aload_n hx hb dX10_told_0 rfl (lv_at hl 0 rfl) ?_
  refine lv_iconst (v := 0) hx hb dX10_told_1 (by decide) ?_
  refine pF (C := RX10) (T := TX10) (ci := 9) F hK hP hD hS 0 rfl rfl iwX10 tyX10 tyX10_ok nmX10 0 (by decide) m_191 (fun _ h => h) rfl rfl rfl dX10_told_2 (fun H locs hP hD hS => ?_)
  have hP : va_P D vwCl [(mm, .inr (9, fl 77 (va_up g 0 (.int 0)))), (kn, .inl (Y 2, 640, .inl (fun _ => 0))), (ps, .inl (Y 2, 640, .inl (fun _ => 0))), (nx, .inl (Y 2, 640, .inl (fun _ => 0))), (ta, .inl (Y 0, 640, .inl f1)), (fa, .inl (Y 0, 640, .inl f2))] H := hP
  have hD : va_D A [(mm, .inr (9, fl 77 (va_up g 0 (.int 0)))), (kn, .inl (Y 2, 640, .inl (fun _ => 0))), (ps, .inl (Y 2, 640, .inl (fun _ => 0))), (nx, .inl (Y 2, 640, .inl (fun _ => 0))), (ta, .inl (Y 0, 640, .inl f1)), (fa, .inl (Y 0, 640, .inl f2))] := hD
  refine lv_aload_n hx hb dX10_told_5 rfl (lv_at hl 0 rfl) ?_
  refine lv_iload_n hx hb dX10_told_6 rfl (lv_at hl 1 rfl) ?_
  refine lv_iconst (v := 0) hx hb dX10_told_7 (by decide) ?_
  refine lv_bipush (v := 11) hx hb dX10_told_8 (by decide) ?_
  refine goI (wr := [(mm, .inr (9, fl 77 (va_up g 0 (.int 0)))), (kn, .inl (Y 2, 640, .inl (fun _ => 0))), (ps, .inl (Y 2, 640, .inl (fun _ => 0))), (nx, .inl (Y 2, 640, .inl (fun _ => 0))), (ta, .inl (Y 0, 640, .inl f1)), (fa, .inl (Y 0, 640, .inl f2))]) (runS (n := 3) (As := [.int 1, .int 0, .int 11]) (rest := [.ref mm]) F hK hZ hP hD hS hA (c_within1 l D Y 1 0 11  (by decide) (by decide)) [] rfl rfl m_203 m_204 m_196 m_202 (by decide +kernel) rfl ⟨Nat.le_of_ble_eq_true rfl, Nat.le_of_ble_eq_true rfl⟩ hl.1 rfl (Nat.le_of_ble_eq_true rfl) dX10_told_10 ⟨Nat.le_of_ble_eq_true rfl, Nat.le_of_ble_eq_true rfl⟩) hP hD hS hA [] [0, 1, 2, 3, 4, 5] rfl rfl rfl (by decide) (fun r_1 u H locs hw hP hD hS => ?_)
  have hrr := hw
  have hP : va_P D vwCl [(mm, .inr (9, fl 77 (va_up g 0 (.int 0)))), (kn, .inl (Y 2, 640, .inl (fun _ => 0))), (ps, .inl (Y 2, 640, .inl (fun _ => 0))), (nx, .inl (Y 2, 640, .inl (fun _ => 0))), (ta, .inl (Y 0, 640, .inl f1)), (fa, .inl (Y 0, 640, .inl f2))] H := hP
  have hD : va_D A [(mm, .inr (9, fl 77 (va_up g 0 (.int 0)))), (kn, .inl (Y 2, 640, .inl (fun _ => 0))), (ps, .inl (Y 2, 640, .inl (fun _ => 0))), (nx, .inl (Y 2, 640, .inl (fun _ => 0))), (ta, .inl (Y 0, 640, .inl f1)), (fa, .inl (Y 0, 640, .inl f2))] := hD
  subst hrr
  refine W.widen (k := 0) (n := 0) (Nat.le_of_ble_eq_true rfl) (Nat.le_of_ble_eq_true rfl) ?_
  refine lv_iconst (v := 1) hx hb dX10_told_13 (by decide) ?_
  refine lv_iconst (v := 1) hx hb dX10_told_14 (by decide) ?_
  refine goI (wr := [(kn, .inl (Y 2, 640, .inl (fun _ => 0))), (ps, .inl (Y 2, 640, .inl (fun _ => 0))), (nx, .inl (Y 2, 640, .inl (fun _ => 0))), (ta, .inl (Y 0, 640, .inl f1)), (fa, .inl (Y 0, 640, .inl f2))]) (runV (n := 3) (As := [.int 1, .int 1, .int 1]) (rest := []) (C := RX10) (T := TX10) (N := 77) (ci := 9) F hK hZ hP hD hS hA (c_isF1 l D Y mm 1 1 (va_up g 0 (.int 0)) rfl ) 0 rfl rfl [0] rfl rfl m_206 m_207 m_208 m_196 m_205 (by decide +kernel) rfl ⟨Nat.le_of_ble_eq_true rfl, Nat.le_of_ble_eq_true rfl⟩ hl.1 rfl (Nat.le_of_ble_eq_true rfl) dX10_told_15 ⟨Nat.le_of_ble_eq_true rfl, Nat.le_of_ble_eq_true rfl⟩) hP hD hS hA [0] [1, 2, 3, 4, 5] rfl rfl rfl (by decide) (fun r_2 u H locs hw hP hD hS => ?_)
  have hrr := hw
  have hP : va_P D vwCl [(kn, .inl (Y 2, 640, .inl (fun _ => 0))), (ps, .inl (Y 2, 640, .inl (fun _ => 0))), (nx, .inl (Y 2, 640, .inl (fun _ => 0))), (ta, .inl (Y 0, 640, .inl f1)), (fa, .inl (Y 0, 640, .inl f2)), (mm, .inr (9, fl 77 (va_up g 0 (.int 0))))] H := hP
  have hD : va_D A [(kn, .inl (Y 2, 640, .inl (fun _ => 0))), (ps, .inl (Y 2, 640, .inl (fun _ => 0))), (nx, .inl (Y 2, 640, .inl (fun _ => 0))), (ta, .inl (Y 0, 640, .inl f1)), (fa, .inl (Y 0, 640, .inl f2)), (mm, .inr (9, fl 77 (va_up g 0 (.int 0))))] := hD
  subst hrr
  refine W.widen (k := 0) (n := 0) (Nat.le_of_ble_eq_true rfl) (Nat.le_of_ble_eq_true rfl) ?_
  refine lv_if_ne (tgt := 23) hx hb dX10_told_18 (by decide) (fun _ => ?_) (fun c9 => absurd c9 (by decide))
  refine lv_aload_n hx hb dX10_told_23 rfl (lv_at hl 0 rfl) ?_
  refine goV (wr := []) (runV (n := 0) (As := []) (rest := []) (C := RX10) (T := TX10) (N := 77) (ci := 9) F hK hZ hP hD hS hA (m_makes l D Y mm kn ps nx ta fa (va_up g 0 (.int 0)) f1 f2 rfl g_2 g_3 g_4 g_10 g_11 g_12 g_13 g_14 g_16 g_20 g_46 g_47 g_48 ) 5 rfl rfl [5, 0, 1, 2, 3, 4] rfl rfl m_266 m_267 m_268 m_196 m_265 (by decide +kernel) rfl ⟨Nat.le_of_ble_eq_true rfl, Nat.le_of_ble_eq_true rfl⟩ hl.1 rfl (Nat.le_of_ble_eq_true rfl) dX10_told_24 ⟨Nat.le_of_ble_eq_true rfl, Nat.le_of_ble_eq_true rfl⟩) hP hD hS hA [5, 0, 1, 2, 3, 4] [] rfl rfl rfl (by decide) (fun gn_3 H locs hw hP hD hS => ?_)
  obtain ⟨o_4, o_5, o_6, o_7, o_8, o_9, o_10, o_11, o_12⟩ := hw
  have hP : va_P D vwCl [(mm, .inr (9, fl 77 gn_3))] H := hP
  have hD : va_D A [(mm, .inr (9, fl 77 gn_3))] := hD
  refine W.widen (k := 0) (n := 0) (Nat.le_of_ble_eq_true rfl) (Nat.le_of_ble_eq_true rfl) ?_
  refine lv_iload_n hx hb dX10_told_27 rfl (lv_at hl 1 rfl) ?_
  refine lv_tableIn (off := 65) (tgt := 93) hx hb dX10_told_28 (by decide) (by decide) (by decide) (by decide) ?_
  refine lv_aload_n hx hb dX10_told_93 rfl (lv_at hl 0 rfl) ?_
  refine gF (C := RX10) (T := TX10) (ci := 9) (v := .int 0) F hK hP 0 rfl rfl iwX10 3 (by decide) m_227 (fun _ h => h) o_6 dX10_told_94 ?_
  exact retI F hr hlocks rfl hP hD hS gn_3 [0] rfl rfl (Nat.le_of_ble_eq_true rfl) (Nat.le_of_ble_eq_true rfl) dX10_told_97 ⟨rfl, o_4⟩
set_option maxRecDepth 100000 in
set_option maxHeartbeats 4000000 in
theorem m_told_2 (l : Launch) (D : va_G) (Y : Nat → ClassId) (mm : Nat) (kn : Nat) (ps : Nat) (nx : Nat) (ta : Nat) (fa : Nat) (g : Nat → Value) (f1 : Nat → Int32) (f2 : Nat → Int32) (g_2 : g 2 = .int 0) (g_3 : g 3 = .int 0) (g_4 : g 4 = .int 0) (g_10 : g 10 = .ref kn) (g_11 : g 11 = .ref ps) (g_12 : g 12 = .ref nx) (g_13 : g 13 = .ref ta) (g_14 : g 14 = .ref fa) (g_16 : g 16 = .int 0) (g_20 : g 20 = .int 0) (g_46 : g 46 = .int 0) (g_47 : g 47 = .int 0) (g_48 : g 48 = .int 0)  : cM l D Y yX10_told cX10_told 2 (some .int) 3 0 0 [.ref mm, .int 2] [(mm, .inr (9, fl 77 g)), (kn, .inl (Y 2, 640, .inl (fun _ => 0))), (ps, .inl (Y 2, 640, .inl (fun _ => 0))), (nx, .inl (Y 2, 640, .inl (fun _ => 0))), (ta, .inl (Y 0, 640, .inl f1)), (fa, .inl (Y 0, 640, .inl f2))] (qI D (fun (r : Int32) (u : Nat → Value) => r = 0 ∧ u 0 = .int 0) (fun (u : Nat → Value) => [(mm, .inr (9, fl 77 u))])) := by
  refine cM.mk RX10 rfl (by decide) (Nat.le_of_ble_eq_true rfl) ?_
  intro p e s m below meth c A F hr hlocks hin hK hZ hP hD hA hS ls hl
  have hx := F.1
  have hb := F.2.1
  have hl : lv_has ls 2 [(0, .ref mm), (1, .int 2)] := hl
  refine lv_aload_n hx hb dX10_told_0 rfl (lv_at hl 0 rfl) ?_
  refine lv_iconst (v := 0) hx hb dX10_told_1 (by decide) ?_
  refine pF (C := RX10) (T := TX10) (ci := 9) F hK hP hD hS 0 rfl rfl iwX10 tyX10 tyX10_ok nmX10 0 (by decide) m_191 (fun _ h => h) rfl rfl rfl dX10_told_2 (fun H locs hP hD hS => ?_)
  have hP : va_P D vwCl [(mm, .inr (9, fl 77 (va_up g 0 (.int 0)))), (kn, .inl (Y 2, 640, .inl (fun _ => 0))), (ps, .inl (Y 2, 640, .inl (fun _ => 0))), (nx, .inl (Y 2, 640, .inl (fun _ => 0))), (ta, .inl (Y 0, 640, .inl f1)), (fa, .inl (Y 0, 640, .inl f2))] H := hP
  have hD : va_D A [(mm, .inr (9, fl 77 (va_up g 0 (.int 0)))), (kn, .inl (Y 2, 640, .inl (fun _ => 0))), (ps, .inl (Y 2, 640, .inl (fun _ => 0))), (nx, .inl (Y 2, 640, .inl (fun _ => 0))), (ta, .inl (Y 0, 640, .inl f1)), (fa, .inl (Y 0, 640, .inl f2))] := hD
  refine lv_aload_n hx hb dX10_told_5 rfl (lv_at hl 0 rfl) ?_
  refine lv_iload_n hx hb dX10_told_6 rfl (lv_at hl 1 rfl) ?_
  refine lv_iconst (v := 0) hx hb dX10_told_7 (by decide) ?_
  refine lv_bipush (v := 11) hx hb dX10_told_8 (by decide) ?_
  refine goI (wr := [(mm, .inr (9, fl 77 (va_up g 0 (.int 0)))), (kn, .inl (Y 2, 640, .inl (fun _ => 0))), (ps, .inl (Y 2, 640, .inl (fun _ => 0))), (nx, .inl (Y 2, 640, .inl (fun _ => 0))), (ta, .inl (Y 0, 640, .inl f1)), (fa, .inl (Y 0, 640, .inl f2))]) (runS (n := 3) (As := [.int 2, .int 0, .int 11]) (rest := [.ref mm]) F hK hZ hP hD hS hA (c_within1 l D Y 2 0 11  (by decide) (by decide)) [] rfl rfl m_203 m_204 m_196 m_202 (by decide +kernel) rfl ⟨Nat.le_of_ble_eq_true rfl, Nat.le_of_ble_eq_true rfl⟩ hl.1 rfl (Nat.le_of_ble_eq_true rfl) dX10_told_10 ⟨Nat.le_of_ble_eq_true rfl, Nat.le_of_ble_eq_true rfl⟩) hP hD hS hA [] [0, 1, 2, 3, 4, 5] rfl rfl rfl (by decide) (fun r_1 u H locs hw hP hD hS => ?_)
  have hrr := hw
  have hP : va_P D vwCl [(mm, .inr (9, fl 77 (va_up g 0 (.int 0)))), (kn, .inl (Y 2, 640, .inl (fun _ => 0))), (ps, .inl (Y 2, 640, .inl (fun _ => 0))), (nx, .inl (Y 2, 640, .inl (fun _ => 0))), (ta, .inl (Y 0, 640, .inl f1)), (fa, .inl (Y 0, 640, .inl f2))] H := hP
  have hD : va_D A [(mm, .inr (9, fl 77 (va_up g 0 (.int 0)))), (kn, .inl (Y 2, 640, .inl (fun _ => 0))), (ps, .inl (Y 2, 640, .inl (fun _ => 0))), (nx, .inl (Y 2, 640, .inl (fun _ => 0))), (ta, .inl (Y 0, 640, .inl f1)), (fa, .inl (Y 0, 640, .inl f2))] := hD
  subst hrr
  refine W.widen (k := 0) (n := 0) (Nat.le_of_ble_eq_true rfl) (Nat.le_of_ble_eq_true rfl) ?_
  refine lv_iconst (v := 1) hx hb dX10_told_13 (by decide) ?_
  refine lv_iconst (v := 1) hx hb dX10_told_14 (by decide) ?_
  refine goI (wr := [(kn, .inl (Y 2, 640, .inl (fun _ => 0))), (ps, .inl (Y 2, 640, .inl (fun _ => 0))), (nx, .inl (Y 2, 640, .inl (fun _ => 0))), (ta, .inl (Y 0, 640, .inl f1)), (fa, .inl (Y 0, 640, .inl f2))]) (runV (n := 3) (As := [.int 1, .int 1, .int 1]) (rest := []) (C := RX10) (T := TX10) (N := 77) (ci := 9) F hK hZ hP hD hS hA (c_isF1 l D Y mm 1 1 (va_up g 0 (.int 0)) rfl ) 0 rfl rfl [0] rfl rfl m_206 m_207 m_208 m_196 m_205 (by decide +kernel) rfl ⟨Nat.le_of_ble_eq_true rfl, Nat.le_of_ble_eq_true rfl⟩ hl.1 rfl (Nat.le_of_ble_eq_true rfl) dX10_told_15 ⟨Nat.le_of_ble_eq_true rfl, Nat.le_of_ble_eq_true rfl⟩) hP hD hS hA [0] [1, 2, 3, 4, 5] rfl rfl rfl (by decide) (fun r_2 u H locs hw hP hD hS => ?_)
  have hrr := hw
  have hP : va_P D vwCl [(kn, .inl (Y 2, 640, .inl (fun _ => 0))), (ps, .inl (Y 2, 640, .inl (fun _ => 0))), (nx, .inl (Y 2, 640, .inl (fun _ => 0))), (ta, .inl (Y 0, 640, .inl f1)), (fa, .inl (Y 0, 640, .inl f2)), (mm, .inr (9, fl 77 (va_up g 0 (.int 0))))] H := hP
  have hD : va_D A [(kn, .inl (Y 2, 640, .inl (fun _ => 0))), (ps, .inl (Y 2, 640, .inl (fun _ => 0))), (nx, .inl (Y 2, 640, .inl (fun _ => 0))), (ta, .inl (Y 0, 640, .inl f1)), (fa, .inl (Y 0, 640, .inl f2)), (mm, .inr (9, fl 77 (va_up g 0 (.int 0))))] := hD
  subst hrr
  refine W.widen (k := 0) (n := 0) (Nat.le_of_ble_eq_true rfl) (Nat.le_of_ble_eq_true rfl) ?_
  refine lv_if_ne (tgt := 23) hx hb dX10_told_18 (by decide) (fun _ => ?_) (fun c9 => absurd c9 (by decide))
  refine lv_aload_n hx hb dX10_told_23 rfl (lv_at hl 0 rfl) ?_
  refine goV (wr := []) (runV (n := 0) (As := []) (rest := []) (C := RX10) (T := TX10) (N := 77) (ci := 9) F hK hZ hP hD hS hA (m_makes l D Y mm kn ps nx ta fa (va_up g 0 (.int 0)) f1 f2 rfl g_2 g_3 g_4 g_10 g_11 g_12 g_13 g_14 g_16 g_20 g_46 g_47 g_48 ) 5 rfl rfl [5, 0, 1, 2, 3, 4] rfl rfl m_266 m_267 m_268 m_196 m_265 (by decide +kernel) rfl ⟨Nat.le_of_ble_eq_true rfl, Nat.le_of_ble_eq_true rfl⟩ hl.1 rfl (Nat.le_of_ble_eq_true rfl) dX10_told_24 ⟨Nat.le_of_ble_eq_true rfl, Nat.le_of_ble_eq_true rfl⟩) hP hD hS hA [5, 0, 1, 2, 3, 4] [] rfl rfl rfl (by decide) (fun gn_3 H locs hw hP hD hS => ?_)
  obtain ⟨o_4, o_5, o_6, o_7, o_8, o_9, o_10, o_11, o_12⟩ := hw
  have hP : va_P D vwCl [(mm, .inr (9, fl 77 gn_3))] H := hP
  have hD : va_D A [(mm, .inr (9, fl 77 gn_3))] := hD
  refine W.widen (k := 0) (n := 0) (Nat.le_of_ble_eq_true rfl) (Nat.le_of_ble_eq_true rfl) ?_
  refine lv_iload_n hx hb dX10_told_27 rfl (lv_at hl 1 rfl) ?_
  refine lv_tableIn (off := 70) (tgt := 98) hx hb dX10_told_28 (by decide) (by decide) (by decide) (by decide) ?_
  refine lv_aload_n hx hb dX10_told_98 rfl (lv_at hl 0 rfl) ?_
  refine gF (C := RX10) (T := TX10) (ci := 9) (v := .int 0) F hK hP 0 rfl rfl iwX10 4 (by decide) m_213 (fun _ h => h) o_7 dX10_told_99 ?_
  exact retI F hr hlocks rfl hP hD hS gn_3 [0] rfl rfl (Nat.le_of_ble_eq_true rfl) (Nat.le_of_ble_eq_true rfl) dX10_told_102 ⟨rfl, o_4⟩
set_option maxRecDepth 100000 in
set_option maxHeartbeats 4000000 in
theorem m_told_3 (l : Launch) (D : va_G) (Y : Nat → ClassId) (mm : Nat) (kn : Nat) (ps : Nat) (nx : Nat) (ta : Nat) (fa : Nat) (g : Nat → Value) (f1 : Nat → Int32) (f2 : Nat → Int32) (g_2 : g 2 = .int 0) (g_3 : g 3 = .int 0) (g_4 : g 4 = .int 0) (g_10 : g 10 = .ref kn) (g_11 : g 11 = .ref ps) (g_12 : g 12 = .ref nx) (g_13 : g 13 = .ref ta) (g_14 : g 14 = .ref fa) (g_16 : g 16 = .int 0) (g_20 : g 20 = .int 0) (g_46 : g 46 = .int 0) (g_47 : g 47 = .int 0) (g_48 : g 48 = .int 0)  : cM l D Y yX10_told cX10_told 2 (some .int) 3 0 0 [.ref mm, .int 3] [(mm, .inr (9, fl 77 g)), (kn, .inl (Y 2, 640, .inl (fun _ => 0))), (ps, .inl (Y 2, 640, .inl (fun _ => 0))), (nx, .inl (Y 2, 640, .inl (fun _ => 0))), (ta, .inl (Y 0, 640, .inl f1)), (fa, .inl (Y 0, 640, .inl f2))] (qI D (fun (r : Int32) (u : Nat → Value) => r = 0 ∧ u 0 = .int 0) (fun (u : Nat → Value) => [(mm, .inr (9, fl 77 u))])) := by
  refine cM.mk RX10 rfl (by decide) (Nat.le_of_ble_eq_true rfl) ?_
  intro p e s m below meth c A F hr hlocks hin hK hZ hP hD hA hS ls hl
  have hx := F.1
  have hb := F.2.1
  have hl : lv_has ls 2 [(0, .ref mm), (1, .int 3)] := hl
  refine lv_aload_n hx hb dX10_told_0 rfl (lv_at hl 0 rfl) ?_
  refine lv_iconst (v := 0) hx hb dX10_told_1 (by decide) ?_
  refine pF (C := RX10) (T := TX10) (ci := 9) F hK hP hD hS 0 rfl rfl iwX10 tyX10 tyX10_ok nmX10 0 (by decide) m_191 (fun _ h => h) rfl rfl rfl dX10_told_2 (fun H locs hP hD hS => ?_)
  have hP : va_P D vwCl [(mm, .inr (9, fl 77 (va_up g 0 (.int 0)))), (kn, .inl (Y 2, 640, .inl (fun _ => 0))), (ps, .inl (Y 2, 640, .inl (fun _ => 0))), (nx, .inl (Y 2, 640, .inl (fun _ => 0))), (ta, .inl (Y 0, 640, .inl f1)), (fa, .inl (Y 0, 640, .inl f2))] H := hP
  have hD : va_D A [(mm, .inr (9, fl 77 (va_up g 0 (.int 0)))), (kn, .inl (Y 2, 640, .inl (fun _ => 0))), (ps, .inl (Y 2, 640, .inl (fun _ => 0))), (nx, .inl (Y 2, 640, .inl (fun _ => 0))), (ta, .inl (Y 0, 640, .inl f1)), (fa, .inl (Y 0, 640, .inl f2))] := hD
  refine lv_aload_n hx hb dX10_told_5 rfl (lv_at hl 0 rfl) ?_
  refine lv_iload_n hx hb dX10_told_6 rfl (lv_at hl 1 rfl) ?_
  refine lv_iconst (v := 0) hx hb dX10_told_7 (by decide) ?_
  refine lv_bipush (v := 11) hx hb dX10_told_8 (by decide) ?_
  refine goI (wr := [(mm, .inr (9, fl 77 (va_up g 0 (.int 0)))), (kn, .inl (Y 2, 640, .inl (fun _ => 0))), (ps, .inl (Y 2, 640, .inl (fun _ => 0))), (nx, .inl (Y 2, 640, .inl (fun _ => 0))), (ta, .inl (Y 0, 640, .inl f1)), (fa, .inl (Y 0, 640, .inl f2))]) (runS (n := 3) (As := [.int 3, .int 0, .int 11]) (rest := [.ref mm]) F hK hZ hP hD hS hA (c_within1 l D Y 3 0 11  (by decide) (by decide)) [] rfl rfl m_203 m_204 m_196 m_202 (by decide +kernel) rfl ⟨Nat.le_of_ble_eq_true rfl, Nat.le_of_ble_eq_true rfl⟩ hl.1 rfl (Nat.le_of_ble_eq_true rfl) dX10_told_10 ⟨Nat.le_of_ble_eq_true rfl, Nat.le_of_ble_eq_true rfl⟩) hP hD hS hA [] [0, 1, 2, 3, 4, 5] rfl rfl rfl (by decide) (fun r_1 u H locs hw hP hD hS => ?_)
  have hrr := hw
  have hP : va_P D vwCl [(mm, .inr (9, fl 77 (va_up g 0 (.int 0)))), (kn, .inl (Y 2, 640, .inl (fun _ => 0))), (ps, .inl (Y 2, 640, .inl (fun _ => 0))), (nx, .inl (Y 2, 640, .inl (fun _ => 0))), (ta, .inl (Y 0, 640, .inl f1)), (fa, .inl (Y 0, 640, .inl f2))] H := hP
  have hD : va_D A [(mm, .inr (9, fl 77 (va_up g 0 (.int 0)))), (kn, .inl (Y 2, 640, .inl (fun _ => 0))), (ps, .inl (Y 2, 640, .inl (fun _ => 0))), (nx, .inl (Y 2, 640, .inl (fun _ => 0))), (ta, .inl (Y 0, 640, .inl f1)), (fa, .inl (Y 0, 640, .inl f2))] := hD
  subst hrr
  refine W.widen (k := 0) (n := 0) (Nat.le_of_ble_eq_true rfl) (Nat.le_of_ble_eq_true rfl) ?_
  refine lv_iconst (v := 1) hx hb dX10_told_13 (by decide) ?_
  refine lv_iconst (v := 1) hx hb dX10_told_14 (by decide) ?_
  refine goI (wr := [(kn, .inl (Y 2, 640, .inl (fun _ => 0))), (ps, .inl (Y 2, 640, .inl (fun _ => 0))), (nx, .inl (Y 2, 640, .inl (fun _ => 0))), (ta, .inl (Y 0, 640, .inl f1)), (fa, .inl (Y 0, 640, .inl f2))]) (runV (n := 3) (As := [.int 1, .int 1, .int 1]) (rest := []) (C := RX10) (T := TX10) (N := 77) (ci := 9) F hK hZ hP hD hS hA (c_isF1 l D Y mm 1 1 (va_up g 0 (.int 0)) rfl ) 0 rfl rfl [0] rfl rfl m_206 m_207 m_208 m_196 m_205 (by decide +kernel) rfl ⟨Nat.le_of_ble_eq_true rfl, Nat.le_of_ble_eq_true rfl⟩ hl.1 rfl (Nat.le_of_ble_eq_true rfl) dX10_told_15 ⟨Nat.le_of_ble_eq_true rfl, Nat.le_of_ble_eq_true rfl⟩) hP hD hS hA [0] [1, 2, 3, 4, 5] rfl rfl rfl (by decide) (fun r_2 u H locs hw hP hD hS => ?_)
  have hrr := hw
  have hP : va_P D vwCl [(kn, .inl (Y 2, 640, .inl (fun _ => 0))), (ps, .inl (Y 2, 640, .inl (fun _ => 0))), (nx, .inl (Y 2, 640, .inl (fun _ => 0))), (ta, .inl (Y 0, 640, .inl f1)), (fa, .inl (Y 0, 640, .inl f2)), (mm, .inr (9, fl 77 (va_up g 0 (.int 0))))] H := hP
  have hD : va_D A [(kn, .inl (Y 2, 640, .inl (fun _ => 0))), (ps, .inl (Y 2, 640, .inl (fun _ => 0))), (nx, .inl (Y 2, 640, .inl (fun _ => 0))), (ta, .inl (Y 0, 640, .inl f1)), (fa, .inl (Y 0, 640, .inl f2)), (mm, .inr (9, fl 77 (va_up g 0 (.int 0))))] := hD
  subst hrr
  refine W.widen (k := 0) (n := 0) (Nat.le_of_ble_eq_true rfl) (Nat.le_of_ble_eq_true rfl) ?_
  refine lv_if_ne (tgt := 23) hx hb dX10_told_18 (by decide) (fun _ => ?_) (fun c9 => absurd c9 (by decide))
  refine lv_aload_n hx hb dX10_told_23 rfl (lv_at hl 0 rfl) ?_
  refine goV (wr := []) (runV (n := 0) (As := []) (rest := []) (C := RX10) (T := TX10) (N := 77) (ci := 9) F hK hZ hP hD hS hA (m_makes l D Y mm kn ps nx ta fa (va_up g 0 (.int 0)) f1 f2 rfl g_2 g_3 g_4 g_10 g_11 g_12 g_13 g_14 g_16 g_20 g_46 g_47 g_48 ) 5 rfl rfl [5, 0, 1, 2, 3, 4] rfl rfl m_266 m_267 m_268 m_196 m_265 (by decide +kernel) rfl ⟨Nat.le_of_ble_eq_true rfl, Nat.le_of_ble_eq_true rfl⟩ hl.1 rfl (Nat.le_of_ble_eq_true rfl) dX10_told_24 ⟨Nat.le_of_ble_eq_true rfl, Nat.le_of_ble_eq_true rfl⟩) hP hD hS hA [5, 0, 1, 2, 3, 4] [] rfl rfl rfl (by decide) (fun gn_3 H locs hw hP hD hS => ?_)
  obtain ⟨o_4, o_5, o_6, o_7, o_8, o_9, o_10, o_11, o_12⟩ := hw
  have hP : va_P D vwCl [(mm, .inr (9, fl 77 gn_3))] H := hP
  have hD : va_D A [(mm, .inr (9, fl 77 gn_3))] := hD
  refine W.widen (k := 0) (n := 0) (Nat.le_of_ble_eq_true rfl) (Nat.le_of_ble_eq_true rfl) ?_
  refine lv_iload_n hx hb dX10_told_27 rfl (lv_at hl 1 rfl) ?_
  refine lv_tableIn (off := 75) (tgt := 103) hx hb dX10_told_28 (by decide) (by decide) (by decide) (by decide) ?_
  refine lv_aload_n hx hb dX10_told_103 rfl (lv_at hl 0 rfl) ?_
  refine goI (wr := []) (runV (n := 0) (As := []) (rest := []) (C := RX10) (T := TX10) (N := 77) (ci := 9) F hK hZ hP hD hS hA (m_factM l D Y mm 0 gn_3 o_4 o_7 ) 0 rfl rfl [0] rfl rfl m_270 m_271 m_272 m_196 m_269 (by decide +kernel) rfl ⟨Nat.le_of_ble_eq_true rfl, Nat.le_of_ble_eq_true rfl⟩ hl.1 rfl (Nat.le_of_ble_eq_true rfl) dX10_told_104 ⟨Nat.le_of_ble_eq_true rfl, Nat.le_of_ble_eq_true rfl⟩) hP hD hS hA [0] [] rfl rfl rfl (by decide) (fun r_14 u H locs hw hP hD hS => ?_)
  have hrr := hw
  have hP : va_P D vwCl [(mm, .inr (9, fl 77 gn_3))] H := hP
  have hD : va_D A [(mm, .inr (9, fl 77 gn_3))] := hD
  subst hrr
  refine W.widen (k := 0) (n := 0) (Nat.le_of_ble_eq_true rfl) (Nat.le_of_ble_eq_true rfl) ?_
  exact retI F hr hlocks rfl hP hD hS gn_3 [0] rfl rfl (Nat.le_of_ble_eq_true rfl) (Nat.le_of_ble_eq_true rfl) dX10_told_107 ⟨rfl, o_4⟩
set_option maxRecDepth 100000 in
set_option maxHeartbeats 4000000 in
theorem m_told_4 (l : Launch) (D : va_G) (Y : Nat → ClassId) (mm : Nat) (kn : Nat) (ps : Nat) (nx : Nat) (ta : Nat) (fa : Nat) (g : Nat → Value) (f1 : Nat → Int32) (f2 : Nat → Int32) (g_2 : g 2 = .int 0) (g_3 : g 3 = .int 0) (g_4 : g 4 = .int 0) (g_10 : g 10 = .ref kn) (g_11 : g 11 = .ref ps) (g_12 : g 12 = .ref nx) (g_13 : g 13 = .ref ta) (g_14 : g 14 = .ref fa) (g_16 : g 16 = .int 0) (g_20 : g 20 = .int 0) (g_46 : g 46 = .int 0) (g_47 : g 47 = .int 0) (g_48 : g 48 = .int 0)  : cM l D Y yX10_told cX10_told 2 (some .int) 3 0 0 [.ref mm, .int 4] [(mm, .inr (9, fl 77 g)), (kn, .inl (Y 2, 640, .inl (fun _ => 0))), (ps, .inl (Y 2, 640, .inl (fun _ => 0))), (nx, .inl (Y 2, 640, .inl (fun _ => 0))), (ta, .inl (Y 0, 640, .inl f1)), (fa, .inl (Y 0, 640, .inl f2))] (qI D (fun (r : Int32) (u : Nat → Value) => r = 0 ∧ u 0 = .int 0) (fun (u : Nat → Value) => [(mm, .inr (9, fl 77 u))])) := by
  refine cM.mk RX10 rfl (by decide) (Nat.le_of_ble_eq_true rfl) ?_
  intro p e s m below meth c A F hr hlocks hin hK hZ hP hD hA hS ls hl
  have hx := F.1
  have hb := F.2.1
  have hl : lv_has ls 2 [(0, .ref mm), (1, .int 4)] := hl
  refine lv_aload_n hx hb dX10_told_0 rfl (lv_at hl 0 rfl) ?_
  refine lv_iconst (v := 0) hx hb dX10_told_1 (by decide) ?_
  refine pF (C := RX10) (T := TX10) (ci := 9) F hK hP hD hS 0 rfl rfl iwX10 tyX10 tyX10_ok nmX10 0 (by decide) m_191 (fun _ h => h) rfl rfl rfl dX10_told_2 (fun H locs hP hD hS => ?_)
  have hP : va_P D vwCl [(mm, .inr (9, fl 77 (va_up g 0 (.int 0)))), (kn, .inl (Y 2, 640, .inl (fun _ => 0))), (ps, .inl (Y 2, 640, .inl (fun _ => 0))), (nx, .inl (Y 2, 640, .inl (fun _ => 0))), (ta, .inl (Y 0, 640, .inl f1)), (fa, .inl (Y 0, 640, .inl f2))] H := hP
  have hD : va_D A [(mm, .inr (9, fl 77 (va_up g 0 (.int 0)))), (kn, .inl (Y 2, 640, .inl (fun _ => 0))), (ps, .inl (Y 2, 640, .inl (fun _ => 0))), (nx, .inl (Y 2, 640, .inl (fun _ => 0))), (ta, .inl (Y 0, 640, .inl f1)), (fa, .inl (Y 0, 640, .inl f2))] := hD
  refine lv_aload_n hx hb dX10_told_5 rfl (lv_at hl 0 rfl) ?_
  refine lv_iload_n hx hb dX10_told_6 rfl (lv_at hl 1 rfl) ?_
  refine lv_iconst (v := 0) hx hb dX10_told_7 (by decide) ?_
  refine lv_bipush (v := 11) hx hb dX10_told_8 (by decide) ?_
  refine goI (wr := [(mm, .inr (9, fl 77 (va_up g 0 (.int 0)))), (kn, .inl (Y 2, 640, .inl (fun _ => 0))), (ps, .inl (Y 2, 640, .inl (fun _ => 0))), (nx, .inl (Y 2, 640, .inl (fun _ => 0))), (ta, .inl (Y 0, 640, .inl f1)), (fa, .inl (Y 0, 640, .inl f2))]) (runS (n := 3) (As := [.int 4, .int 0, .int 11]) (rest := [.ref mm]) F hK hZ hP hD hS hA (c_within1 l D Y 4 0 11  (by decide) (by decide)) [] rfl rfl m_203 m_204 m_196 m_202 (by decide +kernel) rfl ⟨Nat.le_of_ble_eq_true rfl, Nat.le_of_ble_eq_true rfl⟩ hl.1 rfl (Nat.le_of_ble_eq_true rfl) dX10_told_10 ⟨Nat.le_of_ble_eq_true rfl, Nat.le_of_ble_eq_true rfl⟩) hP hD hS hA [] [0, 1, 2, 3, 4, 5] rfl rfl rfl (by decide) (fun r_1 u H locs hw hP hD hS => ?_)
  have hrr := hw
  have hP : va_P D vwCl [(mm, .inr (9, fl 77 (va_up g 0 (.int 0)))), (kn, .inl (Y 2, 640, .inl (fun _ => 0))), (ps, .inl (Y 2, 640, .inl (fun _ => 0))), (nx, .inl (Y 2, 640, .inl (fun _ => 0))), (ta, .inl (Y 0, 640, .inl f1)), (fa, .inl (Y 0, 640, .inl f2))] H := hP
  have hD : va_D A [(mm, .inr (9, fl 77 (va_up g 0 (.int 0)))), (kn, .inl (Y 2, 640, .inl (fun _ => 0))), (ps, .inl (Y 2, 640, .inl (fun _ => 0))), (nx, .inl (Y 2, 640, .inl (fun _ => 0))), (ta, .inl (Y 0, 640, .inl f1)), (fa, .inl (Y 0, 640, .inl f2))] := hD
  subst hrr
  refine W.widen (k := 0) (n := 0) (Nat.le_of_ble_eq_true rfl) (Nat.le_of_ble_eq_true rfl) ?_
  refine lv_iconst (v := 1) hx hb dX10_told_13 (by decide) ?_
  refine lv_iconst (v := 1) hx hb dX10_told_14 (by decide) ?_
  refine goI (wr := [(kn, .inl (Y 2, 640, .inl (fun _ => 0))), (ps, .inl (Y 2, 640, .inl (fun _ => 0))), (nx, .inl (Y 2, 640, .inl (fun _ => 0))), (ta, .inl (Y 0, 640, .inl f1)), (fa, .inl (Y 0, 640, .inl f2))]) (runV (n := 3) (As := [.int 1, .int 1, .int 1]) (rest := []) (C := RX10) (T := TX10) (N := 77) (ci := 9) F hK hZ hP hD hS hA (c_isF1 l D Y mm 1 1 (va_up g 0 (.int 0)) rfl ) 0 rfl rfl [0] rfl rfl m_206 m_207 m_208 m_196 m_205 (by decide +kernel) rfl ⟨Nat.le_of_ble_eq_true rfl, Nat.le_of_ble_eq_true rfl⟩ hl.1 rfl (Nat.le_of_ble_eq_true rfl) dX10_told_15 ⟨Nat.le_of_ble_eq_true rfl, Nat.le_of_ble_eq_true rfl⟩) hP hD hS hA [0] [1, 2, 3, 4, 5] rfl rfl rfl (by decide) (fun r_2 u H locs hw hP hD hS => ?_)
  have hrr := hw
  have hP : va_P D vwCl [(kn, .inl (Y 2, 640, .inl (fun _ => 0))), (ps, .inl (Y 2, 640, .inl (fun _ => 0))), (nx, .inl (Y 2, 640, .inl (fun _ => 0))), (ta, .inl (Y 0, 640, .inl f1)), (fa, .inl (Y 0, 640, .inl f2)), (mm, .inr (9, fl 77 (va_up g 0 (.int 0))))] H := hP
  have hD : va_D A [(kn, .inl (Y 2, 640, .inl (fun _ => 0))), (ps, .inl (Y 2, 640, .inl (fun _ => 0))), (nx, .inl (Y 2, 640, .inl (fun _ => 0))), (ta, .inl (Y 0, 640, .inl f1)), (fa, .inl (Y 0, 640, .inl f2)), (mm, .inr (9, fl 77 (va_up g 0 (.int 0))))] := hD
  subst hrr
  refine W.widen (k := 0) (n := 0) (Nat.le_of_ble_eq_true rfl) (Nat.le_of_ble_eq_true rfl) ?_
  refine lv_if_ne (tgt := 23) hx hb dX10_told_18 (by decide) (fun _ => ?_) (fun c9 => absurd c9 (by decide))
  refine lv_aload_n hx hb dX10_told_23 rfl (lv_at hl 0 rfl) ?_
  refine goV (wr := []) (runV (n := 0) (As := []) (rest := []) (C := RX10) (T := TX10) (N := 77) (ci := 9) F hK hZ hP hD hS hA (m_makes l D Y mm kn ps nx ta fa (va_up g 0 (.int 0)) f1 f2 rfl g_2 g_3 g_4 g_10 g_11 g_12 g_13 g_14 g_16 g_20 g_46 g_47 g_48 ) 5 rfl rfl [5, 0, 1, 2, 3, 4] rfl rfl m_266 m_267 m_268 m_196 m_265 (by decide +kernel) rfl ⟨Nat.le_of_ble_eq_true rfl, Nat.le_of_ble_eq_true rfl⟩ hl.1 rfl (Nat.le_of_ble_eq_true rfl) dX10_told_24 ⟨Nat.le_of_ble_eq_true rfl, Nat.le_of_ble_eq_true rfl⟩) hP hD hS hA [5, 0, 1, 2, 3, 4] [] rfl rfl rfl (by decide) (fun gn_3 H locs hw hP hD hS => ?_)
  obtain ⟨o_4, o_5, o_6, o_7, o_8, o_9, o_10, o_11, o_12⟩ := hw
  have hP : va_P D vwCl [(mm, .inr (9, fl 77 gn_3))] H := hP
  have hD : va_D A [(mm, .inr (9, fl 77 gn_3))] := hD
  refine W.widen (k := 0) (n := 0) (Nat.le_of_ble_eq_true rfl) (Nat.le_of_ble_eq_true rfl) ?_
  refine lv_iload_n hx hb dX10_told_27 rfl (lv_at hl 1 rfl) ?_
  refine lv_tableIn (off := 80) (tgt := 108) hx hb dX10_told_28 (by decide) (by decide) (by decide) (by decide) ?_
  refine lv_aload_n hx hb dX10_told_108 rfl (lv_at hl 0 rfl) ?_
  refine gF (C := RX10) (T := TX10) (ci := 9) (v := .int 0) F hK hP 0 rfl rfl iwX10 46 (by decide) m_214 (fun _ h => h) o_10 dX10_told_109 ?_
  exact retI F hr hlocks rfl hP hD hS gn_3 [0] rfl rfl (Nat.le_of_ble_eq_true rfl) (Nat.le_of_ble_eq_true rfl) dX10_told_112 ⟨rfl, o_4⟩
set_option maxRecDepth 100000 in
set_option maxHeartbeats 4000000 in
theorem m_told_5 (l : Launch) (D : va_G) (Y : Nat → ClassId) (mm : Nat) (kn : Nat) (ps : Nat) (nx : Nat) (ta : Nat) (fa : Nat) (g : Nat → Value) (f1 : Nat → Int32) (f2 : Nat → Int32) (g_2 : g 2 = .int 0) (g_3 : g 3 = .int 0) (g_4 : g 4 = .int 0) (g_10 : g 10 = .ref kn) (g_11 : g 11 = .ref ps) (g_12 : g 12 = .ref nx) (g_13 : g 13 = .ref ta) (g_14 : g 14 = .ref fa) (g_16 : g 16 = .int 0) (g_20 : g 20 = .int 0) (g_46 : g 46 = .int 0) (g_47 : g 47 = .int 0) (g_48 : g 48 = .int 0)  : cM l D Y yX10_told cX10_told 2 (some .int) 3 0 0 [.ref mm, .int 5] [(mm, .inr (9, fl 77 g)), (kn, .inl (Y 2, 640, .inl (fun _ => 0))), (ps, .inl (Y 2, 640, .inl (fun _ => 0))), (nx, .inl (Y 2, 640, .inl (fun _ => 0))), (ta, .inl (Y 0, 640, .inl f1)), (fa, .inl (Y 0, 640, .inl f2))] (qI D (fun (r : Int32) (u : Nat → Value) => r = 0 ∧ u 0 = .int 0) (fun (u : Nat → Value) => [(mm, .inr (9, fl 77 u))])) := by
  refine cM.mk RX10 rfl (by decide) (Nat.le_of_ble_eq_true rfl) ?_
  intro p e s m below meth c A F hr hlocks hin hK hZ hP hD hA hS ls hl
  have hx := F.1
  have hb := F.2.1
  have hl : lv_has ls 2 [(0, .ref mm), (1, .int 5)] := hl
  refine lv_aload_n hx hb dX10_told_0 rfl (lv_at hl 0 rfl) ?_
  refine lv_iconst (v := 0) hx hb dX10_told_1 (by decide) ?_
  refine pF (C := RX10) (T := TX10) (ci := 9) F hK hP hD hS 0 rfl rfl iwX10 tyX10 tyX10_ok nmX10 0 (by decide) m_191 (fun _ h => h) rfl rfl rfl dX10_told_2 (fun H locs hP hD hS => ?_)
  have hP : va_P D vwCl [(mm, .inr (9, fl 77 (va_up g 0 (.int 0)))), (kn, .inl (Y 2, 640, .inl (fun _ => 0))), (ps, .inl (Y 2, 640, .inl (fun _ => 0))), (nx, .inl (Y 2, 640, .inl (fun _ => 0))), (ta, .inl (Y 0, 640, .inl f1)), (fa, .inl (Y 0, 640, .inl f2))] H := hP
  have hD : va_D A [(mm, .inr (9, fl 77 (va_up g 0 (.int 0)))), (kn, .inl (Y 2, 640, .inl (fun _ => 0))), (ps, .inl (Y 2, 640, .inl (fun _ => 0))), (nx, .inl (Y 2, 640, .inl (fun _ => 0))), (ta, .inl (Y 0, 640, .inl f1)), (fa, .inl (Y 0, 640, .inl f2))] := hD
  refine lv_aload_n hx hb dX10_told_5 rfl (lv_at hl 0 rfl) ?_
  refine lv_iload_n hx hb dX10_told_6 rfl (lv_at hl 1 rfl) ?_
  refine lv_iconst (v := 0) hx hb dX10_told_7 (by decide) ?_
  refine lv_bipush (v := 11) hx hb dX10_told_8 (by decide) ?_
  refine goI (wr := [(mm, .inr (9, fl 77 (va_up g 0 (.int 0)))), (kn, .inl (Y 2, 640, .inl (fun _ => 0))), (ps, .inl (Y 2, 640, .inl (fun _ => 0))), (nx, .inl (Y 2, 640, .inl (fun _ => 0))), (ta, .inl (Y 0, 640, .inl f1)), (fa, .inl (Y 0, 640, .inl f2))]) (runS (n := 3) (As := [.int 5, .int 0, .int 11]) (rest := [.ref mm]) F hK hZ hP hD hS hA (c_within1 l D Y 5 0 11  (by decide) (by decide)) [] rfl rfl m_203 m_204 m_196 m_202 (by decide +kernel) rfl ⟨Nat.le_of_ble_eq_true rfl, Nat.le_of_ble_eq_true rfl⟩ hl.1 rfl (Nat.le_of_ble_eq_true rfl) dX10_told_10 ⟨Nat.le_of_ble_eq_true rfl, Nat.le_of_ble_eq_true rfl⟩) hP hD hS hA [] [0, 1, 2, 3, 4, 5] rfl rfl rfl (by decide) (fun r_1 u H locs hw hP hD hS => ?_)
  have hrr := hw
  have hP : va_P D vwCl [(mm, .inr (9, fl 77 (va_up g 0 (.int 0)))), (kn, .inl (Y 2, 640, .inl (fun _ => 0))), (ps, .inl (Y 2, 640, .inl (fun _ => 0))), (nx, .inl (Y 2, 640, .inl (fun _ => 0))), (ta, .inl (Y 0, 640, .inl f1)), (fa, .inl (Y 0, 640, .inl f2))] H := hP
  have hD : va_D A [(mm, .inr (9, fl 77 (va_up g 0 (.int 0)))), (kn, .inl (Y 2, 640, .inl (fun _ => 0))), (ps, .inl (Y 2, 640, .inl (fun _ => 0))), (nx, .inl (Y 2, 640, .inl (fun _ => 0))), (ta, .inl (Y 0, 640, .inl f1)), (fa, .inl (Y 0, 640, .inl f2))] := hD
  subst hrr
  refine W.widen (k := 0) (n := 0) (Nat.le_of_ble_eq_true rfl) (Nat.le_of_ble_eq_true rfl) ?_
  refine lv_iconst (v := 1) hx hb dX10_told_13 (by decide) ?_
  refine lv_iconst (v := 1) hx hb dX10_told_14 (by decide) ?_
  refine goI (wr := [(kn, .inl (Y 2, 640, .inl (fun _ => 0))), (ps, .inl (Y 2, 640, .inl (fun _ => 0))), (nx, .inl (Y 2, 640, .inl (fun _ => 0))), (ta, .inl (Y 0, 640, .inl f1)), (fa, .inl (Y 0, 640, .inl f2))]) (runV (n := 3) (As := [.int 1, .int 1, .int 1]) (rest := []) (C := RX10) (T := TX10) (N := 77) (ci := 9) F hK hZ hP hD hS hA (c_isF1 l D Y mm 1 1 (va_up g 0 (.int 0)) rfl ) 0 rfl rfl [0] rfl rfl m_206 m_207 m_208 m_196 m_205 (by decide +kernel) rfl ⟨Nat.le_of_ble_eq_true rfl, Nat.le_of_ble_eq_true rfl⟩ hl.1 rfl (Nat.le_of_ble_eq_true rfl) dX10_told_15 ⟨Nat.le_of_ble_eq_true rfl, Nat.le_of_ble_eq_true rfl⟩) hP hD hS hA [0] [1, 2, 3, 4, 5] rfl rfl rfl (by decide) (fun r_2 u H locs hw hP hD hS => ?_)
  have hrr := hw
  have hP : va_P D vwCl [(kn, .inl (Y 2, 640, .inl (fun _ => 0))), (ps, .inl (Y 2, 640, .inl (fun _ => 0))), (nx, .inl (Y 2, 640, .inl (fun _ => 0))), (ta, .inl (Y 0, 640, .inl f1)), (fa, .inl (Y 0, 640, .inl f2)), (mm, .inr (9, fl 77 (va_up g 0 (.int 0))))] H := hP
  have hD : va_D A [(kn, .inl (Y 2, 640, .inl (fun _ => 0))), (ps, .inl (Y 2, 640, .inl (fun _ => 0))), (nx, .inl (Y 2, 640, .inl (fun _ => 0))), (ta, .inl (Y 0, 640, .inl f1)), (fa, .inl (Y 0, 640, .inl f2)), (mm, .inr (9, fl 77 (va_up g 0 (.int 0))))] := hD
  subst hrr
  refine W.widen (k := 0) (n := 0) (Nat.le_of_ble_eq_true rfl) (Nat.le_of_ble_eq_true rfl) ?_
  refine lv_if_ne (tgt := 23) hx hb dX10_told_18 (by decide) (fun _ => ?_) (fun c9 => absurd c9 (by decide))
  refine lv_aload_n hx hb dX10_told_23 rfl (lv_at hl 0 rfl) ?_
  refine goV (wr := []) (runV (n := 0) (As := []) (rest := []) (C := RX10) (T := TX10) (N := 77) (ci := 9) F hK hZ hP hD hS hA (m_makes l D Y mm kn ps nx ta fa (va_up g 0 (.int 0)) f1 f2 rfl g_2 g_3 g_4 g_10 g_11 g_12 g_13 g_14 g_16 g_20 g_46 g_47 g_48 ) 5 rfl rfl [5, 0, 1, 2, 3, 4] rfl rfl m_266 m_267 m_268 m_196 m_265 (by decide +kernel) rfl ⟨Nat.le_of_ble_eq_true rfl, Nat.le_of_ble_eq_true rfl⟩ hl.1 rfl (Nat.le_of_ble_eq_true rfl) dX10_told_24 ⟨Nat.le_of_ble_eq_true rfl, Nat.le_of_ble_eq_true rfl⟩) hP hD hS hA [5, 0, 1, 2, 3, 4] [] rfl rfl rfl (by decide) (fun gn_3 H locs hw hP hD hS => ?_)
  obtain ⟨o_4, o_5, o_6, o_7, o_8, o_9, o_10, o_11, o_12⟩ := hw
  have hP : va_P D vwCl [(mm, .inr (9, fl 77 gn_3))] H := hP
  have hD : va_D A [(mm, .inr (9, fl 77 gn_3))] := hD
  refine W.widen (k := 0) (n := 0) (Nat.le_of_ble_eq_true rfl) (Nat.le_of_ble_eq_true rfl) ?_
  refine lv_iload_n hx hb dX10_told_27 rfl (lv_at hl 1 rfl) ?_
  refine lv_tableIn (off := 85) (tgt := 113) hx hb dX10_told_28 (by decide) (by decide) (by decide) (by decide) ?_
  refine lv_aload_n hx hb dX10_told_113 rfl (lv_at hl 0 rfl) ?_
  refine goI (wr := []) (runV (n := 0) (As := []) (rest := []) (C := RX10) (T := TX10) (N := 77) (ci := 9) F hK hZ hP hD hS hA (m_freshM l D Y mm 0 gn_3 o_4 o_10 ) 0 rfl rfl [0] rfl rfl m_274 m_275 m_276 m_196 m_273 (by decide +kernel) rfl ⟨Nat.le_of_ble_eq_true rfl, Nat.le_of_ble_eq_true rfl⟩ hl.1 rfl (Nat.le_of_ble_eq_true rfl) dX10_told_114 ⟨Nat.le_of_ble_eq_true rfl, Nat.le_of_ble_eq_true rfl⟩) hP hD hS hA [0] [] rfl rfl rfl (by decide) (fun r_14 u H locs hw hP hD hS => ?_)
  have hrr := hw
  have hP : va_P D vwCl [(mm, .inr (9, fl 77 gn_3))] H := hP
  have hD : va_D A [(mm, .inr (9, fl 77 gn_3))] := hD
  subst hrr
  refine W.widen (k := 0) (n := 0) (Nat.le_of_ble_eq_true rfl) (Nat.le_of_ble_eq_true rfl) ?_
  exact retI F hr hlocks rfl hP hD hS gn_3 [0] rfl rfl (Nat.le_of_ble_eq_true rfl) (Nat.le_of_ble_eq_true rfl) dX10_told_117 ⟨rfl, o_4⟩
set_option maxRecDepth 100000 in
set_option maxHeartbeats 4000000 in
theorem m_told_6 (l : Launch) (D : va_G) (Y : Nat → ClassId) (mm : Nat) (kn : Nat) (ps : Nat) (nx : Nat) (ta : Nat) (fa : Nat) (g : Nat → Value) (f1 : Nat → Int32) (f2 : Nat → Int32) (g_2 : g 2 = .int 0) (g_3 : g 3 = .int 0) (g_4 : g 4 = .int 0) (g_10 : g 10 = .ref kn) (g_11 : g 11 = .ref ps) (g_12 : g 12 = .ref nx) (g_13 : g 13 = .ref ta) (g_14 : g 14 = .ref fa) (g_16 : g 16 = .int 0) (g_20 : g 20 = .int 0) (g_46 : g 46 = .int 0) (g_47 : g 47 = .int 0) (g_48 : g 48 = .int 0)  : cM l D Y yX10_told cX10_told 2 (some .int) 3 0 0 [.ref mm, .int 6] [(mm, .inr (9, fl 77 g)), (kn, .inl (Y 2, 640, .inl (fun _ => 0))), (ps, .inl (Y 2, 640, .inl (fun _ => 0))), (nx, .inl (Y 2, 640, .inl (fun _ => 0))), (ta, .inl (Y 0, 640, .inl f1)), (fa, .inl (Y 0, 640, .inl f2))] (qI D (fun (r : Int32) (u : Nat → Value) => r = 0 ∧ u 0 = .int 0) (fun (u : Nat → Value) => [(mm, .inr (9, fl 77 u))])) := by
  refine cM.mk RX10 rfl (by decide) (Nat.le_of_ble_eq_true rfl) ?_
  intro p e s m below meth c A F hr hlocks hin hK hZ hP hD hA hS ls hl
  have hx := F.1
  have hb := F.2.1
  have hl : lv_has ls 2 [(0, .ref mm), (1, .int 6)] := hl
  refine lv_aload_n hx hb dX10_told_0 rfl (lv_at hl 0 rfl) ?_
  refine lv_iconst (v := 0) hx hb dX10_told_1 (by decide) ?_
  refine pF (C := RX10) (T := TX10) (ci := 9) F hK hP hD hS 0 rfl rfl iwX10 tyX10 tyX10_ok nmX10 0 (by decide) m_191 (fun _ h => h) rfl rfl rfl dX10_told_2 (fun H locs hP hD hS => ?_)
  have hP : va_P D vwCl [(mm, .inr (9, fl 77 (va_up g 0 (.int 0)))), (kn, .inl (Y 2, 640, .inl (fun _ => 0))), (ps, .inl (Y 2, 640, .inl (fun _ => 0))), (nx, .inl (Y 2, 640, .inl (fun _ => 0))), (ta, .inl (Y 0, 640, .inl f1)), (fa, .inl (Y 0, 640, .inl f2))] H := hP
  have hD : va_D A [(mm, .inr (9, fl 77 (va_up g 0 (.int 0)))), (kn, .inl (Y 2, 640, .inl (fun _ => 0))), (ps, .inl (Y 2, 640, .inl (fun _ => 0))), (nx, .inl (Y 2, 640, .inl (fun _ => 0))), (ta, .inl (Y 0, 640, .inl f1)), (fa, .inl (Y 0, 640, .inl f2))] := hD
  refine lv_aload_n hx hb dX10_told_5 rfl (lv_at hl 0 rfl) ?_
  refine lv_iload_n hx hb dX10_told_6 rfl (lv_at hl 1 rfl) ?_
  refine lv_iconst (v := 0) hx hb dX10_told_7 (by decide) ?_
  refine lv_bipush (v := 11) hx hb dX10_told_8 (by decide) ?_
  refine goI (wr := [(mm, .inr (9, fl 77 (va_up g 0 (.int 0)))), (kn, .inl (Y 2, 640, .inl (fun _ => 0))), (ps, .inl (Y 2, 640, .inl (fun _ => 0))), (nx, .inl (Y 2, 640, .inl (fun _ => 0))), (ta, .inl (Y 0, 640, .inl f1)), (fa, .inl (Y 0, 640, .inl f2))]) (runS (n := 3) (As := [.int 6, .int 0, .int 11]) (rest := [.ref mm]) F hK hZ hP hD hS hA (c_within1 l D Y 6 0 11  (by decide) (by decide)) [] rfl rfl m_203 m_204 m_196 m_202 (by decide +kernel) rfl ⟨Nat.le_of_ble_eq_true rfl, Nat.le_of_ble_eq_true rfl⟩ hl.1 rfl (Nat.le_of_ble_eq_true rfl) dX10_told_10 ⟨Nat.le_of_ble_eq_true rfl, Nat.le_of_ble_eq_true rfl⟩) hP hD hS hA [] [0, 1, 2, 3, 4, 5] rfl rfl rfl (by decide) (fun r_1 u H locs hw hP hD hS => ?_)
  have hrr := hw
  have hP : va_P D vwCl [(mm, .inr (9, fl 77 (va_up g 0 (.int 0)))), (kn, .inl (Y 2, 640, .inl (fun _ => 0))), (ps, .inl (Y 2, 640, .inl (fun _ => 0))), (nx, .inl (Y 2, 640, .inl (fun _ => 0))), (ta, .inl (Y 0, 640, .inl f1)), (fa, .inl (Y 0, 640, .inl f2))] H := hP
  have hD : va_D A [(mm, .inr (9, fl 77 (va_up g 0 (.int 0)))), (kn, .inl (Y 2, 640, .inl (fun _ => 0))), (ps, .inl (Y 2, 640, .inl (fun _ => 0))), (nx, .inl (Y 2, 640, .inl (fun _ => 0))), (ta, .inl (Y 0, 640, .inl f1)), (fa, .inl (Y 0, 640, .inl f2))] := hD
  subst hrr
  refine W.widen (k := 0) (n := 0) (Nat.le_of_ble_eq_true rfl) (Nat.le_of_ble_eq_true rfl) ?_
  refine lv_iconst (v := 1) hx hb dX10_told_13 (by decide) ?_
  refine lv_iconst (v := 1) hx hb dX10_told_14 (by decide) ?_
  refine goI (wr := [(kn, .inl (Y 2, 640, .inl (fun _ => 0))), (ps, .inl (Y 2, 640, .inl (fun _ => 0))), (nx, .inl (Y 2, 640, .inl (fun _ => 0))), (ta, .inl (Y 0, 640, .inl f1)), (fa, .inl (Y 0, 640, .inl f2))]) (runV (n := 3) (As := [.int 1, .int 1, .int 1]) (rest := []) (C := RX10) (T := TX10) (N := 77) (ci := 9) F hK hZ hP hD hS hA (c_isF1 l D Y mm 1 1 (va_up g 0 (.int 0)) rfl ) 0 rfl rfl [0] rfl rfl m_206 m_207 m_208 m_196 m_205 (by decide +kernel) rfl ⟨Nat.le_of_ble_eq_true rfl, Nat.le_of_ble_eq_true rfl⟩ hl.1 rfl (Nat.le_of_ble_eq_true rfl) dX10_told_15 ⟨Nat.le_of_ble_eq_true rfl, Nat.le_of_ble_eq_true rfl⟩) hP hD hS hA [0] [1, 2, 3, 4, 5] rfl rfl rfl (by decide) (fun r_2 u H locs hw hP hD hS => ?_)
  have hrr := hw
  have hP : va_P D vwCl [(kn, .inl (Y 2, 640, .inl (fun _ => 0))), (ps, .inl (Y 2, 640, .inl (fun _ => 0))), (nx, .inl (Y 2, 640, .inl (fun _ => 0))), (ta, .inl (Y 0, 640, .inl f1)), (fa, .inl (Y 0, 640, .inl f2)), (mm, .inr (9, fl 77 (va_up g 0 (.int 0))))] H := hP
  have hD : va_D A [(kn, .inl (Y 2, 640, .inl (fun _ => 0))), (ps, .inl (Y 2, 640, .inl (fun _ => 0))), (nx, .inl (Y 2, 640, .inl (fun _ => 0))), (ta, .inl (Y 0, 640, .inl f1)), (fa, .inl (Y 0, 640, .inl f2)), (mm, .inr (9, fl 77 (va_up g 0 (.int 0))))] := hD
  subst hrr
  refine W.widen (k := 0) (n := 0) (Nat.le_of_ble_eq_true rfl) (Nat.le_of_ble_eq_true rfl) ?_
  refine lv_if_ne (tgt := 23) hx hb dX10_told_18 (by decide) (fun _ => ?_) (fun c9 => absurd c9 (by decide))
  refine lv_aload_n hx hb dX10_told_23 rfl (lv_at hl 0 rfl) ?_
  refine goV (wr := []) (runV (n := 0) (As := []) (rest := []) (C := RX10) (T := TX10) (N := 77) (ci := 9) F hK hZ hP hD hS hA (m_makes l D Y mm kn ps nx ta fa (va_up g 0 (.int 0)) f1 f2 rfl g_2 g_3 g_4 g_10 g_11 g_12 g_13 g_14 g_16 g_20 g_46 g_47 g_48 ) 5 rfl rfl [5, 0, 1, 2, 3, 4] rfl rfl m_266 m_267 m_268 m_196 m_265 (by decide +kernel) rfl ⟨Nat.le_of_ble_eq_true rfl, Nat.le_of_ble_eq_true rfl⟩ hl.1 rfl (Nat.le_of_ble_eq_true rfl) dX10_told_24 ⟨Nat.le_of_ble_eq_true rfl, Nat.le_of_ble_eq_true rfl⟩) hP hD hS hA [5, 0, 1, 2, 3, 4] [] rfl rfl rfl (by decide) (fun gn_3 H locs hw hP hD hS => ?_)
  obtain ⟨o_4, o_5, o_6, o_7, o_8, o_9, o_10, o_11, o_12⟩ := hw
  have hP : va_P D vwCl [(mm, .inr (9, fl 77 gn_3))] H := hP
  have hD : va_D A [(mm, .inr (9, fl 77 gn_3))] := hD
  refine W.widen (k := 0) (n := 0) (Nat.le_of_ble_eq_true rfl) (Nat.le_of_ble_eq_true rfl) ?_
  refine lv_iload_n hx hb dX10_told_27 rfl (lv_at hl 1 rfl) ?_
  refine lv_tableIn (off := 90) (tgt := 118) hx hb dX10_told_28 (by decide) (by decide) (by decide) (by decide) ?_
  refine lv_aload_n hx hb dX10_told_118 rfl (lv_at hl 0 rfl) ?_
  refine gF (C := RX10) (T := TX10) (ci := 9) (v := .int 0) F hK hP 0 rfl rfl iwX10 47 (by decide) m_230 (fun _ h => h) o_11 dX10_told_119 ?_
  exact retI F hr hlocks rfl hP hD hS gn_3 [0] rfl rfl (Nat.le_of_ble_eq_true rfl) (Nat.le_of_ble_eq_true rfl) dX10_told_122 ⟨rfl, o_4⟩
set_option maxRecDepth 100000 in
set_option maxHeartbeats 4000000 in
theorem m_told_7 (l : Launch) (D : va_G) (Y : Nat → ClassId) (mm : Nat) (kn : Nat) (ps : Nat) (nx : Nat) (ta : Nat) (fa : Nat) (g : Nat → Value) (f1 : Nat → Int32) (f2 : Nat → Int32) (g_2 : g 2 = .int 0) (g_3 : g 3 = .int 0) (g_4 : g 4 = .int 0) (g_10 : g 10 = .ref kn) (g_11 : g 11 = .ref ps) (g_12 : g 12 = .ref nx) (g_13 : g 13 = .ref ta) (g_14 : g 14 = .ref fa) (g_16 : g 16 = .int 0) (g_20 : g 20 = .int 0) (g_46 : g 46 = .int 0) (g_47 : g 47 = .int 0) (g_48 : g 48 = .int 0)  : cM l D Y yX10_told cX10_told 2 (some .int) 3 0 0 [.ref mm, .int 7] [(mm, .inr (9, fl 77 g)), (kn, .inl (Y 2, 640, .inl (fun _ => 0))), (ps, .inl (Y 2, 640, .inl (fun _ => 0))), (nx, .inl (Y 2, 640, .inl (fun _ => 0))), (ta, .inl (Y 0, 640, .inl f1)), (fa, .inl (Y 0, 640, .inl f2))] (qI D (fun (r : Int32) (u : Nat → Value) => r = 0 ∧ u 0 = .int 0) (fun (u : Nat → Value) => [(mm, .inr (9, fl 77 u))])) := by
  refine cM.mk RX10 rfl (by decide) (Nat.le_of_ble_eq_true rfl) ?_
  intro p e s m below meth c A F hr hlocks hin hK hZ hP hD hA hS ls hl
  have hx := F.1
  have hb := F.2.1
  have hl : lv_has ls 2 [(0, .ref mm), (1, .int 7)] := hl
  refine lv_aload_n hx hb dX10_told_0 rfl (lv_at hl 0 rfl) ?_
  refine lv_iconst (v := 0) hx hb dX10_told_1 (by decide) ?_
  refine pF (C := RX10) (T := TX10) (ci := 9) F hK hP hD hS 0 rfl rfl iwX10 tyX10 tyX10_ok nmX10 0 (by decide) m_191 (fun _ h => h) rfl rfl rfl dX10_told_2 (fun H locs hP hD hS => ?_)
  have hP : va_P D vwCl [(mm, .inr (9, fl 77 (va_up g 0 (.int 0)))), (kn, .inl (Y 2, 640, .inl (fun _ => 0))), (ps, .inl (Y 2, 640, .inl (fun _ => 0))), (nx, .inl (Y 2, 640, .inl (fun _ => 0))), (ta, .inl (Y 0, 640, .inl f1)), (fa, .inl (Y 0, 640, .inl f2))] H := hP
  have hD : va_D A [(mm, .inr (9, fl 77 (va_up g 0 (.int 0)))), (kn, .inl (Y 2, 640, .inl (fun _ => 0))), (ps, .inl (Y 2, 640, .inl (fun _ => 0))), (nx, .inl (Y 2, 640, .inl (fun _ => 0))), (ta, .inl (Y 0, 640, .inl f1)), (fa, .inl (Y 0, 640, .inl f2))] := hD
  refine lv_aload_n hx hb dX10_told_5 rfl (lv_at hl 0 rfl) ?_
  refine lv_iload_n hx hb dX10_told_6 rfl (lv_at hl 1 rfl) ?_
  refine lv_iconst (v := 0) hx hb dX10_told_7 (by decide) ?_
  refine lv_bipush (v := 11) hx hb dX10_told_8 (by decide) ?_
  refine goI (wr := [(mm, .inr (9, fl 77 (va_up g 0 (.int 0)))), (kn, .inl (Y 2, 640, .inl (fun _ => 0))), (ps, .inl (Y 2, 640, .inl (fun _ => 0))), (nx, .inl (Y 2, 640, .inl (fun _ => 0))), (ta, .inl (Y 0, 640, .inl f1)), (fa, .inl (Y 0, 640, .inl f2))]) (runS (n := 3) (As := [.int 7, .int 0, .int 11]) (rest := [.ref mm]) F hK hZ hP hD hS hA (c_within1 l D Y 7 0 11  (by decide) (by decide)) [] rfl rfl m_203 m_204 m_196 m_202 (by decide +kernel) rfl ⟨Nat.le_of_ble_eq_true rfl, Nat.le_of_ble_eq_true rfl⟩ hl.1 rfl (Nat.le_of_ble_eq_true rfl) dX10_told_10 ⟨Nat.le_of_ble_eq_true rfl, Nat.le_of_ble_eq_true rfl⟩) hP hD hS hA [] [0, 1, 2, 3, 4, 5] rfl rfl rfl (by decide) (fun r_1 u H locs hw hP hD hS => ?_)
  have hrr := hw
  have hP : va_P D vwCl [(mm, .inr (9, fl 77 (va_up g 0 (.int 0)))), (kn, .inl (Y 2, 640, .inl (fun _ => 0))), (ps, .inl (Y 2, 640, .inl (fun _ => 0))), (nx, .inl (Y 2, 640, .inl (fun _ => 0))), (ta, .inl (Y 0, 640, .inl f1)), (fa, .inl (Y 0, 640, .inl f2))] H := hP
  have hD : va_D A [(mm, .inr (9, fl 77 (va_up g 0 (.int 0)))), (kn, .inl (Y 2, 640, .inl (fun _ => 0))), (ps, .inl (Y 2, 640, .inl (fun _ => 0))), (nx, .inl (Y 2, 640, .inl (fun _ => 0))), (ta, .inl (Y 0, 640, .inl f1)), (fa, .inl (Y 0, 640, .inl f2))] := hD
  subst hrr
  refine W.widen (k := 0) (n := 0) (Nat.le_of_ble_eq_true rfl) (Nat.le_of_ble_eq_true rfl) ?_
  refine lv_iconst (v := 1) hx hb dX10_told_13 (by decide) ?_
  refine lv_iconst (v := 1) hx hb dX10_told_14 (by decide) ?_
  refine goI (wr := [(kn, .inl (Y 2, 640, .inl (fun _ => 0))), (ps, .inl (Y 2, 640, .inl (fun _ => 0))), (nx, .inl (Y 2, 640, .inl (fun _ => 0))), (ta, .inl (Y 0, 640, .inl f1)), (fa, .inl (Y 0, 640, .inl f2))]) (runV (n := 3) (As := [.int 1, .int 1, .int 1]) (rest := []) (C := RX10) (T := TX10) (N := 77) (ci := 9) F hK hZ hP hD hS hA (c_isF1 l D Y mm 1 1 (va_up g 0 (.int 0)) rfl ) 0 rfl rfl [0] rfl rfl m_206 m_207 m_208 m_196 m_205 (by decide +kernel) rfl ⟨Nat.le_of_ble_eq_true rfl, Nat.le_of_ble_eq_true rfl⟩ hl.1 rfl (Nat.le_of_ble_eq_true rfl) dX10_told_15 ⟨Nat.le_of_ble_eq_true rfl, Nat.le_of_ble_eq_true rfl⟩) hP hD hS hA [0] [1, 2, 3, 4, 5] rfl rfl rfl (by decide) (fun r_2 u H locs hw hP hD hS => ?_)
  have hrr := hw
  have hP : va_P D vwCl [(kn, .inl (Y 2, 640, .inl (fun _ => 0))), (ps, .inl (Y 2, 640, .inl (fun _ => 0))), (nx, .inl (Y 2, 640, .inl (fun _ => 0))), (ta, .inl (Y 0, 640, .inl f1)), (fa, .inl (Y 0, 640, .inl f2)), (mm, .inr (9, fl 77 (va_up g 0 (.int 0))))] H := hP
  have hD : va_D A [(kn, .inl (Y 2, 640, .inl (fun _ => 0))), (ps, .inl (Y 2, 640, .inl (fun _ => 0))), (nx, .inl (Y 2, 640, .inl (fun _ => 0))), (ta, .inl (Y 0, 640, .inl f1)), (fa, .inl (Y 0, 640, .inl f2)), (mm, .inr (9, fl 77 (va_up g 0 (.int 0))))] := hD
  subst hrr
  refine W.widen (k := 0) (n := 0) (Nat.le_of_ble_eq_true rfl) (Nat.le_of_ble_eq_true rfl) ?_
  refine lv_if_ne (tgt := 23) hx hb dX10_told_18 (by decide) (fun _ => ?_) (fun c9 => absurd c9 (by decide))
  refine lv_aload_n hx hb dX10_told_23 rfl (lv_at hl 0 rfl) ?_
  refine goV (wr := []) (runV (n := 0) (As := []) (rest := []) (C := RX10) (T := TX10) (N := 77) (ci := 9) F hK hZ hP hD hS hA (m_makes l D Y mm kn ps nx ta fa (va_up g 0 (.int 0)) f1 f2 rfl g_2 g_3 g_4 g_10 g_11 g_12 g_13 g_14 g_16 g_20 g_46 g_47 g_48 ) 5 rfl rfl [5, 0, 1, 2, 3, 4] rfl rfl m_266 m_267 m_268 m_196 m_265 (by decide +kernel) rfl ⟨Nat.le_of_ble_eq_true rfl, Nat.le_of_ble_eq_true rfl⟩ hl.1 rfl (Nat.le_of_ble_eq_true rfl) dX10_told_24 ⟨Nat.le_of_ble_eq_true rfl, Nat.le_of_ble_eq_true rfl⟩) hP hD hS hA [5, 0, 1, 2, 3, 4] [] rfl rfl rfl (by decide) (fun gn_3 H locs hw hP hD hS => ?_)
  obtain ⟨o_4, o_5, o_6, o_7, o_8, o_9, o_10, o_11, o_12⟩ := hw
  have hP : va_P D vwCl [(mm, .inr (9, fl 77 gn_3))] H := hP
  have hD : va_D A [(mm, .inr (9, fl 77 gn_3))] := hD
  refine W.widen (k := 0) (n := 0) (Nat.le_of_ble_eq_true rfl) (Nat.le_of_ble_eq_true rfl) ?_
  refine lv_iload_n hx hb dX10_told_27 rfl (lv_at hl 1 rfl) ?_
  refine lv_tableIn (off := 95) (tgt := 123) hx hb dX10_told_28 (by decide) (by decide) (by decide) (by decide) ?_
  refine lv_aload_n hx hb dX10_told_123 rfl (lv_at hl 0 rfl) ?_
  refine gF (C := RX10) (T := TX10) (ci := 9) (v := .int 0) F hK hP 0 rfl rfl iwX10 48 (by decide) m_231 (fun _ h => h) o_12 dX10_told_124 ?_
  exact retI F hr hlocks rfl hP hD hS gn_3 [0] rfl rfl (Nat.le_of_ble_eq_true rfl) (Nat.le_of_ble_eq_true rfl) dX10_told_127 ⟨rfl, o_4⟩
set_option maxRecDepth 100000 in
set_option maxHeartbeats 4000000 in
theorem m_told_8 (l : Launch) (D : va_G) (Y : Nat → ClassId) (mm : Nat) (kn : Nat) (ps : Nat) (nx : Nat) (ta : Nat) (fa : Nat) (g : Nat → Value) (f1 : Nat → Int32) (f2 : Nat → Int32) (g_2 : g 2 = .int 0) (g_3 : g 3 = .int 0) (g_4 : g 4 = .int 0) (g_10 : g 10 = .ref kn) (g_11 : g 11 = .ref ps) (g_12 : g 12 = .ref nx) (g_13 : g 13 = .ref ta) (g_14 : g 14 = .ref fa) (g_16 : g 16 = .int 0) (g_20 : g 20 = .int 0) (g_46 : g 46 = .int 0) (g_47 : g 47 = .int 0) (g_48 : g 48 = .int 0)  : cM l D Y yX10_told cX10_told 2 (some .int) 3 0 0 [.ref mm, .int 8] [(mm, .inr (9, fl 77 g)), (kn, .inl (Y 2, 640, .inl (fun _ => 0))), (ps, .inl (Y 2, 640, .inl (fun _ => 0))), (nx, .inl (Y 2, 640, .inl (fun _ => 0))), (ta, .inl (Y 0, 640, .inl f1)), (fa, .inl (Y 0, 640, .inl f2))] (qI D (fun (r : Int32) (u : Nat → Value) => r = 0 ∧ u 0 = .int 0) (fun (u : Nat → Value) => [(mm, .inr (9, fl 77 u))])) := by
  refine cM.mk RX10 rfl (by decide) (Nat.le_of_ble_eq_true rfl) ?_
  intro p e s m below meth c A F hr hlocks hin hK hZ hP hD hA hS ls hl
  have hx := F.1
  have hb := F.2.1
  have hl : lv_has ls 2 [(0, .ref mm), (1, .int 8)] := hl
  refine lv_aload_n hx hb dX10_told_0 rfl (lv_at hl 0 rfl) ?_
  refine lv_iconst (v := 0) hx hb dX10_told_1 (by decide) ?_
  refine pF (C := RX10) (T := TX10) (ci := 9) F hK hP hD hS 0 rfl rfl iwX10 tyX10 tyX10_ok nmX10 0 (by decide) m_191 (fun _ h => h) rfl rfl rfl dX10_told_2 (fun H locs hP hD hS => ?_)
  have hP : va_P D vwCl [(mm, .inr (9, fl 77 (va_up g 0 (.int 0)))), (kn, .inl (Y 2, 640, .inl (fun _ => 0))), (ps, .inl (Y 2, 640, .inl (fun _ => 0))), (nx, .inl (Y 2, 640, .inl (fun _ => 0))), (ta, .inl (Y 0, 640, .inl f1)), (fa, .inl (Y 0, 640, .inl f2))] H := hP
  have hD : va_D A [(mm, .inr (9, fl 77 (va_up g 0 (.int 0)))), (kn, .inl (Y 2, 640, .inl (fun _ => 0))), (ps, .inl (Y 2, 640, .inl (fun _ => 0))), (nx, .inl (Y 2, 640, .inl (fun _ => 0))), (ta, .inl (Y 0, 640, .inl f1)), (fa, .inl (Y 0, 640, .inl f2))] := hD
  refine lv_aload_n hx hb dX10_told_5 rfl (lv_at hl 0 rfl) ?_
  refine lv_iload_n hx hb dX10_told_6 rfl (lv_at hl 1 rfl) ?_
  refine lv_iconst (v := 0) hx hb dX10_told_7 (by decide) ?_
  refine lv_bipush (v := 11) hx hb dX10_told_8 (by decide) ?_
  refine goI (wr := [(mm, .inr (9, fl 77 (va_up g 0 (.int 0)))), (kn, .inl (Y 2, 640, .inl (fun _ => 0))), (ps, .inl (Y 2, 640, .inl (fun _ => 0))), (nx, .inl (Y 2, 640, .inl (fun _ => 0))), (ta, .inl (Y 0, 640, .inl f1)), (fa, .inl (Y 0, 640, .inl f2))]) (runS (n := 3) (As := [.int 8, .int 0, .int 11]) (rest := [.ref mm]) F hK hZ hP hD hS hA (c_within1 l D Y 8 0 11  (by decide) (by decide)) [] rfl rfl m_203 m_204 m_196 m_202 (by decide +kernel) rfl ⟨Nat.le_of_ble_eq_true rfl, Nat.le_of_ble_eq_true rfl⟩ hl.1 rfl (Nat.le_of_ble_eq_true rfl) dX10_told_10 ⟨Nat.le_of_ble_eq_true rfl, Nat.le_of_ble_eq_true rfl⟩) hP hD hS hA [] [0, 1, 2, 3, 4, 5] rfl rfl rfl (by decide) (fun r_1 u H locs hw hP hD hS => ?_)
  have hrr := hw
  have hP : va_P D vwCl [(mm, .inr (9, fl 77 (va_up g 0 (.int 0)))), (kn, .inl (Y 2, 640, .inl (fun _ => 0))), (ps, .inl (Y 2, 640, .inl (fun _ => 0))), (nx, .inl (Y 2, 640, .inl (fun _ => 0))), (ta, .inl (Y 0, 640, .inl f1)), (fa, .inl (Y 0, 640, .inl f2))] H := hP
  have hD : va_D A [(mm, .inr (9, fl 77 (va_up g 0 (.int 0)))), (kn, .inl (Y 2, 640, .inl (fun _ => 0))), (ps, .inl (Y 2, 640, .inl (fun _ => 0))), (nx, .inl (Y 2, 640, .inl (fun _ => 0))), (ta, .inl (Y 0, 640, .inl f1)), (fa, .inl (Y 0, 640, .inl f2))] := hD
  subst hrr
  refine W.widen (k := 0) (n := 0) (Nat.le_of_ble_eq_true rfl) (Nat.le_of_ble_eq_true rfl) ?_
  refine lv_iconst (v := 1) hx hb dX10_told_13 (by decide) ?_
  refine lv_iconst (v := 1) hx hb dX10_told_14 (by decide) ?_
  refine goI (wr := [(kn, .inl (Y 2, 640, .inl (fun _ => 0))), (ps, .inl (Y 2, 640, .inl (fun _ => 0))), (nx, .inl (Y 2, 640, .inl (fun _ => 0))), (ta, .inl (Y 0, 640, .inl f1)), (fa, .inl (Y 0, 640, .inl f2))]) (runV (n := 3) (As := [.int 1, .int 1, .int 1]) (rest := []) (C := RX10) (T := TX10) (N := 77) (ci := 9) F hK hZ hP hD hS hA (c_isF1 l D Y mm 1 1 (va_up g 0 (.int 0)) rfl ) 0 rfl rfl [0] rfl rfl m_206 m_207 m_208 m_196 m_205 (by decide +kernel) rfl ⟨Nat.le_of_ble_eq_true rfl, Nat.le_of_ble_eq_true rfl⟩ hl.1 rfl (Nat.le_of_ble_eq_true rfl) dX10_told_15 ⟨Nat.le_of_ble_eq_true rfl, Nat.le_of_ble_eq_true rfl⟩) hP hD hS hA [0] [1, 2, 3, 4, 5] rfl rfl rfl (by decide) (fun r_2 u H locs hw hP hD hS => ?_)
  have hrr := hw
  have hP : va_P D vwCl [(kn, .inl (Y 2, 640, .inl (fun _ => 0))), (ps, .inl (Y 2, 640, .inl (fun _ => 0))), (nx, .inl (Y 2, 640, .inl (fun _ => 0))), (ta, .inl (Y 0, 640, .inl f1)), (fa, .inl (Y 0, 640, .inl f2)), (mm, .inr (9, fl 77 (va_up g 0 (.int 0))))] H := hP
  have hD : va_D A [(kn, .inl (Y 2, 640, .inl (fun _ => 0))), (ps, .inl (Y 2, 640, .inl (fun _ => 0))), (nx, .inl (Y 2, 640, .inl (fun _ => 0))), (ta, .inl (Y 0, 640, .inl f1)), (fa, .inl (Y 0, 640, .inl f2)), (mm, .inr (9, fl 77 (va_up g 0 (.int 0))))] := hD
  subst hrr
  refine W.widen (k := 0) (n := 0) (Nat.le_of_ble_eq_true rfl) (Nat.le_of_ble_eq_true rfl) ?_
  refine lv_if_ne (tgt := 23) hx hb dX10_told_18 (by decide) (fun _ => ?_) (fun c9 => absurd c9 (by decide))
  refine lv_aload_n hx hb dX10_told_23 rfl (lv_at hl 0 rfl) ?_
  refine goV (wr := []) (runV (n := 0) (As := []) (rest := []) (C := RX10) (T := TX10) (N := 77) (ci := 9) F hK hZ hP hD hS hA (m_makes l D Y mm kn ps nx ta fa (va_up g 0 (.int 0)) f1 f2 rfl g_2 g_3 g_4 g_10 g_11 g_12 g_13 g_14 g_16 g_20 g_46 g_47 g_48 ) 5 rfl rfl [5, 0, 1, 2, 3, 4] rfl rfl m_266 m_267 m_268 m_196 m_265 (by decide +kernel) rfl ⟨Nat.le_of_ble_eq_true rfl, Nat.le_of_ble_eq_true rfl⟩ hl.1 rfl (Nat.le_of_ble_eq_true rfl) dX10_told_24 ⟨Nat.le_of_ble_eq_true rfl, Nat.le_of_ble_eq_true rfl⟩) hP hD hS hA [5, 0, 1, 2, 3, 4] [] rfl rfl rfl (by decide) (fun gn_3 H locs hw hP hD hS => ?_)
  obtain ⟨o_4, o_5, o_6, o_7, o_8, o_9, o_10, o_11, o_12⟩ := hw
  have hP : va_P D vwCl [(mm, .inr (9, fl 77 gn_3))] H := hP
  have hD : va_D A [(mm, .inr (9, fl 77 gn_3))] := hD
  refine W.widen (k := 0) (n := 0) (Nat.le_of_ble_eq_true rfl) (Nat.le_of_ble_eq_true rfl) ?_
  refine lv_iload_n hx hb dX10_told_27 rfl (lv_at hl 1 rfl) ?_
  refine lv_tableIn (off := 100) (tgt := 128) hx hb dX10_told_28 (by decide) (by decide) (by decide) (by decide) ?_
  refine lv_aload_n hx hb dX10_told_128 rfl (lv_at hl 0 rfl) ?_
  refine gF (C := RX10) (T := TX10) (ci := 9) (v := .int 0) F hK hP 0 rfl rfl iwX10 15 (by decide) m_254 (fun _ h => h) o_8 dX10_told_129 ?_
  exact retI F hr hlocks rfl hP hD hS gn_3 [0] rfl rfl (Nat.le_of_ble_eq_true rfl) (Nat.le_of_ble_eq_true rfl) dX10_told_132 ⟨rfl, o_4⟩
set_option maxRecDepth 100000 in
set_option maxHeartbeats 4000000 in
theorem m_told_9 (l : Launch) (D : va_G) (Y : Nat → ClassId) (mm : Nat) (kn : Nat) (ps : Nat) (nx : Nat) (ta : Nat) (fa : Nat) (g : Nat → Value) (f1 : Nat → Int32) (f2 : Nat → Int32) (g_2 : g 2 = .int 0) (g_3 : g 3 = .int 0) (g_4 : g 4 = .int 0) (g_10 : g 10 = .ref kn) (g_11 : g 11 = .ref ps) (g_12 : g 12 = .ref nx) (g_13 : g 13 = .ref ta) (g_14 : g 14 = .ref fa) (g_16 : g 16 = .int 0) (g_20 : g 20 = .int 0) (g_46 : g 46 = .int 0) (g_47 : g 47 = .int 0) (g_48 : g 48 = .int 0)  : cM l D Y yX10_told cX10_told 2 (some .int) 3 0 0 [.ref mm, .int 9] [(mm, .inr (9, fl 77 g)), (kn, .inl (Y 2, 640, .inl (fun _ => 0))), (ps, .inl (Y 2, 640, .inl (fun _ => 0))), (nx, .inl (Y 2, 640, .inl (fun _ => 0))), (ta, .inl (Y 0, 640, .inl f1)), (fa, .inl (Y 0, 640, .inl f2))] (qI D (fun (r : Int32) (u : Nat → Value) => r = 0 ∧ u 0 = .int 0) (fun (u : Nat → Value) => [(mm, .inr (9, fl 77 u))])) := by
  refine cM.mk RX10 rfl (by decide) (Nat.le_of_ble_eq_true rfl) ?_
  intro p e s m below meth c A F hr hlocks hin hK hZ hP hD hA hS ls hl
  have hx := F.1
  have hb := F.2.1
  have hl : lv_has ls 2 [(0, .ref mm), (1, .int 9)] := hl
  refine lv_aload_n hx hb dX10_told_0 rfl (lv_at hl 0 rfl) ?_
  refine lv_iconst (v := 0) hx hb dX10_told_1 (by decide) ?_
  refine pF (C := RX10) (T := TX10) (ci := 9) F hK hP hD hS 0 rfl rfl iwX10 tyX10 tyX10_ok nmX10 0 (by decide) m_191 (fun _ h => h) rfl rfl rfl dX10_told_2 (fun H locs hP hD hS => ?_)
  have hP : va_P D vwCl [(mm, .inr (9, fl 77 (va_up g 0 (.int 0)))), (kn, .inl (Y 2, 640, .inl (fun _ => 0))), (ps, .inl (Y 2, 640, .inl (fun _ => 0))), (nx, .inl (Y 2, 640, .inl (fun _ => 0))), (ta, .inl (Y 0, 640, .inl f1)), (fa, .inl (Y 0, 640, .inl f2))] H := hP
  have hD : va_D A [(mm, .inr (9, fl 77 (va_up g 0 (.int 0)))), (kn, .inl (Y 2, 640, .inl (fun _ => 0))), (ps, .inl (Y 2, 640, .inl (fun _ => 0))), (nx, .inl (Y 2, 640, .inl (fun _ => 0))), (ta, .inl (Y 0, 640, .inl f1)), (fa, .inl (Y 0, 640, .inl f2))] := hD
  refine lv_aload_n hx hb dX10_told_5 rfl (lv_at hl 0 rfl) ?_
  refine lv_iload_n hx hb dX10_told_6 rfl (lv_at hl 1 rfl) ?_
  refine lv_iconst (v := 0) hx hb dX10_told_7 (by decide) ?_
  refine lv_bipush (v := 11) hx hb dX10_told_8 (by decide) ?_
  refine goI (wr := [(mm, .inr (9, fl 77 (va_up g 0 (.int 0)))), (kn, .inl (Y 2, 640, .inl (fun _ => 0))), (ps, .inl (Y 2, 640, .inl (fun _ => 0))), (nx, .inl (Y 2, 640, .inl (fun _ => 0))), (ta, .inl (Y 0, 640, .inl f1)), (fa, .inl (Y 0, 640, .inl f2))]) (runS (n := 3) (As := [.int 9, .int 0, .int 11]) (rest := [.ref mm]) F hK hZ hP hD hS hA (c_within1 l D Y 9 0 11  (by decide) (by decide)) [] rfl rfl m_203 m_204 m_196 m_202 (by decide +kernel) rfl ⟨Nat.le_of_ble_eq_true rfl, Nat.le_of_ble_eq_true rfl⟩ hl.1 rfl (Nat.le_of_ble_eq_true rfl) dX10_told_10 ⟨Nat.le_of_ble_eq_true rfl, Nat.le_of_ble_eq_true rfl⟩) hP hD hS hA [] [0, 1, 2, 3, 4, 5] rfl rfl rfl (by decide) (fun r_1 u H locs hw hP hD hS => ?_)
  have hrr := hw
  have hP : va_P D vwCl [(mm, .inr (9, fl 77 (va_up g 0 (.int 0)))), (kn, .inl (Y 2, 640, .inl (fun _ => 0))), (ps, .inl (Y 2, 640, .inl (fun _ => 0))), (nx, .inl (Y 2, 640, .inl (fun _ => 0))), (ta, .inl (Y 0, 640, .inl f1)), (fa, .inl (Y 0, 640, .inl f2))] H := hP
  have hD : va_D A [(mm, .inr (9, fl 77 (va_up g 0 (.int 0)))), (kn, .inl (Y 2, 640, .inl (fun _ => 0))), (ps, .inl (Y 2, 640, .inl (fun _ => 0))), (nx, .inl (Y 2, 640, .inl (fun _ => 0))), (ta, .inl (Y 0, 640, .inl f1)), (fa, .inl (Y 0, 640, .inl f2))] := hD
  subst hrr
  refine W.widen (k := 0) (n := 0) (Nat.le_of_ble_eq_true rfl) (Nat.le_of_ble_eq_true rfl) ?_
  refine lv_iconst (v := 1) hx hb dX10_told_13 (by decide) ?_
  refine lv_iconst (v := 1) hx hb dX10_told_14 (by decide) ?_
  refine goI (wr := [(kn, .inl (Y 2, 640, .inl (fun _ => 0))), (ps, .inl (Y 2, 640, .inl (fun _ => 0))), (nx, .inl (Y 2, 640, .inl (fun _ => 0))), (ta, .inl (Y 0, 640, .inl f1)), (fa, .inl (Y 0, 640, .inl f2))]) (runV (n := 3) (As := [.int 1, .int 1, .int 1]) (rest := []) (C := RX10) (T := TX10) (N := 77) (ci := 9) F hK hZ hP hD hS hA (c_isF1 l D Y mm 1 1 (va_up g 0 (.int 0)) rfl ) 0 rfl rfl [0] rfl rfl m_206 m_207 m_208 m_196 m_205 (by decide +kernel) rfl ⟨Nat.le_of_ble_eq_true rfl, Nat.le_of_ble_eq_true rfl⟩ hl.1 rfl (Nat.le_of_ble_eq_true rfl) dX10_told_15 ⟨Nat.le_of_ble_eq_true rfl, Nat.le_of_ble_eq_true rfl⟩) hP hD hS hA [0] [1, 2, 3, 4, 5] rfl rfl rfl (by decide) (fun r_2 u H locs hw hP hD hS => ?_)
  have hrr := hw
  have hP : va_P D vwCl [(kn, .inl (Y 2, 640, .inl (fun _ => 0))), (ps, .inl (Y 2, 640, .inl (fun _ => 0))), (nx, .inl (Y 2, 640, .inl (fun _ => 0))), (ta, .inl (Y 0, 640, .inl f1)), (fa, .inl (Y 0, 640, .inl f2)), (mm, .inr (9, fl 77 (va_up g 0 (.int 0))))] H := hP
  have hD : va_D A [(kn, .inl (Y 2, 640, .inl (fun _ => 0))), (ps, .inl (Y 2, 640, .inl (fun _ => 0))), (nx, .inl (Y 2, 640, .inl (fun _ => 0))), (ta, .inl (Y 0, 640, .inl f1)), (fa, .inl (Y 0, 640, .inl f2)), (mm, .inr (9, fl 77 (va_up g 0 (.int 0))))] := hD
  subst hrr
  refine W.widen (k := 0) (n := 0) (Nat.le_of_ble_eq_true rfl) (Nat.le_of_ble_eq_true rfl) ?_
  refine lv_if_ne (tgt := 23) hx hb dX10_told_18 (by decide) (fun _ => ?_) (fun c9 => absurd c9 (by decide))
  refine lv_aload_n hx hb dX10_told_23 rfl (lv_at hl 0 rfl) ?_
  refine goV (wr := []) (runV (n := 0) (As := []) (rest := []) (C := RX10) (T := TX10) (N := 77) (ci := 9) F hK hZ hP hD hS hA (m_makes l D Y mm kn ps nx ta fa (va_up g 0 (.int 0)) f1 f2 rfl g_2 g_3 g_4 g_10 g_11 g_12 g_13 g_14 g_16 g_20 g_46 g_47 g_48 ) 5 rfl rfl [5, 0, 1, 2, 3, 4] rfl rfl m_266 m_267 m_268 m_196 m_265 (by decide +kernel) rfl ⟨Nat.le_of_ble_eq_true rfl, Nat.le_of_ble_eq_true rfl⟩ hl.1 rfl (Nat.le_of_ble_eq_true rfl) dX10_told_24 ⟨Nat.le_of_ble_eq_true rfl, Nat.le_of_ble_eq_true rfl⟩) hP hD hS hA [5, 0, 1, 2, 3, 4] [] rfl rfl rfl (by decide) (fun gn_3 H locs hw hP hD hS => ?_)
  obtain ⟨o_4, o_5, o_6, o_7, o_8, o_9, o_10, o_11, o_12⟩ := hw
  have hP : va_P D vwCl [(mm, .inr (9, fl 77 gn_3))] H := hP
  have hD : va_D A [(mm, .inr (9, fl 77 gn_3))] := hD
  refine W.widen (k := 0) (n := 0) (Nat.le_of_ble_eq_true rfl) (Nat.le_of_ble_eq_true rfl) ?_
  refine lv_iload_n hx hb dX10_told_27 rfl (lv_at hl 1 rfl) ?_
  refine lv_tableIn (off := 105) (tgt := 133) hx hb dX10_told_28 (by decide) (by decide) (by decide) (by decide) ?_
  refine lv_aload_n hx hb dX10_told_133 rfl (lv_at hl 0 rfl) ?_
  refine lv_iconst (v := 2) hx hb dX10_told_134 (by decide) ?_
  refine goI (wr := []) (runV (n := 1) (As := [.int 2]) (rest := []) (C := RX10) (T := TX10) (N := 77) (ci := 9) F hK hZ hP hD hS hA (m_allA l D Y mm 2 gn_3 o_5 ) 0 rfl rfl [0] rfl rfl m_278 m_279 m_280 m_196 m_277 (by decide +kernel) rfl ⟨Nat.le_of_ble_eq_true rfl, Nat.le_of_ble_eq_true rfl⟩ hl.1 rfl (Nat.le_of_ble_eq_true rfl) dX10_told_135 ⟨Nat.le_of_ble_eq_true rfl, Nat.le_of_ble_eq_true rfl⟩) hP hD hS hA [0] [] rfl rfl rfl (by decide) (fun r_14 u H locs hw hP hD hS => ?_)
  have hrr := hw
  have hP : va_P D vwCl [(mm, .inr (9, fl 77 gn_3))] H := hP
  have hD : va_D A [(mm, .inr (9, fl 77 gn_3))] := hD
  subst hrr
  refine W.widen (k := 0) (n := 0) (Nat.le_of_ble_eq_true rfl) (Nat.le_of_ble_eq_true rfl) ?_
  exact retI F hr hlocks rfl hP hD hS gn_3 [0] rfl rfl (Nat.le_of_ble_eq_true rfl) (Nat.le_of_ble_eq_true rfl) dX10_told_138 ⟨rfl, o_4⟩
set_option maxRecDepth 100000 in
set_option maxHeartbeats 4000000 in
theorem m_told_10 (l : Launch) (D : va_G) (Y : Nat → ClassId) (mm : Nat) (kn : Nat) (ps : Nat) (nx : Nat) (ta : Nat) (fa : Nat) (g : Nat → Value) (f1 : Nat → Int32) (f2 : Nat → Int32) (g_2 : g 2 = .int 0) (g_3 : g 3 = .int 0) (g_4 : g 4 = .int 0) (g_10 : g 10 = .ref kn) (g_11 : g 11 = .ref ps) (g_12 : g 12 = .ref nx) (g_13 : g 13 = .ref ta) (g_14 : g 14 = .ref fa) (g_16 : g 16 = .int 0) (g_20 : g 20 = .int 0) (g_46 : g 46 = .int 0) (g_47 : g 47 = .int 0) (g_48 : g 48 = .int 0)  : cM l D Y yX10_told cX10_told 2 (some .int) 3 0 0 [.ref mm, .int 10] [(mm, .inr (9, fl 77 g)), (kn, .inl (Y 2, 640, .inl (fun _ => 0))), (ps, .inl (Y 2, 640, .inl (fun _ => 0))), (nx, .inl (Y 2, 640, .inl (fun _ => 0))), (ta, .inl (Y 0, 640, .inl f1)), (fa, .inl (Y 0, 640, .inl f2))] (qI D (fun (r : Int32) (u : Nat → Value) => r = 0 ∧ u 0 = .int 0) (fun (u : Nat → Value) => [(mm, .inr (9, fl 77 u))])) := by
  refine cM.mk RX10 rfl (by decide) (Nat.le_of_ble_eq_true rfl) ?_
  intro p e s m below meth c A F hr hlocks hin hK hZ hP hD hA hS ls hl
  have hx := F.1
  have hb := F.2.1
  have hl : lv_has ls 2 [(0, .ref mm), (1, .int 10)] := hl
  refine lv_aload_n hx hb dX10_told_0 rfl (lv_at hl 0 rfl) ?_
  refine lv_iconst (v := 0) hx hb dX10_told_1 (by decide) ?_
  refine pF (C := RX10) (T := TX10) (ci := 9) F hK hP hD hS 0 rfl rfl iwX10 tyX10 tyX10_ok nmX10 0 (by decide) m_191 (fun _ h => h) rfl rfl rfl dX10_told_2 (fun H locs hP hD hS => ?_)
  have hP : va_P D vwCl [(mm, .inr (9, fl 77 (va_up g 0 (.int 0)))), (kn, .inl (Y 2, 640, .inl (fun _ => 0))), (ps, .inl (Y 2, 640, .inl (fun _ => 0))), (nx, .inl (Y 2, 640, .inl (fun _ => 0))), (ta, .inl (Y 0, 640, .inl f1)), (fa, .inl (Y 0, 640, .inl f2))] H := hP
  have hD : va_D A [(mm, .inr (9, fl 77 (va_up g 0 (.int 0)))), (kn, .inl (Y 2, 640, .inl (fun _ => 0))), (ps, .inl (Y 2, 640, .inl (fun _ => 0))), (nx, .inl (Y 2, 640, .inl (fun _ => 0))), (ta, .inl (Y 0, 640, .inl f1)), (fa, .inl (Y 0, 640, .inl f2))] := hD
  refine lv_aload_n hx hb dX10_told_5 rfl (lv_at hl 0 rfl) ?_
  refine lv_iload_n hx hb dX10_told_6 rfl (lv_at hl 1 rfl) ?_
  refine lv_iconst (v := 0) hx hb dX10_told_7 (by decide) ?_
  refine lv_bipush (v := 11) hx hb dX10_told_8 (by decide) ?_
  refine goI (wr := [(mm, .inr (9, fl 77 (va_up g 0 (.int 0)))), (kn, .inl (Y 2, 640, .inl (fun _ => 0))), (ps, .inl (Y 2, 640, .inl (fun _ => 0))), (nx, .inl (Y 2, 640, .inl (fun _ => 0))), (ta, .inl (Y 0, 640, .inl f1)), (fa, .inl (Y 0, 640, .inl f2))]) (runS (n := 3) (As := [.int 10, .int 0, .int 11]) (rest := [.ref mm]) F hK hZ hP hD hS hA (c_within1 l D Y 10 0 11  (by decide) (by decide)) [] rfl rfl m_203 m_204 m_196 m_202 (by decide +kernel) rfl ⟨Nat.le_of_ble_eq_true rfl, Nat.le_of_ble_eq_true rfl⟩ hl.1 rfl (Nat.le_of_ble_eq_true rfl) dX10_told_10 ⟨Nat.le_of_ble_eq_true rfl, Nat.le_of_ble_eq_true rfl⟩) hP hD hS hA [] [0, 1, 2, 3, 4, 5] rfl rfl rfl (by decide) (fun r_1 u H locs hw hP hD hS => ?_)
  have hrr := hw
  have hP : va_P D vwCl [(mm, .inr (9, fl 77 (va_up g 0 (.int 0)))), (kn, .inl (Y 2, 640, .inl (fun _ => 0))), (ps, .inl (Y 2, 640, .inl (fun _ => 0))), (nx, .inl (Y 2, 640, .inl (fun _ => 0))), (ta, .inl (Y 0, 640, .inl f1)), (fa, .inl (Y 0, 640, .inl f2))] H := hP
  have hD : va_D A [(mm, .inr (9, fl 77 (va_up g 0 (.int 0)))), (kn, .inl (Y 2, 640, .inl (fun _ => 0))), (ps, .inl (Y 2, 640, .inl (fun _ => 0))), (nx, .inl (Y 2, 640, .inl (fun _ => 0))), (ta, .inl (Y 0, 640, .inl f1)), (fa, .inl (Y 0, 640, .inl f2))] := hD
  subst hrr
  refine W.widen (k := 0) (n := 0) (Nat.le_of_ble_eq_true rfl) (Nat.le_of_ble_eq_true rfl) ?_
  refine lv_iconst (v := 1) hx hb dX10_told_13 (by decide) ?_
  refine lv_iconst (v := 1) hx hb dX10_told_14 (by decide) ?_
  refine goI (wr := [(kn, .inl (Y 2, 640, .inl (fun _ => 0))), (ps, .inl (Y 2, 640, .inl (fun _ => 0))), (nx, .inl (Y 2, 640, .inl (fun _ => 0))), (ta, .inl (Y 0, 640, .inl f1)), (fa, .inl (Y 0, 640, .inl f2))]) (runV (n := 3) (As := [.int 1, .int 1, .int 1]) (rest := []) (C := RX10) (T := TX10) (N := 77) (ci := 9) F hK hZ hP hD hS hA (c_isF1 l D Y mm 1 1 (va_up g 0 (.int 0)) rfl ) 0 rfl rfl [0] rfl rfl m_206 m_207 m_208 m_196 m_205 (by decide +kernel) rfl ⟨Nat.le_of_ble_eq_true rfl, Nat.le_of_ble_eq_true rfl⟩ hl.1 rfl (Nat.le_of_ble_eq_true rfl) dX10_told_15 ⟨Nat.le_of_ble_eq_true rfl, Nat.le_of_ble_eq_true rfl⟩) hP hD hS hA [0] [1, 2, 3, 4, 5] rfl rfl rfl (by decide) (fun r_2 u H locs hw hP hD hS => ?_)
  have hrr := hw
  have hP : va_P D vwCl [(kn, .inl (Y 2, 640, .inl (fun _ => 0))), (ps, .inl (Y 2, 640, .inl (fun _ => 0))), (nx, .inl (Y 2, 640, .inl (fun _ => 0))), (ta, .inl (Y 0, 640, .inl f1)), (fa, .inl (Y 0, 640, .inl f2)), (mm, .inr (9, fl 77 (va_up g 0 (.int 0))))] H := hP
  have hD : va_D A [(kn, .inl (Y 2, 640, .inl (fun _ => 0))), (ps, .inl (Y 2, 640, .inl (fun _ => 0))), (nx, .inl (Y 2, 640, .inl (fun _ => 0))), (ta, .inl (Y 0, 640, .inl f1)), (fa, .inl (Y 0, 640, .inl f2)), (mm, .inr (9, fl 77 (va_up g 0 (.int 0))))] := hD
  subst hrr
  refine W.widen (k := 0) (n := 0) (Nat.le_of_ble_eq_true rfl) (Nat.le_of_ble_eq_true rfl) ?_
  refine lv_if_ne (tgt := 23) hx hb dX10_told_18 (by decide) (fun _ => ?_) (fun c9 => absurd c9 (by decide))
  refine lv_aload_n hx hb dX10_told_23 rfl (lv_at hl 0 rfl) ?_
  refine goV (wr := []) (runV (n := 0) (As := []) (rest := []) (C := RX10) (T := TX10) (N := 77) (ci := 9) F hK hZ hP hD hS hA (m_makes l D Y mm kn ps nx ta fa (va_up g 0 (.int 0)) f1 f2 rfl g_2 g_3 g_4 g_10 g_11 g_12 g_13 g_14 g_16 g_20 g_46 g_47 g_48 ) 5 rfl rfl [5, 0, 1, 2, 3, 4] rfl rfl m_266 m_267 m_268 m_196 m_265 (by decide +kernel) rfl ⟨Nat.le_of_ble_eq_true rfl, Nat.le_of_ble_eq_true rfl⟩ hl.1 rfl (Nat.le_of_ble_eq_true rfl) dX10_told_24 ⟨Nat.le_of_ble_eq_true rfl, Nat.le_of_ble_eq_true rfl⟩) hP hD hS hA [5, 0, 1, 2, 3, 4] [] rfl rfl rfl (by decide) (fun gn_3 H locs hw hP hD hS => ?_)
  obtain ⟨o_4, o_5, o_6, o_7, o_8, o_9, o_10, o_11, o_12⟩ := hw
  have hP : va_P D vwCl [(mm, .inr (9, fl 77 gn_3))] H := hP
  have hD : va_D A [(mm, .inr (9, fl 77 gn_3))] := hD
  refine W.widen (k := 0) (n := 0) (Nat.le_of_ble_eq_true rfl) (Nat.le_of_ble_eq_true rfl) ?_
  refine lv_iload_n hx hb dX10_told_27 rfl (lv_at hl 1 rfl) ?_
  refine lv_tableIn (off := 111) (tgt := 139) hx hb dX10_told_28 (by decide) (by decide) (by decide) (by decide) ?_
  refine lv_aload_n hx hb dX10_told_139 rfl (lv_at hl 0 rfl) ?_
  refine lv_iconst (v := 1) hx hb dX10_told_140 (by decide) ?_
  refine goI (wr := []) (runV (n := 1) (As := [.int 1]) (rest := []) (C := RX10) (T := TX10) (N := 77) (ci := 9) F hK hZ hP hD hS hA (m_allA l D Y mm 1 gn_3 o_5 ) 0 rfl rfl [0] rfl rfl m_278 m_279 m_280 m_196 m_277 (by decide +kernel) rfl ⟨Nat.le_of_ble_eq_true rfl, Nat.le_of_ble_eq_true rfl⟩ hl.1 rfl (Nat.le_of_ble_eq_true rfl) dX10_told_141 ⟨Nat.le_of_ble_eq_true rfl, Nat.le_of_ble_eq_true rfl⟩) hP hD hS hA [0] [] rfl rfl rfl (by decide) (fun r_14 u H locs hw hP hD hS => ?_)
  have hrr := hw
  have hP : va_P D vwCl [(mm, .inr (9, fl 77 gn_3))] H := hP
  have hD : va_D A [(mm, .inr (9, fl 77 gn_3))] := hD
  subst hrr
  refine W.widen (k := 0) (n := 0) (Nat.le_of_ble_eq_true rfl) (Nat.le_of_ble_eq_true rfl) ?_
  exact retI F hr hlocks rfl hP hD hS gn_3 [0] rfl rfl (Nat.le_of_ble_eq_true rfl) (Nat.le_of_ble_eq_true rfl) dX10_told_144 ⟨rfl, o_4⟩
set_option maxRecDepth 100000 in
set_option maxHeartbeats 4000000 in
theorem m_told_11 (l : Launch) (D : va_G) (Y : Nat → ClassId) (mm : Nat) (kn : Nat) (ps : Nat) (nx : Nat) (ta : Nat) (fa : Nat) (g : Nat → Value) (f1 : Nat → Int32) (f2 : Nat → Int32) (g_2 : g 2 = .int 0) (g_3 : g 3 = .int 0) (g_4 : g 4 = .int 0) (g_10 : g 10 = .ref kn) (g_11 : g 11 = .ref ps) (g_12 : g 12 = .ref nx) (g_13 : g 13 = .ref ta) (g_14 : g 14 = .ref fa) (g_16 : g 16 = .int 0) (g_20 : g 20 = .int 0) (g_46 : g 46 = .int 0) (g_47 : g 47 = .int 0) (g_48 : g 48 = .int 0)  : cM l D Y yX10_told cX10_told 2 (some .int) 3 0 0 [.ref mm, .int 11] [(mm, .inr (9, fl 77 g)), (kn, .inl (Y 2, 640, .inl (fun _ => 0))), (ps, .inl (Y 2, 640, .inl (fun _ => 0))), (nx, .inl (Y 2, 640, .inl (fun _ => 0))), (ta, .inl (Y 0, 640, .inl f1)), (fa, .inl (Y 0, 640, .inl f2))] (qI D (fun (r : Int32) (u : Nat → Value) => r = 0 ∧ u 0 = .int 0) (fun (u : Nat → Value) => [(mm, .inr (9, fl 77 u))])) := by
  refine cM.mk RX10 rfl (by decide) (Nat.le_of_ble_eq_true rfl) ?_
  intro p e s m below meth c A F hr hlocks hin hK hZ hP hD hA hS ls hl
  have hx := F.1
  have hb := F.2.1
  have hl : lv_has ls 2 [(0, .ref mm), (1, .int 11)] := hl
  refine lv_aload_n hx hb dX10_told_0 rfl (lv_at hl 0 rfl) ?_
  refine lv_iconst (v := 0) hx hb dX10_told_1 (by decide) ?_
  refine pF (C := RX10) (T := TX10) (ci := 9) F hK hP hD hS 0 rfl rfl iwX10 tyX10 tyX10_ok nmX10 0 (by decide) m_191 (fun _ h => h) rfl rfl rfl dX10_told_2 (fun H locs hP hD hS => ?_)
  have hP : va_P D vwCl [(mm, .inr (9, fl 77 (va_up g 0 (.int 0)))), (kn, .inl (Y 2, 640, .inl (fun _ => 0))), (ps, .inl (Y 2, 640, .inl (fun _ => 0))), (nx, .inl (Y 2, 640, .inl (fun _ => 0))), (ta, .inl (Y 0, 640, .inl f1)), (fa, .inl (Y 0, 640, .inl f2))] H := hP
  have hD : va_D A [(mm, .inr (9, fl 77 (va_up g 0 (.int 0)))), (kn, .inl (Y 2, 640, .inl (fun _ => 0))), (ps, .inl (Y 2, 640, .inl (fun _ => 0))), (nx, .inl (Y 2, 640, .inl (fun _ => 0))), (ta, .inl (Y 0, 640, .inl f1)), (fa, .inl (Y 0, 640, .inl f2))] := hD
  refine lv_aload_n hx hb dX10_told_5 rfl (lv_at hl 0 rfl) ?_
  refine lv_iload_n hx hb dX10_told_6 rfl (lv_at hl 1 rfl) ?_
  refine lv_iconst (v := 0) hx hb dX10_told_7 (by decide) ?_
  refine lv_bipush (v := 11) hx hb dX10_told_8 (by decide) ?_
  refine goI (wr := [(mm, .inr (9, fl 77 (va_up g 0 (.int 0)))), (kn, .inl (Y 2, 640, .inl (fun _ => 0))), (ps, .inl (Y 2, 640, .inl (fun _ => 0))), (nx, .inl (Y 2, 640, .inl (fun _ => 0))), (ta, .inl (Y 0, 640, .inl f1)), (fa, .inl (Y 0, 640, .inl f2))]) (runS (n := 3) (As := [.int 11, .int 0, .int 11]) (rest := [.ref mm]) F hK hZ hP hD hS hA (c_within1 l D Y 11 0 11  (by decide) (by decide)) [] rfl rfl m_203 m_204 m_196 m_202 (by decide +kernel) rfl ⟨Nat.le_of_ble_eq_true rfl, Nat.le_of_ble_eq_true rfl⟩ hl.1 rfl (Nat.le_of_ble_eq_true rfl) dX10_told_10 ⟨Nat.le_of_ble_eq_true rfl, Nat.le_of_ble_eq_true rfl⟩) hP hD hS hA [] [0, 1, 2, 3, 4, 5] rfl rfl rfl (by decide) (fun r_1 u H locs hw hP hD hS => ?_)
  have hrr := hw
  have hP : va_P D vwCl [(mm, .inr (9, fl 77 (va_up g 0 (.int 0)))), (kn, .inl (Y 2, 640, .inl (fun _ => 0))), (ps, .inl (Y 2, 640, .inl (fun _ => 0))), (nx, .inl (Y 2, 640, .inl (fun _ => 0))), (ta, .inl (Y 0, 640, .inl f1)), (fa, .inl (Y 0, 640, .inl f2))] H := hP
  have hD : va_D A [(mm, .inr (9, fl 77 (va_up g 0 (.int 0)))), (kn, .inl (Y 2, 640, .inl (fun _ => 0))), (ps, .inl (Y 2, 640, .inl (fun _ => 0))), (nx, .inl (Y 2, 640, .inl (fun _ => 0))), (ta, .inl (Y 0, 640, .inl f1)), (fa, .inl (Y 0, 640, .inl f2))] := hD
  subst hrr
  refine W.widen (k := 0) (n := 0) (Nat.le_of_ble_eq_true rfl) (Nat.le_of_ble_eq_true rfl) ?_
  refine lv_iconst (v := 1) hx hb dX10_told_13 (by decide) ?_
  refine lv_iconst (v := 1) hx hb dX10_told_14 (by decide) ?_
  refine goI (wr := [(kn, .inl (Y 2, 640, .inl (fun _ => 0))), (ps, .inl (Y 2, 640, .inl (fun _ => 0))), (nx, .inl (Y 2, 640, .inl (fun _ => 0))), (ta, .inl (Y 0, 640, .inl f1)), (fa, .inl (Y 0, 640, .inl f2))]) (runV (n := 3) (As := [.int 1, .int 1, .int 1]) (rest := []) (C := RX10) (T := TX10) (N := 77) (ci := 9) F hK hZ hP hD hS hA (c_isF1 l D Y mm 1 1 (va_up g 0 (.int 0)) rfl ) 0 rfl rfl [0] rfl rfl m_206 m_207 m_208 m_196 m_205 (by decide +kernel) rfl ⟨Nat.le_of_ble_eq_true rfl, Nat.le_of_ble_eq_true rfl⟩ hl.1 rfl (Nat.le_of_ble_eq_true rfl) dX10_told_15 ⟨Nat.le_of_ble_eq_true rfl, Nat.le_of_ble_eq_true rfl⟩) hP hD hS hA [0] [1, 2, 3, 4, 5] rfl rfl rfl (by decide) (fun r_2 u H locs hw hP hD hS => ?_)
  have hrr := hw
  have hP : va_P D vwCl [(kn, .inl (Y 2, 640, .inl (fun _ => 0))), (ps, .inl (Y 2, 640, .inl (fun _ => 0))), (nx, .inl (Y 2, 640, .inl (fun _ => 0))), (ta, .inl (Y 0, 640, .inl f1)), (fa, .inl (Y 0, 640, .inl f2)), (mm, .inr (9, fl 77 (va_up g 0 (.int 0))))] H := hP
  have hD : va_D A [(kn, .inl (Y 2, 640, .inl (fun _ => 0))), (ps, .inl (Y 2, 640, .inl (fun _ => 0))), (nx, .inl (Y 2, 640, .inl (fun _ => 0))), (ta, .inl (Y 0, 640, .inl f1)), (fa, .inl (Y 0, 640, .inl f2)), (mm, .inr (9, fl 77 (va_up g 0 (.int 0))))] := hD
  subst hrr
  refine W.widen (k := 0) (n := 0) (Nat.le_of_ble_eq_true rfl) (Nat.le_of_ble_eq_true rfl) ?_
  refine lv_if_ne (tgt := 23) hx hb dX10_told_18 (by decide) (fun _ => ?_) (fun c9 => absurd c9 (by decide))
  refine lv_aload_n hx hb dX10_told_23 rfl (lv_at hl 0 rfl) ?_
  refine goV (wr := []) (runV (n := 0) (As := []) (rest := []) (C := RX10) (T := TX10) (N := 77) (ci := 9) F hK hZ hP hD hS hA (m_makes l D Y mm kn ps nx ta fa (va_up g 0 (.int 0)) f1 f2 rfl g_2 g_3 g_4 g_10 g_11 g_12 g_13 g_14 g_16 g_20 g_46 g_47 g_48 ) 5 rfl rfl [5, 0, 1, 2, 3, 4] rfl rfl m_266 m_267 m_268 m_196 m_265 (by decide +kernel) rfl ⟨Nat.le_of_ble_eq_true rfl, Nat.le_of_ble_eq_true rfl⟩ hl.1 rfl (Nat.le_of_ble_eq_true rfl) dX10_told_24 ⟨Nat.le_of_ble_eq_true rfl, Nat.le_of_ble_eq_true rfl⟩) hP hD hS hA [5, 0, 1, 2, 3, 4] [] rfl rfl rfl (by decide) (fun gn_3 H locs hw hP hD hS => ?_)
  obtain ⟨o_4, o_5, o_6, o_7, o_8, o_9, o_10, o_11, o_12⟩ := hw
  have hP : va_P D vwCl [(mm, .inr (9, fl 77 gn_3))] H := hP
  have hD : va_D A [(mm, .inr (9, fl 77 gn_3))] := hD
  refine W.widen (k := 0) (n := 0) (Nat.le_of_ble_eq_true rfl) (Nat.le_of_ble_eq_true rfl) ?_
  refine lv_iload_n hx hb dX10_told_27 rfl (lv_at hl 1 rfl) ?_
  refine lv_tableOut (tgt := 145) hx hb dX10_told_28 (by decide) (by decide) ?_
  refine lv_aload_n hx hb dX10_told_145 rfl (lv_at hl 0 rfl) ?_
  refine gF (C := RX10) (T := TX10) (ci := 9) (v := .int 0) F hK hP 0 rfl rfl iwX10 20 (by decide) m_194 (fun _ h => h) o_9 dX10_told_146 ?_
  exact retI F hr hlocks rfl hP hD hS gn_3 [0] rfl rfl (Nat.le_of_ble_eq_true rfl) (Nat.le_of_ble_eq_true rfl) dX10_told_149 ⟨rfl, o_4⟩
set_option maxRecDepth 100000 in
set_option maxHeartbeats 4000000 in
theorem m_toldB (l : Launch) (D : va_G) (Y : Nat → ClassId) (mm : Nat) (rf : Nat) (j1 : Int32) (g : Nat → Value) (f : Nat → Int32) (g_1 : g 1 = .ref rf) (h1 : j1 < 0 ∨ 11 < j1) : cM l D Y yX10_told cX10_told 2 (some .int) 2 0 0 [.ref mm, .int j1] [(mm, .inr (9, fl 77 g)), (rf, .inl (Y 0, 3, .inl f))] (qI D (fun (r : Int32) (u : Nat → Value) => r = 0 ∧ u 0 = .int 1) (fun (u : Nat → Value) => [(mm, .inr (9, fl 77 u))])) := by
  refine cM.mk RX10 rfl (by decide) (Nat.le_of_ble_eq_true rfl) ?_
  intro p e s m below meth c A F hr hlocks hin hK hZ hP hD hA hS ls hl
  have hx := F.1
  have hb := F.2.1
  have hl : lv_has ls 2 [(0, .ref mm), (1, .int j1)] := hl
  refine lv_aload_n hx hb dX10_told_0 rfl (lv_at hl 0 rfl) ?_
  refine lv_iconst (v := 0) hx hb dX10_told_1 (by decide) ?_
  refine pF (C := RX10) (T := TX10) (ci := 9) F hK hP hD hS 0 rfl rfl iwX10 tyX10 tyX10_ok nmX10 0 (by decide) m_191 (fun _ h => h) rfl rfl rfl dX10_told_2 (fun H locs hP hD hS => ?_)
  have hP : va_P D vwCl [(mm, .inr (9, fl 77 (va_up g 0 (.int 0)))), (rf, .inl (Y 0, 3, .inl f))] H := hP
  have hD : va_D A [(mm, .inr (9, fl 77 (va_up g 0 (.int 0)))), (rf, .inl (Y 0, 3, .inl f))] := hD
  refine lv_aload_n hx hb dX10_told_5 rfl (lv_at hl 0 rfl) ?_
  refine lv_iload_n hx hb dX10_told_6 rfl (lv_at hl 1 rfl) ?_
  refine lv_iconst (v := 0) hx hb dX10_told_7 (by decide) ?_
  refine lv_bipush (v := 11) hx hb dX10_told_8 (by decide) ?_
  refine goI (wr := [(mm, .inr (9, fl 77 (va_up g 0 (.int 0)))), (rf, .inl (Y 0, 3, .inl f))]) (runS (n := 3) (As := [.int j1, .int 0, .int 11]) (rest := [.ref mm]) F hK hZ hP hD hS hA (c_within0 l D Y j1 0 11  h1) [] rfl rfl m_203 m_204 m_196 m_202 (by decide +kernel) rfl ⟨Nat.le_of_ble_eq_true rfl, Nat.le_of_ble_eq_true rfl⟩ hl.1 rfl (Nat.le_of_ble_eq_true rfl) dX10_told_10 ⟨Nat.le_of_ble_eq_true rfl, Nat.le_of_ble_eq_true rfl⟩) hP hD hS hA [] [0, 1] rfl rfl rfl (by decide) (fun r_1 u H locs hw hP hD hS => ?_)
  have hrr := hw
  have hP : va_P D vwCl [(mm, .inr (9, fl 77 (va_up g 0 (.int 0)))), (rf, .inl (Y 0, 3, .inl f))] H := hP
  have hD : va_D A [(mm, .inr (9, fl 77 (va_up g 0 (.int 0)))), (rf, .inl (Y 0, 3, .inl f))] := hD
  subst hrr
  refine W.widen (k := 0) (n := 0) (Nat.le_of_ble_eq_true rfl) (Nat.le_of_ble_eq_true rfl) ?_
  refine lv_iconst (v := 1) hx hb dX10_told_13 (by decide) ?_
  refine lv_iconst (v := 1) hx hb dX10_told_14 (by decide) ?_
  refine goI (wr := []) (runV (n := 3) (As := [.int 0, .int 1, .int 1]) (rest := []) (C := RX10) (T := TX10) (N := 77) (ci := 9) F hK hZ hP hD hS hA (c_isF0_11 l D Y mm rf (va_up g 0 (.int 0)) f rfl g_1 ) 0 rfl rfl [0, 1] rfl rfl m_206 m_207 m_208 m_196 m_205 (by decide +kernel) rfl ⟨Nat.le_of_ble_eq_true rfl, Nat.le_of_ble_eq_true rfl⟩ hl.1 rfl (Nat.le_of_ble_eq_true rfl) dX10_told_15 ⟨Nat.le_of_ble_eq_true rfl, Nat.le_of_ble_eq_true rfl⟩) hP hD hS hA [0, 1] [] rfl rfl rfl (by decide) (fun r_5 u H locs hw hP hD hS => ?_)
  obtain ⟨gn_2, fn_3⟩ := u
  obtain ⟨hrr, o_4⟩ := hw
  have hP : va_P D vwCl [(mm, .inr (9, fl 77 gn_2)), (rf, .inl (Y 0, 3, .inl fn_3))] H := hP
  have hD : va_D A [(mm, .inr (9, fl 77 gn_2)), (rf, .inl (Y 0, 3, .inl fn_3))] := hD
  subst hrr
  refine W.widen (k := 0) (n := 0) (Nat.le_of_ble_eq_true rfl) (Nat.le_of_ble_eq_true rfl) ?_
  refine lv_if_ne (tgt := 23) hx hb dX10_told_18 (by decide) (fun c9 => absurd (by decide) c9) (fun _ => ?_)
  refine lv_iconst (v := 0) hx hb dX10_told_21 (by decide) ?_
  exact retI F hr hlocks rfl hP hD hS gn_2 [0] rfl rfl (Nat.le_of_ble_eq_true rfl) (Nat.le_of_ble_eq_true rfl) dX10_told_22 ⟨rfl, o_4⟩
set_option maxRecDepth 100000 in
set_option maxHeartbeats 4000000 in
theorem m_letters (l : Launch) (D : va_G) (Y : Nat → ClassId)    : cM l D Y yX10_lettersOf cX10_lettersOf 5 (some .int) 1 0 0 [.long 0] [] (qI D (fun (r : Int32) (u : Unit) => r = 0) (fun (u : Unit) => [])) := by
  refine cM.mk RX10 rfl (by decide) (Nat.le_of_ble_eq_true rfl) ?_
  intro p e s m below meth c A F hr hlocks hin hK hZ hP hD hA hS ls hl
  have hx := F.1
  have hb := F.2.1
  have hl : lv_has ls 5 [(0, .long 0)] := hl
  refine lv_iconst (v := 0) hx hb dX10_lettersOf_0 (by decide) ?_
  refine lv_istore_n (lv' := [(2, .int 0), (0, .long 0)]) hx hb dX10_lettersOf_1 rfl hl (by decide) rfl (fun ls hl => ?_)
  refine lv_lload_n hx hb dX10_lettersOf_2 rfl (lv_at hl 1 rfl) ?_
  refine lv_lstore_n (lv' := [(3, .long 0), (2, .int 0), (0, .long 0)]) hx hb dX10_lettersOf_3 rfl hl (by decide) rfl (fun ls hl => ?_)
  refine lv_lload_n hx hb dX10_lettersOf_4 rfl (lv_at hl 0 rfl) ?_
  refine lv_lconst (v := 0) hx hb dX10_lettersOf_5 (by decide) ?_
  refine W.lcmp hx hb dX10_lettersOf_6 ?_
  refine lv_toc (v := 0) (by decide) ?_
  refine lv_if_le (tgt := 22) hx hb dX10_lettersOf_7 (by decide) (fun _ => ?_) (fun c9 => absurd (by decide) c9)
  refine lv_iload_n hx hb dX10_lettersOf_22 rfl (lv_at hl 1 rfl) ?_
  exact retI F hr hlocks rfl hP hD hS () [] rfl rfl (Nat.le_of_ble_eq_true rfl) (Nat.le_of_ble_eq_true rfl) dX10_lettersOf_23 rfl
set_option maxRecDepth 100000 in
set_option maxHeartbeats 4000000 in
theorem m_nameAt0 (l : Launch) (D : va_G) (Y : Nat → ClassId) (mm : Nat) (rf : Nat) (j2 : Int32) (j3 : Int32) (g : Nat → Value) (f : Nat → Int32) (g_1 : g 1 = .ref rf) (g_2 : g 2 = .int 0) (g_3 : g 3 = .int 0)  : cM l D Y yX10_nameAt cX10_nameAt 10 (some .int) 2 0 0 [.ref mm, .int 0, .int j2, .int j3] [(mm, .inr (9, fl 77 g)), (rf, .inl (Y 0, 3, .inl f))] (qI D (fun (r : Int32) (u : Nat → Value) => r = 0 ∧ u 0 = .int 1) (fun (u : Nat → Value) => [(mm, .inr (9, fl 77 u))])) := by
  refine cM.mk RX10 rfl (by decide) (Nat.le_of_ble_eq_true rfl) ?_
  intro p e s m below meth c A F hr hlocks hin hK hZ hP hD hA hS ls hl
  have hx := F.1
  have hb := F.2.1
  have hl : lv_has ls 10 [(0, .ref mm), (1, .int 0), (2, .int j2), (3, .int j3)] := hl
  refine lv_aload_n hx hb dX10_nameAt_0 rfl (lv_at hl 0 rfl) ?_
  refine lv_iconst (v := 0) hx hb dX10_nameAt_1 (by decide) ?_
  refine pF (C := RX10) (T := TX10) (ci := 9) F hK hP hD hS 0 rfl rfl iwX10 tyX10 tyX10_ok nmX10 0 (by decide) m_191 (fun _ h => h) rfl rfl rfl dX10_nameAt_2 (fun H locs hP hD hS => ?_)
  have hP : va_P D vwCl [(mm, .inr (9, fl 77 (va_up g 0 (.int 0)))), (rf, .inl (Y 0, 3, .inl f))] H := hP
  have hD : va_D A [(mm, .inr (9, fl 77 (va_up g 0 (.int 0)))), (rf, .inl (Y 0, 3, .inl f))] := hD
  refine lv_iload_n hx hb dX10_nameAt_5 rfl (lv_at hl 1 rfl) ?_
  refine lv_if_ne (tgt := 16) hx hb dX10_nameAt_6 (by decide) (fun c9 => absurd (by decide) c9) (fun _ => ?_)
  refine lv_aload_n hx hb dX10_nameAt_9 rfl (lv_at hl 0 rfl) ?_
  refine gF (C := RX10) (T := TX10) (ci := 9) (v := .int 0) F hK hP 0 rfl rfl iwX10 2 (by decide) m_201 (fun _ h => h) g_2 dX10_nameAt_10 ?_
  refine lv_goto (tgt := 20) hx hb dX10_nameAt_13 (by decide) ?_
  refine lv_istore (lv' := [(4, .int 0), (0, .ref mm), (1, .int 0), (2, .int j2), (3, .int j3)]) hx hb dX10_nameAt_20 hl (by decide) rfl (fun ls hl => ?_)
  refine lv_iload_n hx hb dX10_nameAt_22 rfl (lv_at hl 2 rfl) ?_
  refine lv_iconst (v := 0) hx hb dX10_nameAt_23 (by decide) ?_
  refine lv_iconst (v := 1) hx hb dX10_nameAt_24 (by decide) ?_
  refine goI (wr := [(mm, .inr (9, fl 77 (va_up g 0 (.int 0)))), (rf, .inl (Y 0, 3, .inl f))]) (runS (n := 3) (As := [.int 0, .int 0, .int 1]) (rest := []) F hK hZ hP hD hS hA (c_within1 l D Y 0 0 1  (by decide) (by decide)) [] rfl rfl m_203 m_204 m_196 m_202 (by decide +kernel) rfl ⟨Nat.le_of_ble_eq_true rfl, Nat.le_of_ble_eq_true rfl⟩ hl.1 rfl (Nat.le_of_ble_eq_true rfl) dX10_nameAt_25 ⟨Nat.le_of_ble_eq_true rfl, Nat.le_of_ble_eq_true rfl⟩) hP hD hS hA [] [0, 1] rfl rfl rfl (by decide) (fun r_1 u H locs hw hP hD hS => ?_)
  have hrr := hw
  have hP : va_P D vwCl [(mm, .inr (9, fl 77 (va_up g 0 (.int 0)))), (rf, .inl (Y 0, 3, .inl f))] H := hP
  have hD : va_D A [(mm, .inr (9, fl 77 (va_up g 0 (.int 0)))), (rf, .inl (Y 0, 3, .inl f))] := hD
  subst hrr
  refine W.widen (k := 0) (n := 0) (Nat.le_of_ble_eq_true rfl) (Nat.le_of_ble_eq_true rfl) ?_
  refine lv_istore (lv' := [(5, .int 1), (4, .int 0), (0, .ref mm), (1, .int 0), (2, .int j2), (3, .int j3)]) hx hb dX10_nameAt_28 hl (by decide) rfl (fun ls hl => ?_)
  refine lv_iload hx hb dX10_nameAt_30 (lv_at hl 0 rfl) ?_
  refine lv_if_eq (tgt := 69) hx hb dX10_nameAt_32 (by decide) (fun c9 => absurd c9 (by decide)) (fun _ => ?_)
  refine lv_iload_n hx hb dX10_nameAt_35 rfl (lv_at hl 4 rfl) ?_
  refine lv_iconst (v := 0) hx hb dX10_nameAt_36 (by decide) ?_
  refine lv_iload hx hb dX10_nameAt_37 (lv_at hl 1 rfl) ?_
  refine lv_iconst (v := 1) hx hb dX10_nameAt_39 (by decide) ?_
  refine lv_isub hx hb dX10_nameAt_40 ?_
  refine lv_toc (v := (-1)) (by decide) ?_
  refine goI (wr := [(mm, .inr (9, fl 77 (va_up g 0 (.int 0)))), (rf, .inl (Y 0, 3, .inl f))]) (runS (n := 3) (As := [.int j2, .int 0, .int (-1)]) (rest := []) F hK hZ hP hD hS hA (c_within0 l D Y j2 0 (-1)  (no_in j2)) [] rfl rfl m_203 m_204 m_196 m_202 (by decide +kernel) rfl ⟨Nat.le_of_ble_eq_true rfl, Nat.le_of_ble_eq_true rfl⟩ hl.1 rfl (Nat.le_of_ble_eq_true rfl) dX10_nameAt_41 ⟨Nat.le_of_ble_eq_true rfl, Nat.le_of_ble_eq_true rfl⟩) hP hD hS hA [] [0, 1] rfl rfl rfl (by decide) (fun r_2 u H locs hw hP hD hS => ?_)
  have hrr := hw
  have hP : va_P D vwCl [(mm, .inr (9, fl 77 (va_up g 0 (.int 0)))), (rf, .inl (Y 0, 3, .inl f))] H := hP
  have hD : va_D A [(mm, .inr (9, fl 77 (va_up g 0 (.int 0)))), (rf, .inl (Y 0, 3, .inl f))] := hD
  subst hrr
  refine W.widen (k := 0) (n := 0) (Nat.le_of_ble_eq_true rfl) (Nat.le_of_ble_eq_true rfl) ?_
  refine lv_if_eq (tgt := 69) hx hb dX10_nameAt_44 (by decide) (fun _ => ?_) (fun c9 => absurd (by decide) c9)
  refine lv_lconst (v := 0) hx hb dX10_nameAt_69 (by decide) ?_
  refine lv_lstore (lv' := [(6, .long 0), (5, .int 1), (4, .int 0), (0, .ref mm), (1, .int 0), (2, .int j2), (3, .int j3)]) hx hb dX10_nameAt_70 hl (by decide) rfl (fun ls hl => ?_)
  refine lv_lload hx hb dX10_nameAt_72 (lv_at hl 0 rfl) ?_
  refine goI (wr := [(mm, .inr (9, fl 77 (va_up g 0 (.int 0)))), (rf, .inl (Y 0, 3, .inl f))]) (runS (n := 1) (As := [.long 0]) (rest := []) F hK hZ hP hD hS hA (m_letters l D Y   ) [] rfl rfl m_282 m_283 m_196 m_281 (by decide +kernel) rfl ⟨Nat.le_of_ble_eq_true rfl, Nat.le_of_ble_eq_true rfl⟩ hl.1 rfl (Nat.le_of_ble_eq_true rfl) dX10_nameAt_74 ⟨Nat.le_of_ble_eq_true rfl, Nat.le_of_ble_eq_true rfl⟩) hP hD hS hA [] [0, 1] rfl rfl rfl (by decide) (fun r_3 u H locs hw hP hD hS => ?_)
  have hrr := hw
  have hP : va_P D vwCl [(mm, .inr (9, fl 77 (va_up g 0 (.int 0)))), (rf, .inl (Y 0, 3, .inl f))] H := hP
  have hD : va_D A [(mm, .inr (9, fl 77 (va_up g 0 (.int 0)))), (rf, .inl (Y 0, 3, .inl f))] := hD
  subst hrr
  refine W.widen (k := 0) (n := 0) (Nat.le_of_ble_eq_true rfl) (Nat.le_of_ble_eq_true rfl) ?_
  refine lv_istore (lv' := [(8, .int 0), (6, .long 0), (5, .int 1), (4, .int 0), (0, .ref mm), (1, .int 0), (2, .int j2), (3, .int j3)]) hx hb dX10_nameAt_77 hl (by decide) rfl (fun ls hl => ?_)
  refine lv_iload hx hb dX10_nameAt_79 (lv_at hl 2 rfl) ?_
  refine lv_if_eq (tgt := 102) hx hb dX10_nameAt_81 (by decide) (fun c9 => absurd c9 (by decide)) (fun _ => ?_)
  refine lv_aload_n hx hb dX10_nameAt_84 rfl (lv_at hl 4 rfl) ?_
  refine lv_iload_n hx hb dX10_nameAt_85 rfl (lv_at hl 7 rfl) ?_
  refine lv_iconst (v := 0) hx hb dX10_nameAt_86 (by decide) ?_
  refine lv_iload hx hb dX10_nameAt_87 (lv_at hl 0 rfl) ?_
  refine lv_iconst (v := 1) hx hb dX10_nameAt_89 (by decide) ?_
  refine lv_isub hx hb dX10_nameAt_90 ?_
  refine lv_toc (v := (-1)) (by decide) ?_
  refine goI (wr := [(mm, .inr (9, fl 77 (va_up g 0 (.int 0)))), (rf, .inl (Y 0, 3, .inl f))]) (runS (n := 3) (As := [.int j3, .int 0, .int (-1)]) (rest := [.ref mm]) F hK hZ hP hD hS hA (c_within0 l D Y j3 0 (-1)  (no_in j3)) [] rfl rfl m_203 m_204 m_196 m_202 (by decide +kernel) rfl ⟨Nat.le_of_ble_eq_true rfl, Nat.le_of_ble_eq_true rfl⟩ hl.1 rfl (Nat.le_of_ble_eq_true rfl) dX10_nameAt_91 ⟨Nat.le_of_ble_eq_true rfl, Nat.le_of_ble_eq_true rfl⟩) hP hD hS hA [] [0, 1] rfl rfl rfl (by decide) (fun r_4 u H locs hw hP hD hS => ?_)
  have hrr := hw
  have hP : va_P D vwCl [(mm, .inr (9, fl 77 (va_up g 0 (.int 0)))), (rf, .inl (Y 0, 3, .inl f))] H := hP
  have hD : va_D A [(mm, .inr (9, fl 77 (va_up g 0 (.int 0)))), (rf, .inl (Y 0, 3, .inl f))] := hD
  subst hrr
  refine W.widen (k := 0) (n := 0) (Nat.le_of_ble_eq_true rfl) (Nat.le_of_ble_eq_true rfl) ?_
  refine lv_iconst (v := 1) hx hb dX10_nameAt_94 (by decide) ?_
  refine lv_iconst (v := 0) hx hb dX10_nameAt_95 (by decide) ?_
  refine goI (wr := []) (runV (n := 3) (As := [.int 0, .int 1, .int 0]) (rest := []) (C := RX10) (T := TX10) (N := 77) (ci := 9) F hK hZ hP hD hS hA (c_isF0_10 l D Y mm rf (va_up g 0 (.int 0)) f rfl g_1 ) 0 rfl rfl [0, 1] rfl rfl m_206 m_207 m_208 m_196 m_205 (by decide +kernel) rfl ⟨Nat.le_of_ble_eq_true rfl, Nat.le_of_ble_eq_true rfl⟩ hl.1 rfl (Nat.le_of_ble_eq_true rfl) dX10_nameAt_96 ⟨Nat.le_of_ble_eq_true rfl, Nat.le_of_ble_eq_true rfl⟩) hP hD hS hA [0, 1] [] rfl rfl rfl (by decide) (fun r_8 u H locs hw hP hD hS => ?_)
  obtain ⟨gn_5, fn_6⟩ := u
  obtain ⟨hrr, o_7⟩ := hw
  have hP : va_P D vwCl [(mm, .inr (9, fl 77 gn_5)), (rf, .inl (Y 0, 3, .inl fn_6))] H := hP
  have hD : va_D A [(mm, .inr (9, fl 77 gn_5)), (rf, .inl (Y 0, 3, .inl fn_6))] := hD
  subst hrr
  refine W.widen (k := 0) (n := 0) (Nat.le_of_ble_eq_true rfl) (Nat.le_of_ble_eq_true rfl) ?_
  refine lv_if_eq (tgt := 113) hx hb dX10_nameAt_99 (by decide) (fun _ => ?_) (fun c9 => absurd (by decide) c9)
  refine lv_iconst (v := 0) hx hb dX10_nameAt_113 (by decide) ?_
  exact retI F hr hlocks rfl hP hD hS gn_5 [0] rfl rfl (Nat.le_of_ble_eq_true rfl) (Nat.le_of_ble_eq_true rfl) dX10_nameAt_114 ⟨rfl, o_7⟩
set_option maxRecDepth 100000 in
set_option maxHeartbeats 4000000 in
theorem m_nameAt1 (l : Launch) (D : va_G) (Y : Nat → ClassId) (mm : Nat) (rf : Nat) (j2 : Int32) (j3 : Int32) (g : Nat → Value) (f : Nat → Int32) (g_1 : g 1 = .ref rf) (g_2 : g 2 = .int 0) (g_3 : g 3 = .int 0)  : cM l D Y yX10_nameAt cX10_nameAt 10 (some .int) 2 0 0 [.ref mm, .int 1, .int j2, .int j3] [(mm, .inr (9, fl 77 g)), (rf, .inl (Y 0, 3, .inl f))] (qI D (fun (r : Int32) (u : Nat → Value) => r = 0 ∧ u 0 = .int 1) (fun (u : Nat → Value) => [(mm, .inr (9, fl 77 u))])) := by
  refine cM.mk RX10 rfl (by decide) (Nat.le_of_ble_eq_true rfl) ?_
  intro p e s m below meth c A F hr hlocks hin hK hZ hP hD hA hS ls hl
  have hx := F.1
  have hb := F.2.1
  have hl : lv_has ls 10 [(0, .ref mm), (1, .int 1), (2, .int j2), (3, .int j3)] := hl
  refine lv_aload_n hx hb dX10_nameAt_0 rfl (lv_at hl 0 rfl) ?_
  refine lv_iconst (v := 0) hx hb dX10_nameAt_1 (by decide) ?_
  refine pF (C := RX10) (T := TX10) (ci := 9) F hK hP hD hS 0 rfl rfl iwX10 tyX10 tyX10_ok nmX10 0 (by decide) m_191 (fun _ h => h) rfl rfl rfl dX10_nameAt_2 (fun H locs hP hD hS => ?_)
  have hP : va_P D vwCl [(mm, .inr (9, fl 77 (va_up g 0 (.int 0)))), (rf, .inl (Y 0, 3, .inl f))] H := hP
  have hD : va_D A [(mm, .inr (9, fl 77 (va_up g 0 (.int 0)))), (rf, .inl (Y 0, 3, .inl f))] := hD
  refine lv_iload_n hx hb dX10_nameAt_5 rfl (lv_at hl 1 rfl) ?_
  refine lv_if_ne (tgt := 16) hx hb dX10_nameAt_6 (by decide) (fun _ => ?_) (fun c9 => absurd c9 (by decide))
  refine lv_aload_n hx hb dX10_nameAt_16 rfl (lv_at hl 0 rfl) ?_
  refine gF (C := RX10) (T := TX10) (ci := 9) (v := .int 0) F hK hP 0 rfl rfl iwX10 3 (by decide) m_227 (fun _ h => h) g_3 dX10_nameAt_17 ?_
  refine lv_istore (lv' := [(4, .int 0), (0, .ref mm), (1, .int 1), (2, .int j2), (3, .int j3)]) hx hb dX10_nameAt_20 hl (by decide) rfl (fun ls hl => ?_)
  refine lv_iload_n hx hb dX10_nameAt_22 rfl (lv_at hl 2 rfl) ?_
  refine lv_iconst (v := 0) hx hb dX10_nameAt_23 (by decide) ?_
  refine lv_iconst (v := 1) hx hb dX10_nameAt_24 (by decide) ?_
  refine goI (wr := [(mm, .inr (9, fl 77 (va_up g 0 (.int 0)))), (rf, .inl (Y 0, 3, .inl f))]) (runS (n := 3) (As := [.int 1, .int 0, .int 1]) (rest := []) F hK hZ hP hD hS hA (c_within1 l D Y 1 0 1  (by decide) (by decide)) [] rfl rfl m_203 m_204 m_196 m_202 (by decide +kernel) rfl ⟨Nat.le_of_ble_eq_true rfl, Nat.le_of_ble_eq_true rfl⟩ hl.1 rfl (Nat.le_of_ble_eq_true rfl) dX10_nameAt_25 ⟨Nat.le_of_ble_eq_true rfl, Nat.le_of_ble_eq_true rfl⟩) hP hD hS hA [] [0, 1] rfl rfl rfl (by decide) (fun r_1 u H locs hw hP hD hS => ?_)
  have hrr := hw
  have hP : va_P D vwCl [(mm, .inr (9, fl 77 (va_up g 0 (.int 0)))), (rf, .inl (Y 0, 3, .inl f))] H := hP
  have hD : va_D A [(mm, .inr (9, fl 77 (va_up g 0 (.int 0)))), (rf, .inl (Y 0, 3, .inl f))] := hD
  subst hrr
  refine W.widen (k := 0) (n := 0) (Nat.le_of_ble_eq_true rfl) (Nat.le_of_ble_eq_true rfl) ?_
  refine lv_istore (lv' := [(5, .int 1), (4, .int 0), (0, .ref mm), (1, .int 1), (2, .int j2), (3, .int j3)]) hx hb dX10_nameAt_28 hl (by decide) rfl (fun ls hl => ?_)
  refine lv_iload hx hb dX10_nameAt_30 (lv_at hl 0 rfl) ?_
  refine lv_if_eq (tgt := 69) hx hb dX10_nameAt_32 (by decide) (fun c9 => absurd c9 (by decide)) (fun _ => ?_)
  refine lv_iload_n hx hb dX10_nameAt_35 rfl (lv_at hl 4 rfl) ?_
  refine lv_iconst (v := 0) hx hb dX10_nameAt_36 (by decide) ?_
  refine lv_iload hx hb dX10_nameAt_37 (lv_at hl 1 rfl) ?_
  refine lv_iconst (v := 1) hx hb dX10_nameAt_39 (by decide) ?_
  refine lv_isub hx hb dX10_nameAt_40 ?_
  refine lv_toc (v := (-1)) (by decide) ?_
  refine goI (wr := [(mm, .inr (9, fl 77 (va_up g 0 (.int 0)))), (rf, .inl (Y 0, 3, .inl f))]) (runS (n := 3) (As := [.int j2, .int 0, .int (-1)]) (rest := []) F hK hZ hP hD hS hA (c_within0 l D Y j2 0 (-1)  (no_in j2)) [] rfl rfl m_203 m_204 m_196 m_202 (by decide +kernel) rfl ⟨Nat.le_of_ble_eq_true rfl, Nat.le_of_ble_eq_true rfl⟩ hl.1 rfl (Nat.le_of_ble_eq_true rfl) dX10_nameAt_41 ⟨Nat.le_of_ble_eq_true rfl, Nat.le_of_ble_eq_true rfl⟩) hP hD hS hA [] [0, 1] rfl rfl rfl (by decide) (fun r_2 u H locs hw hP hD hS => ?_)
  have hrr := hw
  have hP : va_P D vwCl [(mm, .inr (9, fl 77 (va_up g 0 (.int 0)))), (rf, .inl (Y 0, 3, .inl f))] H := hP
  have hD : va_D A [(mm, .inr (9, fl 77 (va_up g 0 (.int 0)))), (rf, .inl (Y 0, 3, .inl f))] := hD
  subst hrr
  refine W.widen (k := 0) (n := 0) (Nat.le_of_ble_eq_true rfl) (Nat.le_of_ble_eq_true rfl) ?_
  refine lv_if_eq (tgt := 69) hx hb dX10_nameAt_44 (by decide) (fun _ => ?_) (fun c9 => absurd (by decide) c9)
  refine lv_lconst (v := 0) hx hb dX10_nameAt_69 (by decide) ?_
  refine lv_lstore (lv' := [(6, .long 0), (5, .int 1), (4, .int 0), (0, .ref mm), (1, .int 1), (2, .int j2), (3, .int j3)]) hx hb dX10_nameAt_70 hl (by decide) rfl (fun ls hl => ?_)
  refine lv_lload hx hb dX10_nameAt_72 (lv_at hl 0 rfl) ?_
  refine goI (wr := [(mm, .inr (9, fl 77 (va_up g 0 (.int 0)))), (rf, .inl (Y 0, 3, .inl f))]) (runS (n := 1) (As := [.long 0]) (rest := []) F hK hZ hP hD hS hA (m_letters l D Y   ) [] rfl rfl m_282 m_283 m_196 m_281 (by decide +kernel) rfl ⟨Nat.le_of_ble_eq_true rfl, Nat.le_of_ble_eq_true rfl⟩ hl.1 rfl (Nat.le_of_ble_eq_true rfl) dX10_nameAt_74 ⟨Nat.le_of_ble_eq_true rfl, Nat.le_of_ble_eq_true rfl⟩) hP hD hS hA [] [0, 1] rfl rfl rfl (by decide) (fun r_3 u H locs hw hP hD hS => ?_)
  have hrr := hw
  have hP : va_P D vwCl [(mm, .inr (9, fl 77 (va_up g 0 (.int 0)))), (rf, .inl (Y 0, 3, .inl f))] H := hP
  have hD : va_D A [(mm, .inr (9, fl 77 (va_up g 0 (.int 0)))), (rf, .inl (Y 0, 3, .inl f))] := hD
  subst hrr
  refine W.widen (k := 0) (n := 0) (Nat.le_of_ble_eq_true rfl) (Nat.le_of_ble_eq_true rfl) ?_
  refine lv_istore (lv' := [(8, .int 0), (6, .long 0), (5, .int 1), (4, .int 0), (0, .ref mm), (1, .int 1), (2, .int j2), (3, .int j3)]) hx hb dX10_nameAt_77 hl (by decide) rfl (fun ls hl => ?_)
  refine lv_iload hx hb dX10_nameAt_79 (lv_at hl 2 rfl) ?_
  refine lv_if_eq (tgt := 102) hx hb dX10_nameAt_81 (by decide) (fun c9 => absurd c9 (by decide)) (fun _ => ?_)
  refine lv_aload_n hx hb dX10_nameAt_84 rfl (lv_at hl 4 rfl) ?_
  refine lv_iload_n hx hb dX10_nameAt_85 rfl (lv_at hl 7 rfl) ?_
  refine lv_iconst (v := 0) hx hb dX10_nameAt_86 (by decide) ?_
  refine lv_iload hx hb dX10_nameAt_87 (lv_at hl 0 rfl) ?_
  refine lv_iconst (v := 1) hx hb dX10_nameAt_89 (by decide) ?_
  refine lv_isub hx hb dX10_nameAt_90 ?_
  refine lv_toc (v := (-1)) (by decide) ?_
  refine goI (wr := [(mm, .inr (9, fl 77 (va_up g 0 (.int 0)))), (rf, .inl (Y 0, 3, .inl f))]) (runS (n := 3) (As := [.int j3, .int 0, .int (-1)]) (rest := [.ref mm]) F hK hZ hP hD hS hA (c_within0 l D Y j3 0 (-1)  (no_in j3)) [] rfl rfl m_203 m_204 m_196 m_202 (by decide +kernel) rfl ⟨Nat.le_of_ble_eq_true rfl, Nat.le_of_ble_eq_true rfl⟩ hl.1 rfl (Nat.le_of_ble_eq_true rfl) dX10_nameAt_91 ⟨Nat.le_of_ble_eq_true rfl, Nat.le_of_ble_eq_true rfl⟩) hP hD hS hA [] [0, 1] rfl rfl rfl (by decide) (fun r_4 u H locs hw hP hD hS => ?_)
  have hrr := hw
  have hP : va_P D vwCl [(mm, .inr (9, fl 77 (va_up g 0 (.int 0)))), (rf, .inl (Y 0, 3, .inl f))] H := hP
  have hD : va_D A [(mm, .inr (9, fl 77 (va_up g 0 (.int 0)))), (rf, .inl (Y 0, 3, .inl f))] := hD
  subst hrr
  refine W.widen (k := 0) (n := 0) (Nat.le_of_ble_eq_true rfl) (Nat.le_of_ble_eq_true rfl) ?_
  refine lv_iconst (v := 1) hx hb dX10_nameAt_94 (by decide) ?_
  refine lv_iconst (v := 0) hx hb dX10_nameAt_95 (by decide) ?_
  refine goI (wr := []) (runV (n := 3) (As := [.int 0, .int 1, .int 0]) (rest := []) (C := RX10) (T := TX10) (N := 77) (ci := 9) F hK hZ hP hD hS hA (c_isF0_10 l D Y mm rf (va_up g 0 (.int 0)) f rfl g_1 ) 0 rfl rfl [0, 1] rfl rfl m_206 m_207 m_208 m_196 m_205 (by decide +kernel) rfl ⟨Nat.le_of_ble_eq_true rfl, Nat.le_of_ble_eq_true rfl⟩ hl.1 rfl (Nat.le_of_ble_eq_true rfl) dX10_nameAt_96 ⟨Nat.le_of_ble_eq_true rfl, Nat.le_of_ble_eq_true rfl⟩) hP hD hS hA [0, 1] [] rfl rfl rfl (by decide) (fun r_8 u H locs hw hP hD hS => ?_)
  obtain ⟨gn_5, fn_6⟩ := u
  obtain ⟨hrr, o_7⟩ := hw
  have hP : va_P D vwCl [(mm, .inr (9, fl 77 gn_5)), (rf, .inl (Y 0, 3, .inl fn_6))] H := hP
  have hD : va_D A [(mm, .inr (9, fl 77 gn_5)), (rf, .inl (Y 0, 3, .inl fn_6))] := hD
  subst hrr
  refine W.widen (k := 0) (n := 0) (Nat.le_of_ble_eq_true rfl) (Nat.le_of_ble_eq_true rfl) ?_
  refine lv_if_eq (tgt := 113) hx hb dX10_nameAt_99 (by decide) (fun _ => ?_) (fun c9 => absurd (by decide) c9)
  refine lv_iconst (v := 0) hx hb dX10_nameAt_113 (by decide) ?_
  exact retI F hr hlocks rfl hP hD hS gn_5 [0] rfl rfl (Nat.le_of_ble_eq_true rfl) (Nat.le_of_ble_eq_true rfl) dX10_nameAt_114 ⟨rfl, o_7⟩
set_option maxRecDepth 100000 in
set_option maxHeartbeats 4000000 in
theorem m_nameAtB (l : Launch) (D : va_G) (Y : Nat → ClassId) (mm : Nat) (rf : Nat) (j1 : Int32) (j2 : Int32) (j3 : Int32) (g : Nat → Value) (f : Nat → Int32) (g_1 : g 1 = .ref rf) (g_2 : g 2 = .int 0) (g_3 : g 3 = .int 0) (h1 : j1 < 0 ∨ 1 < j1) : cM l D Y yX10_nameAt cX10_nameAt 10 (some .int) 2 0 0 [.ref mm, .int j1, .int j2, .int j3] [(mm, .inr (9, fl 77 g)), (rf, .inl (Y 0, 3, .inl f))] (qI D (fun (r : Int32) (u : Nat → Value) => r = 0 ∧ u 0 = .int 2) (fun (u : Nat → Value) => [(mm, .inr (9, fl 77 u))])) := by
  refine cM.mk RX10 rfl (by decide) (Nat.le_of_ble_eq_true rfl) ?_
  intro p e s m below meth c A F hr hlocks hin hK hZ hP hD hA hS ls hl
  have hx := F.1
  have hb := F.2.1
  have hl : lv_has ls 10 [(0, .ref mm), (1, .int j1), (2, .int j2), (3, .int j3)] := hl
  refine lv_aload_n hx hb dX10_nameAt_0 rfl (lv_at hl 0 rfl) ?_
  refine lv_iconst (v := 0) hx hb dX10_nameAt_1 (by decide) ?_
  refine pF (C := RX10) (T := TX10) (ci := 9) F hK hP hD hS 0 rfl rfl iwX10 tyX10 tyX10_ok nmX10 0 (by decide) m_191 (fun _ h => h) rfl rfl rfl dX10_nameAt_2 (fun H locs hP hD hS => ?_)
  have hP : va_P D vwCl [(mm, .inr (9, fl 77 (va_up g 0 (.int 0)))), (rf, .inl (Y 0, 3, .inl f))] H := hP
  have hD : va_D A [(mm, .inr (9, fl 77 (va_up g 0 (.int 0)))), (rf, .inl (Y 0, 3, .inl f))] := hD
  refine lv_iload_n hx hb dX10_nameAt_5 rfl (lv_at hl 1 rfl) ?_
  refine lv_if_ne (tgt := 16) hx hb dX10_nameAt_6 (by decide) (fun _ => ?_) (fun c9 => absurd c9 (nz_of h1))
  refine lv_aload_n hx hb dX10_nameAt_16 rfl (lv_at hl 0 rfl) ?_
  refine gF (C := RX10) (T := TX10) (ci := 9) (v := .int 0) F hK hP 0 rfl rfl iwX10 3 (by decide) m_227 (fun _ h => h) g_3 dX10_nameAt_17 ?_
  refine lv_istore (lv' := [(4, .int 0), (0, .ref mm), (1, .int j1), (2, .int j2), (3, .int j3)]) hx hb dX10_nameAt_20 hl (by decide) rfl (fun ls hl => ?_)
  refine lv_iload_n hx hb dX10_nameAt_22 rfl (lv_at hl 2 rfl) ?_
  refine lv_iconst (v := 0) hx hb dX10_nameAt_23 (by decide) ?_
  refine lv_iconst (v := 1) hx hb dX10_nameAt_24 (by decide) ?_
  refine goI (wr := [(mm, .inr (9, fl 77 (va_up g 0 (.int 0)))), (rf, .inl (Y 0, 3, .inl f))]) (runS (n := 3) (As := [.int j1, .int 0, .int 1]) (rest := []) F hK hZ hP hD hS hA (c_within0 l D Y j1 0 1  h1) [] rfl rfl m_203 m_204 m_196 m_202 (by decide +kernel) rfl ⟨Nat.le_of_ble_eq_true rfl, Nat.le_of_ble_eq_true rfl⟩ hl.1 rfl (Nat.le_of_ble_eq_true rfl) dX10_nameAt_25 ⟨Nat.le_of_ble_eq_true rfl, Nat.le_of_ble_eq_true rfl⟩) hP hD hS hA [] [0, 1] rfl rfl rfl (by decide) (fun r_1 u H locs hw hP hD hS => ?_)
  have hrr := hw
  have hP : va_P D vwCl [(mm, .inr (9, fl 77 (va_up g 0 (.int 0)))), (rf, .inl (Y 0, 3, .inl f))] H := hP
  have hD : va_D A [(mm, .inr (9, fl 77 (va_up g 0 (.int 0)))), (rf, .inl (Y 0, 3, .inl f))] := hD
  subst hrr
  refine W.widen (k := 0) (n := 0) (Nat.le_of_ble_eq_true rfl) (Nat.le_of_ble_eq_true rfl) ?_
  refine lv_istore (lv' := [(5, .int 0), (4, .int 0), (0, .ref mm), (1, .int j1), (2, .int j2), (3, .int j3)]) hx hb dX10_nameAt_28 hl (by decide) rfl (fun ls hl => ?_)
  refine lv_iload hx hb dX10_nameAt_30 (lv_at hl 0 rfl) ?_
  refine lv_if_eq (tgt := 69) hx hb dX10_nameAt_32 (by decide) (fun _ => ?_) (fun c9 => absurd (by decide) c9)
  refine lv_lconst (v := 0) hx hb dX10_nameAt_69 (by decide) ?_
  refine lv_lstore (lv' := [(6, .long 0), (5, .int 0), (4, .int 0), (0, .ref mm), (1, .int j1), (2, .int j2), (3, .int j3)]) hx hb dX10_nameAt_70 hl (by decide) rfl (fun ls hl => ?_)
  refine lv_lload hx hb dX10_nameAt_72 (lv_at hl 0 rfl) ?_
  refine goI (wr := [(mm, .inr (9, fl 77 (va_up g 0 (.int 0)))), (rf, .inl (Y 0, 3, .inl f))]) (runS (n := 1) (As := [.long 0]) (rest := []) F hK hZ hP hD hS hA (m_letters l D Y   ) [] rfl rfl m_282 m_283 m_196 m_281 (by decide +kernel) rfl ⟨Nat.le_of_ble_eq_true rfl, Nat.le_of_ble_eq_true rfl⟩ hl.1 rfl (Nat.le_of_ble_eq_true rfl) dX10_nameAt_74 ⟨Nat.le_of_ble_eq_true rfl, Nat.le_of_ble_eq_true rfl⟩) hP hD hS hA [] [0, 1] rfl rfl rfl (by decide) (fun r_2 u H locs hw hP hD hS => ?_)
  have hrr := hw
  have hP : va_P D vwCl [(mm, .inr (9, fl 77 (va_up g 0 (.int 0)))), (rf, .inl (Y 0, 3, .inl f))] H := hP
  have hD : va_D A [(mm, .inr (9, fl 77 (va_up g 0 (.int 0)))), (rf, .inl (Y 0, 3, .inl f))] := hD
  subst hrr
  refine W.widen (k := 0) (n := 0) (Nat.le_of_ble_eq_true rfl) (Nat.le_of_ble_eq_true rfl) ?_
  refine lv_istore (lv' := [(8, .int 0), (6, .long 0), (5, .int 0), (4, .int 0), (0, .ref mm), (1, .int j1), (2, .int j2), (3, .int j3)]) hx hb dX10_nameAt_77 hl (by decide) rfl (fun ls hl => ?_)
  refine lv_iload hx hb dX10_nameAt_79 (lv_at hl 2 rfl) ?_
  refine lv_if_eq (tgt := 102) hx hb dX10_nameAt_81 (by decide) (fun _ => ?_) (fun c9 => absurd (by decide) c9)
  refine lv_aload_n hx hb dX10_nameAt_102 rfl (lv_at hl 4 rfl) ?_
  refine lv_iload hx hb dX10_nameAt_103 (lv_at hl 2 rfl) ?_
  refine lv_iconst (v := 2) hx hb dX10_nameAt_105 (by decide) ?_
  refine lv_iconst (v := 1) hx hb dX10_nameAt_106 (by decide) ?_
  refine goI (wr := []) (runV (n := 3) (As := [.int 0, .int 2, .int 1]) (rest := []) (C := RX10) (T := TX10) (N := 77) (ci := 9) F hK hZ hP hD hS hA (c_isF0_21 l D Y mm rf (va_up g 0 (.int 0)) f rfl g_1 ) 0 rfl rfl [0, 1] rfl rfl m_206 m_207 m_208 m_196 m_205 (by decide +kernel) rfl ⟨Nat.le_of_ble_eq_true rfl, Nat.le_of_ble_eq_true rfl⟩ hl.1 rfl (Nat.le_of_ble_eq_true rfl) dX10_nameAt_107 ⟨Nat.le_of_ble_eq_true rfl, Nat.le_of_ble_eq_true rfl⟩) hP hD hS hA [0, 1] [] rfl rfl rfl (by decide) (fun r_6 u H locs hw hP hD hS => ?_)
  obtain ⟨gn_3, fn_4⟩ := u
  obtain ⟨hrr, o_5⟩ := hw
  have hP : va_P D vwCl [(mm, .inr (9, fl 77 gn_3)), (rf, .inl (Y 0, 3, .inl fn_4))] H := hP
  have hD : va_D A [(mm, .inr (9, fl 77 gn_3)), (rf, .inl (Y 0, 3, .inl fn_4))] := hD
  subst hrr
  refine W.widen (k := 0) (n := 0) (Nat.le_of_ble_eq_true rfl) (Nat.le_of_ble_eq_true rfl) ?_
  refine lv_if_ne (tgt := 115) hx hb dX10_nameAt_110 (by decide) (fun c9 => absurd (by decide) c9) (fun _ => ?_)
  refine lv_iconst (v := 0) hx hb dX10_nameAt_113 (by decide) ?_
  exact retI F hr hlocks rfl hP hD hS gn_3 [0] rfl rfl (Nat.le_of_ble_eq_true rfl) (Nat.le_of_ble_eq_true rfl) dX10_nameAt_114 ⟨rfl, o_5⟩
