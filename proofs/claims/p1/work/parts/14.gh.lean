theorem dX10_follows_0 : decode cX10_follows 0 = .ok (.iconst 0, 1) := by decide +kernel
theorem dX10_follows_1 : decode cX10_follows 1 = .ok (.istore_n 3, 1) := by decide +kernel
theorem dX10_follows_2 : decode cX10_follows 2 = .ok (.iload_n 3, 1) := by decide +kernel
theorem dX10_follows_3 : decode cX10_follows 3 = .ok (.sipush 640, 3) := by decide +kernel
theorem dX10_follows_6 : decode cX10_follows 6 = .ok (.if_icmp .ge 13, 3) := by decide +kernel
theorem dX10_follows_9 : decode cX10_follows 9 = .ok (.aload_n 2, 1) := by decide +kernel
theorem dX10_follows_10 : decode cX10_follows 10 = .ok (.iload_n 3, 1) := by decide +kernel
theorem dX10_follows_11 : decode cX10_follows 11 = .ok (.iconst 0, 1) := by decide +kernel
theorem dX10_follows_12 : decode cX10_follows 12 = .ok (.bastore, 1) := by decide +kernel
theorem dX10_follows_13 : decode cX10_follows 13 = .ok (.iinc 3 1, 3) := by decide +kernel
theorem dX10_follows_16 : decode cX10_follows 16 = .ok (.goto (-14), 3) := by decide +kernel
theorem dX10_follows_19 : decode cX10_follows 19 = .ok (.iconst 1, 1) := by decide +kernel
theorem dX10_follows_20 : decode cX10_follows 20 = .ok (.istore_n 3, 1) := by decide +kernel
theorem dX10_follows_21 : decode cX10_follows 21 = .ok (.iload_n 3, 1) := by decide +kernel
theorem dX10_follows_22 : decode cX10_follows 22 = .ok (.ifCond .eq 85, 3) := by decide +kernel
theorem dX10_follows_25 : decode cX10_follows 25 = .ok (.iconst 0, 1) := by decide +kernel
theorem dX10_follows_26 : decode cX10_follows 26 = .ok (.istore_n 3, 1) := by decide +kernel
theorem dX10_follows_27 : decode cX10_follows 27 = .ok (.iconst 0, 1) := by decide +kernel
theorem dX10_follows_28 : decode cX10_follows 28 = .ok (.istore 4, 2) := by decide +kernel
theorem dX10_follows_30 : decode cX10_follows 30 = .ok (.iload 4, 2) := by decide +kernel
theorem dX10_follows_32 : decode cX10_follows 32 = .ok (.aload_n 0, 1) := by decide +kernel
theorem dX10_follows_33 : decode cX10_follows 33 = .ok (.getfield 191, 3) := by decide +kernel
theorem dX10_follows_36 : decode cX10_follows 36 = .ok (.if_icmp .ge 68, 3) := by decide +kernel
theorem dX10_follows_104 : decode cX10_follows 104 = .ok (.goto (-83), 3) := by decide +kernel
theorem dX10_follows_107 : decode cX10_follows 107 = .ok (.return_, 1) := by decide +kernel
theorem dX10_marks_0 : decode cX10_marks 0 = .ok (.iconst 0, 1) := by decide +kernel
theorem dX10_marks_1 : decode cX10_marks 1 = .ok (.istore_n 2, 1) := by decide +kernel
theorem dX10_marks_2 : decode cX10_marks 2 = .ok (.iload_n 2, 1) := by decide +kernel
theorem dX10_marks_3 : decode cX10_marks 3 = .ok (.sipush 640, 3) := by decide +kernel
theorem dX10_marks_6 : decode cX10_marks 6 = .ok (.if_icmp .ge 61, 3) := by decide +kernel
theorem dX10_marks_9 : decode cX10_marks 9 = .ok (.aload_n 0, 1) := by decide +kernel
theorem dX10_marks_10 : decode cX10_marks 10 = .ok (.getfield 29, 3) := by decide +kernel
theorem dX10_marks_13 : decode cX10_marks 13 = .ok (.iload_n 2, 1) := by decide +kernel
theorem dX10_marks_14 : decode cX10_marks 14 = .ok (.baload, 1) := by decide +kernel
theorem dX10_marks_15 : decode cX10_marks 15 = .ok (.ifCond .eq 20, 3) := by decide +kernel
theorem dX10_marks_35 : decode cX10_marks 35 = .ok (.aload_n 0, 1) := by decide +kernel
theorem dX10_marks_36 : decode cX10_marks 36 = .ok (.getfield 33, 3) := by decide +kernel
theorem dX10_marks_39 : decode cX10_marks 39 = .ok (.iload_n 2, 1) := by decide +kernel
theorem dX10_marks_40 : decode cX10_marks 40 = .ok (.baload, 1) := by decide +kernel
theorem dX10_marks_41 : decode cX10_marks 41 = .ok (.ifCond .ne 20, 3) := by decide +kernel
theorem dX10_marks_44 : decode cX10_marks 44 = .ok (.aload_n 0, 1) := by decide +kernel
theorem dX10_marks_45 : decode cX10_marks 45 = .ok (.getfield 42, 3) := by decide +kernel
theorem dX10_marks_48 : decode cX10_marks 48 = .ok (.iload_n 2, 1) := by decide +kernel
theorem dX10_marks_49 : decode cX10_marks 49 = .ok (.iaload, 1) := by decide +kernel
theorem dX10_marks_50 : decode cX10_marks 50 = .ok (.iconst (-1), 1) := by decide +kernel
theorem dX10_marks_51 : decode cX10_marks 51 = .ok (.if_icmp .ne 10, 3) := by decide +kernel
theorem dX10_marks_54 : decode cX10_marks 54 = .ok (.aload_n 0, 1) := by decide +kernel
theorem dX10_marks_55 : decode cX10_marks 55 = .ok (.getfield 42, 3) := by decide +kernel
theorem dX10_marks_58 : decode cX10_marks 58 = .ok (.iload_n 2, 1) := by decide +kernel
theorem dX10_marks_59 : decode cX10_marks 59 = .ok (.iload_n 1, 1) := by decide +kernel
theorem dX10_marks_60 : decode cX10_marks 60 = .ok (.iastore, 1) := by decide +kernel
theorem dX10_marks_61 : decode cX10_marks 61 = .ok (.iinc 2 1, 3) := by decide +kernel
theorem dX10_marks_64 : decode cX10_marks 64 = .ok (.goto (-62), 3) := by decide +kernel
theorem dX10_marks_67 : decode cX10_marks 67 = .ok (.return_, 1) := by decide +kernel
theorem dX10_makes_0 : decode cX10_makes 0 = .ok (.aload_n 0, 1) := by decide +kernel
theorem dX10_makes_1 : decode cX10_makes 1 = .ok (.getfield 205, 3) := by decide +kernel
theorem dX10_makes_4 : decode cX10_makes 4 = .ok (.ifCond .eq 4, 3) := by decide +kernel
theorem dX10_makes_8 : decode cX10_makes 8 = .ok (.aload_n 0, 1) := by decide +kernel
theorem dX10_makes_9 : decode cX10_makes 9 = .ok (.iconst 1, 1) := by decide +kernel
theorem dX10_makes_10 : decode cX10_makes 10 = .ok (.putfield 205, 3) := by decide +kernel
theorem dX10_makes_13 : decode cX10_makes 13 = .ok (.aload_n 0, 1) := by decide +kernel
theorem dX10_makes_14 : decode cX10_makes 14 = .ok (.iconst 0, 1) := by decide +kernel
theorem dX10_makes_15 : decode cX10_makes 15 = .ok (.putfield 209, 3) := by decide +kernel
theorem dX10_makes_18 : decode cX10_makes 18 = .ok (.iconst 0, 1) := by decide +kernel
theorem dX10_makes_19 : decode cX10_makes 19 = .ok (.istore_n 1, 1) := by decide +kernel
theorem dX10_makes_20 : decode cX10_makes 20 = .ok (.iload_n 1, 1) := by decide +kernel
theorem dX10_makes_21 : decode cX10_makes 21 = .ok (.sipush 640, 3) := by decide +kernel
theorem dX10_makes_24 : decode cX10_makes 24 = .ok (.if_icmp .ge 30, 3) := by decide +kernel
theorem dX10_makes_27 : decode cX10_makes 27 = .ok (.aload_n 0, 1) := by decide +kernel
theorem dX10_makes_28 : decode cX10_makes 28 = .ok (.getfield 29, 3) := by decide +kernel
theorem dX10_makes_31 : decode cX10_makes 31 = .ok (.iload_n 1, 1) := by decide +kernel
theorem dX10_makes_32 : decode cX10_makes 32 = .ok (.iconst 0, 1) := by decide +kernel
theorem dX10_makes_33 : decode cX10_makes 33 = .ok (.bastore, 1) := by decide +kernel
theorem dX10_makes_34 : decode cX10_makes 34 = .ok (.aload_n 0, 1) := by decide +kernel
theorem dX10_makes_35 : decode cX10_makes 35 = .ok (.getfield 39, 3) := by decide +kernel
theorem dX10_makes_38 : decode cX10_makes 38 = .ok (.iload_n 1, 1) := by decide +kernel
theorem dX10_makes_39 : decode cX10_makes 39 = .ok (.iconst (-1), 1) := by decide +kernel
theorem dX10_makes_40 : decode cX10_makes 40 = .ok (.iastore, 1) := by decide +kernel
theorem dX10_makes_41 : decode cX10_makes 41 = .ok (.aload_n 0, 1) := by decide +kernel
theorem dX10_makes_42 : decode cX10_makes 42 = .ok (.getfield 42, 3) := by decide +kernel
theorem dX10_makes_45 : decode cX10_makes 45 = .ok (.iload_n 1, 1) := by decide +kernel
theorem dX10_makes_46 : decode cX10_makes 46 = .ok (.iconst (-1), 1) := by decide +kernel
theorem dX10_makes_47 : decode cX10_makes 47 = .ok (.iastore, 1) := by decide +kernel
theorem dX10_makes_48 : decode cX10_makes 48 = .ok (.iinc 1 1, 3) := by decide +kernel
theorem dX10_makes_51 : decode cX10_makes 51 = .ok (.goto (-31), 3) := by decide +kernel
theorem dX10_makes_54 : decode cX10_makes 54 = .ok (.iconst 1, 1) := by decide +kernel
theorem dX10_makes_55 : decode cX10_makes 55 = .ok (.istore_n 1, 1) := by decide +kernel
theorem dX10_makes_56 : decode cX10_makes 56 = .ok (.iload_n 1, 1) := by decide +kernel
theorem dX10_makes_57 : decode cX10_makes 57 = .ok (.ifCond .eq 110, 3) := by decide +kernel
theorem dX10_makes_60 : decode cX10_makes 60 = .ok (.aload_n 0, 1) := by decide +kernel
theorem dX10_makes_61 : decode cX10_makes 61 = .ok (.aload_n 0, 1) := by decide +kernel
theorem dX10_makes_62 : decode cX10_makes 62 = .ok (.getfield 29, 3) := by decide +kernel
theorem dX10_makes_65 : decode cX10_makes 65 = .ok (.aload_n 0, 1) := by decide +kernel
theorem dX10_makes_66 : decode cX10_makes 66 = .ok (.getfield 33, 3) := by decide +kernel
theorem dX10_makes_69 : decode cX10_makes 69 = .ok (.invokevirtual 212, 3) := by decide +kernel
theorem dX10_makes_72 : decode cX10_makes 72 = .ok (.aload_n 0, 1) := by decide +kernel
theorem dX10_makes_73 : decode cX10_makes 73 = .ok (.aload_n 0, 1) := by decide +kernel
theorem dX10_makes_74 : decode cX10_makes 74 = .ok (.getfield 209, 3) := by decide +kernel
theorem dX10_makes_77 : decode cX10_makes 77 = .ok (.invokevirtual 216, 3) := by decide +kernel
theorem dX10_makes_80 : decode cX10_makes 80 = .ok (.aload_n 0, 1) := by decide +kernel
theorem dX10_makes_81 : decode cX10_makes 81 = .ok (.aload_n 0, 1) := by decide +kernel
theorem dX10_makes_82 : decode cX10_makes 82 = .ok (.getfield 33, 3) := by decide +kernel
theorem dX10_makes_85 : decode cX10_makes 85 = .ok (.aload_n 0, 1) := by decide +kernel
theorem dX10_makes_86 : decode cX10_makes 86 = .ok (.getfield 36, 3) := by decide +kernel
theorem dX10_makes_89 : decode cX10_makes 89 = .ok (.invokevirtual 212, 3) := by decide +kernel
theorem dX10_makes_92 : decode cX10_makes 92 = .ok (.iconst 0, 1) := by decide +kernel
theorem dX10_makes_93 : decode cX10_makes 93 = .ok (.istore_n 1, 1) := by decide +kernel
theorem dX10_makes_94 : decode cX10_makes 94 = .ok (.iconst 0, 1) := by decide +kernel
theorem dX10_makes_95 : decode cX10_makes 95 = .ok (.istore_n 2, 1) := by decide +kernel
theorem dX10_makes_96 : decode cX10_makes 96 = .ok (.iload_n 2, 1) := by decide +kernel
theorem dX10_makes_97 : decode cX10_makes 97 = .ok (.sipush 640, 3) := by decide +kernel
theorem dX10_makes_100 : decode cX10_makes 100 = .ok (.if_icmp .ge 46, 3) := by decide +kernel
theorem dX10_makes_103 : decode cX10_makes 103 = .ok (.iload_n 1, 1) := by decide +kernel
theorem dX10_makes_104 : decode cX10_makes 104 = .ok (.ifCond .ne 18, 3) := by decide +kernel
theorem dX10_makes_107 : decode cX10_makes 107 = .ok (.aload_n 0, 1) := by decide +kernel
theorem dX10_makes_108 : decode cX10_makes 108 = .ok (.getfield 36, 3) := by decide +kernel
theorem dX10_makes_111 : decode cX10_makes 111 = .ok (.iload_n 2, 1) := by decide +kernel
theorem dX10_makes_112 : decode cX10_makes 112 = .ok (.baload, 1) := by decide +kernel
theorem dX10_makes_113 : decode cX10_makes 113 = .ok (.aload_n 0, 1) := by decide +kernel
theorem dX10_makes_114 : decode cX10_makes 114 = .ok (.getfield 29, 3) := by decide +kernel
theorem dX10_makes_117 : decode cX10_makes 117 = .ok (.iload_n 2, 1) := by decide +kernel
theorem dX10_makes_118 : decode cX10_makes 118 = .ok (.baload, 1) := by decide +kernel
theorem dX10_makes_119 : decode cX10_makes 119 = .ok (.if_icmp .eq 7, 3) := by decide +kernel
theorem dX10_makes_126 : decode cX10_makes 126 = .ok (.iconst 0, 1) := by decide +kernel
theorem dX10_makes_127 : decode cX10_makes 127 = .ok (.istore_n 1, 1) := by decide +kernel
theorem dX10_makes_128 : decode cX10_makes 128 = .ok (.aload_n 0, 1) := by decide +kernel
theorem dX10_makes_129 : decode cX10_makes 129 = .ok (.getfield 29, 3) := by decide +kernel
theorem dX10_makes_132 : decode cX10_makes 132 = .ok (.iload_n 2, 1) := by decide +kernel
theorem dX10_makes_133 : decode cX10_makes 133 = .ok (.aload_n 0, 1) := by decide +kernel
theorem dX10_makes_134 : decode cX10_makes 134 = .ok (.getfield 36, 3) := by decide +kernel
theorem dX10_makes_137 : decode cX10_makes 137 = .ok (.iload_n 2, 1) := by decide +kernel
theorem dX10_makes_138 : decode cX10_makes 138 = .ok (.baload, 1) := by decide +kernel
theorem dX10_makes_139 : decode cX10_makes 139 = .ok (.bastore, 1) := by decide +kernel
theorem dX10_makes_140 : decode cX10_makes 140 = .ok (.iinc 2 1, 3) := by decide +kernel
theorem dX10_makes_143 : decode cX10_makes 143 = .ok (.goto (-47), 3) := by decide +kernel
theorem dX10_makes_146 : decode cX10_makes 146 = .ok (.aload_n 0, 1) := by decide +kernel
theorem dX10_makes_147 : decode cX10_makes 147 = .ok (.dup, 1) := by decide +kernel
theorem dX10_makes_148 : decode cX10_makes 148 = .ok (.getfield 209, 3) := by decide +kernel
theorem dX10_makes_151 : decode cX10_makes 151 = .ok (.iload_n 1, 1) := by decide +kernel
theorem dX10_makes_152 : decode cX10_makes 152 = .ok (.ifCond .eq 7, 3) := by decide +kernel
theorem dX10_makes_159 : decode cX10_makes 159 = .ok (.iconst 0, 1) := by decide +kernel
theorem dX10_makes_160 : decode cX10_makes 160 = .ok (.iadd, 1) := by decide +kernel
theorem dX10_makes_161 : decode cX10_makes 161 = .ok (.putfield 209, 3) := by decide +kernel
theorem dX10_makes_164 : decode cX10_makes 164 = .ok (.goto (-108), 3) := by decide +kernel
theorem dX10_makes_167 : decode cX10_makes 167 = .ok (.return_, 1) := by decide +kernel
theorem dX10_factMany_0 : decode cX10_factMany 0 = .ok (.iconst 0, 1) := by decide +kernel
theorem dX10_factMany_1 : decode cX10_factMany 1 = .ok (.istore_n 1, 1) := by decide +kernel
theorem dX10_factMany_2 : decode cX10_factMany 2 = .ok (.iconst 0, 1) := by decide +kernel
theorem dX10_factMany_3 : decode cX10_factMany 3 = .ok (.istore_n 2, 1) := by decide +kernel
theorem dX10_factMany_4 : decode cX10_factMany 4 = .ok (.iload_n 2, 1) := by decide +kernel
theorem dX10_factMany_5 : decode cX10_factMany 5 = .ok (.aload_n 0, 1) := by decide +kernel
theorem dX10_factMany_6 : decode cX10_factMany 6 = .ok (.getfield 191, 3) := by decide +kernel
theorem dX10_factMany_9 : decode cX10_factMany 9 = .ok (.if_icmp .ge 25, 3) := by decide +kernel
theorem dX10_factMany_34 : decode cX10_factMany 34 = .ok (.iload_n 1, 1) := by decide +kernel
theorem dX10_factMany_35 : decode cX10_factMany 35 = .ok (.ireturn, 1) := by decide +kernel
theorem dX10_freshMany_0 : decode cX10_freshMany 0 = .ok (.iconst 0, 1) := by decide +kernel
theorem dX10_freshMany_1 : decode cX10_freshMany 1 = .ok (.istore_n 1, 1) := by decide +kernel
theorem dX10_freshMany_2 : decode cX10_freshMany 2 = .ok (.iconst 0, 1) := by decide +kernel
theorem dX10_freshMany_3 : decode cX10_freshMany 3 = .ok (.istore_n 2, 1) := by decide +kernel
theorem dX10_freshMany_4 : decode cX10_freshMany 4 = .ok (.iload_n 2, 1) := by decide +kernel
theorem dX10_freshMany_5 : decode cX10_freshMany 5 = .ok (.aload_n 0, 1) := by decide +kernel
theorem dX10_freshMany_6 : decode cX10_freshMany 6 = .ok (.getfield 400, 3) := by decide +kernel
theorem dX10_freshMany_9 : decode cX10_freshMany 9 = .ok (.if_icmp .ge 26, 3) := by decide +kernel
theorem dX10_freshMany_35 : decode cX10_freshMany 35 = .ok (.iload_n 1, 1) := by decide +kernel
theorem dX10_freshMany_36 : decode cX10_freshMany 36 = .ok (.ireturn, 1) := by decide +kernel
theorem dX10_allAtoms_0 : decode cX10_allAtoms 0 = .ok (.iconst 0, 1) := by decide +kernel
theorem dX10_allAtoms_1 : decode cX10_allAtoms 1 = .ok (.istore_n 2, 1) := by decide +kernel
theorem dX10_allAtoms_2 : decode cX10_allAtoms 2 = .ok (.iconst 0, 1) := by decide +kernel
theorem dX10_allAtoms_3 : decode cX10_allAtoms 3 = .ok (.istore_n 3, 1) := by decide +kernel
theorem dX10_allAtoms_4 : decode cX10_allAtoms 4 = .ok (.iload_n 3, 1) := by decide +kernel
theorem dX10_allAtoms_5 : decode cX10_allAtoms 5 = .ok (.aload_n 0, 1) := by decide +kernel
theorem dX10_allAtoms_6 : decode cX10_allAtoms 6 = .ok (.getfield 344, 3) := by decide +kernel
theorem dX10_allAtoms_9 : decode cX10_allAtoms 9 = .ok (.if_icmp .ge 18, 3) := by decide +kernel
theorem dX10_allAtoms_27 : decode cX10_allAtoms 27 = .ok (.iload_n 2, 1) := by decide +kernel
theorem dX10_allAtoms_28 : decode cX10_allAtoms 28 = .ok (.ireturn, 1) := by decide +kernel
set_option maxRecDepth 100000 in
set_option maxHeartbeats 4000000 in
theorem m_foll (l : Launch) (D : va_G) (Y : Nat → ClassId) (mm : Nat) (na : Nat) (ia : Nat) (g : Nat → Value) (g_4 : g 4 = .int 0)  : cM l D Y yX10_follows cX10_follows 6 none 1 0 0 [.ref mm, .ref na, .ref ia] [(mm, .inr (9, fl 77 g)), (ia, .inl (Y 2, 640, .inl (fun _ => 0)))] (qV D (fun (u : Unit) => True) (fun (u : Unit) => [(mm, .inr (9, fl 77 g)), (ia, .inl (Y 2, 640, .inl (fun _ => 0)))])) := by
  refine cM.mk RX10 rfl (by decide) (Nat.le_of_ble_eq_true rfl) ?_
  intro p e s m below meth c A F hr hlocks hin hK hZ hP hD hA hS ls hl
  have hx := F.1
  have hb := F.2.1
  have hl : lv_has ls 6 [(0, .ref mm), (1, .ref na), (2, .ref ia)] := hl
  refine lv_iconst (v := 0) hx hb dX10_follows_0 (by decide) ?_
  refine lv_istore_n (lv' := [(3, .int 0), (0, .ref mm), (1, .ref na), (2, .ref ia)]) hx hb dX10_follows_1 rfl hl (by decide) rfl (fun ls hl => ?_)
  refine loopN (X := Unit) 640 (fun i x H locs ls => va_P D vwCl [(mm, .inr (9, fl 77 g)), (ia, .inl (Y 2, 640, .inl (fun _ => 0)))] H ∧ va_D A [(mm, .inr (9, fl 77 g)), (ia, .inl (Y 2, 640, .inl (fun _ => 0)))] ∧ va_S A s.heap H locs ∧ lv_has ls 6 [(0, .ref mm), (1, .ref na), (2, .ref ia), (3, .int (nI i))]) 2 ?_ ?_ 0 () (by omega) ⟨hP, hD, hS, lv_sub hl [1, 2, 3, 0] rfl⟩
  · rintro _ H locs ls ⟨hP, hD, hS, hl⟩
    have hP : va_P D vwCl [(mm, .inr (9, fl 77 g)), (ia, .inl (Y 2, 640, .inl (fun _ => 0)))] H := hP
    have hD : va_D A [(mm, .inr (9, fl 77 g)), (ia, .inl (Y 2, 640, .inl (fun _ => 0)))] := hD
    have hl : lv_has ls 6 [(0, .ref mm), (1, .ref na), (2, .ref ia), (3, .int 640)] := hl
    refine lv_iload_n hx hb dX10_follows_2 rfl (lv_at hl 3 rfl) ?_
    refine lv_sipush (v := 640) hx hb dX10_follows_3 (by decide) ?_
    refine lv_icmp_ge (tgt := 19) hx hb dX10_follows_6 (by decide) (fun _ => ?_) (fun c9 => absurd (by decide) c9)
    refine lv_iconst (v := 1) hx hb dX10_follows_19 (by decide) ?_
    refine lv_istore_n (lv' := [(3, .int 1), (0, .ref mm), (1, .ref na), (2, .ref ia)]) hx hb dX10_follows_20 rfl hl (by decide) rfl (fun ls hl => ?_)
    refine lv_iload_n hx hb dX10_follows_21 rfl (lv_at hl 0 rfl) ?_
    refine lv_if_eq (tgt := 107) hx hb dX10_follows_22 (by decide) (fun c9 => absurd c9 (by decide)) (fun _ => ?_)
    refine lv_iconst (v := 0) hx hb dX10_follows_25 (by decide) ?_
    refine lv_istore_n (lv' := [(3, .int 0), (0, .ref mm), (1, .ref na), (2, .ref ia)]) hx hb dX10_follows_26 rfl hl (by decide) rfl (fun ls hl => ?_)
    refine lv_iconst (v := 0) hx hb dX10_follows_27 (by decide) ?_
    refine lv_istore (lv' := [(4, .int 0), (3, .int 0), (0, .ref mm), (1, .ref na), (2, .ref ia)]) hx hb dX10_follows_28 hl (by decide) rfl (fun ls hl => ?_)
    refine lv_iload hx hb dX10_follows_30 (lv_at hl 0 rfl) ?_
    refine lv_aload_n hx hb dX10_follows_32 rfl (lv_at hl 2 rfl) ?_
    refine gF (C := RX10) (T := TX10) (ci := 9) (v := .int 0) F hK hP 0 rfl rfl iwX10 4 (by decide) m_213 (fun _ h => h) g_4 dX10_follows_33 ?_
    refine lv_icmp_ge (tgt := 104) hx hb dX10_follows_36 (by decide) (fun _ => ?_) (fun c9 => absurd (by decide) c9)
    refine lv_goto (tgt := 21) hx hb dX10_follows_104 (by decide) ?_
    refine lv_iload_n hx hb dX10_follows_21 rfl (lv_at hl 1 rfl) ?_
    refine lv_if_eq (tgt := 107) hx hb dX10_follows_22 (by decide) (fun _ => ?_) (fun c9 => absurd (by decide) c9)
    exact retV F hr hlocks hP hD hS () [0, 1] rfl rfl (Nat.le_of_ble_eq_true rfl) (Nat.le_of_ble_eq_true rfl) dX10_follows_107 trivial
  · rintro i _ H locs ls hi ⟨hP, hD, hS, hl⟩ ih
    have hP : va_P D vwCl [(mm, .inr (9, fl 77 g)), (ia, .inl (Y 2, 640, .inl (fun _ => 0)))] H := hP
    have hD : va_D A [(mm, .inr (9, fl 77 g)), (ia, .inl (Y 2, 640, .inl (fun _ => 0)))] := hD
    refine lv_iload_n hx hb dX10_follows_2 rfl (lv_at hl 3 rfl) ?_
    refine lv_sipush (v := 640) hx hb dX10_follows_3 (by decide) ?_
    refine lv_icmp_ge (tgt := 19) hx hb dX10_follows_6 (by decide) (fun c9 => absurd c9 (nI_ge (b := 640) hi (by decide))) (fun _ => ?_)
    refine lv_aload_n hx hb dX10_follows_9 rfl (lv_at hl 2 rfl) ?_
    refine lv_iload_n hx hb dX10_follows_10 rfl (lv_at hl 3 rfl) ?_
    refine lv_iconst (v := 0) hx hb dX10_follows_11 (by decide) ?_
    refine va_zast hx hb hK.1 hP hD hS 1 2 rfl rfl (vp_in_nI hi (by decide)) dX10_follows_12 (fun H locs hP hD hS => ?_)
    have hP : va_P D vwCl [(mm, .inr (9, fl 77 g)), (ia, .inl (Y 2, 640, .inl (upd (fun _ => 0) (nI i).toNatClampNeg (vp_nar .boolean 0))))] H := hP
    have hD : va_D A [(mm, .inr (9, fl 77 g)), (ia, .inl (Y 2, 640, .inl (upd (fun _ => 0) (nI i).toNatClampNeg (vp_nar .boolean 0))))] := hD
    have e_f : (upd (fun _ => 0) (nI i).toNatClampNeg (vp_nar .boolean 0)) = (fun _ => 0) := updB0 _
    rw [e_f] at hP hD
    clear e_f
    refine lv_iinc (v := (nI (i + 1))) (lv' := [(3, .int (nI (i + 1))), (0, .ref mm), (1, .ref na), (2, .ref ia)]) hx hb dX10_follows_13 hl (k := 3) rfl (nI_1 i) (by decide) rfl (fun ls hl => ?_)
    refine lv_goto (tgt := 2) hx hb dX10_follows_16 (by decide) ?_
    exact ih () _ _ _ ⟨hP, hD, hS, lv_sub hl [1, 2, 3, 0] rfl⟩
set_option maxRecDepth 100000 in
set_option maxHeartbeats 4000000 in
theorem m_marks (l : Launch) (D : va_G) (Y : Nat → ClassId) (mm : Nat) (kn : Nat) (ps : Nat) (ta : Nat) (fa : Nat) (g : Nat → Value) (f1 : Nat → Int32) (f2 : Nat → Int32) (g_10 : g 10 = .ref kn) (g_11 : g 11 = .ref ps) (g_13 : g 13 = .ref ta) (g_14 : g 14 = .ref fa)  : cM l D Y yX10_marks cX10_marks 3 none 1 0 0 [.ref mm, .int 0] [(mm, .inr (9, fl 77 g)), (kn, .inl (Y 2, 640, .inl (fun _ => 0))), (ps, .inl (Y 2, 640, .inl (fun _ => 0))), (ta, .inl (Y 0, 640, .inl f1)), (fa, .inl (Y 0, 640, .inl f2))] (qV D (fun (u : Nat → Int32) => True) (fun (u : Nat → Int32) => [(mm, .inr (9, fl 77 g)), (kn, .inl (Y 2, 640, .inl (fun _ => 0))), (ps, .inl (Y 2, 640, .inl (fun _ => 0))), (ta, .inl (Y 0, 640, .inl f1)), (fa, .inl (Y 0, 640, .inl u))])) := by
  refine cM.mk RX10 rfl (by decide) (Nat.le_of_ble_eq_true rfl) ?_
  intro p e s m below meth c A F hr hlocks hin hK hZ hP hD hA hS ls hl
  have hx := F.1
  have hb := F.2.1
  have hl : lv_has ls 3 [(0, .ref mm), (1, .int 0)] := hl
  refine lv_iconst (v := 0) hx hb dX10_marks_0 (by decide) ?_
  refine lv_istore_n (lv' := [(2, .int 0), (0, .ref mm), (1, .int 0)]) hx hb dX10_marks_1 rfl hl (by decide) rfl (fun ls hl => ?_)
  refine loopN (X := Nat → Int32) 640 (fun i x H locs ls => va_P D vwCl [(mm, .inr (9, fl 77 g)), (kn, .inl (Y 2, 640, .inl (fun _ => 0))), (ps, .inl (Y 2, 640, .inl (fun _ => 0))), (ta, .inl (Y 0, 640, .inl f1)), (fa, .inl (Y 0, 640, .inl x))] H ∧ va_D A [(mm, .inr (9, fl 77 g)), (kn, .inl (Y 2, 640, .inl (fun _ => 0))), (ps, .inl (Y 2, 640, .inl (fun _ => 0))), (ta, .inl (Y 0, 640, .inl f1)), (fa, .inl (Y 0, 640, .inl x))] ∧ va_S A s.heap H locs ∧ lv_has ls 3 [(0, .ref mm), (1, .int 0), (2, .int (nI i))]) 2 ?_ ?_ 0 f2 (by omega) ⟨hP, hD, hS, lv_sub hl [1, 2, 0] rfl⟩
  · rintro x2 H locs ls ⟨hP, hD, hS, hl⟩
    have hP : va_P D vwCl [(mm, .inr (9, fl 77 g)), (kn, .inl (Y 2, 640, .inl (fun _ => 0))), (ps, .inl (Y 2, 640, .inl (fun _ => 0))), (ta, .inl (Y 0, 640, .inl f1)), (fa, .inl (Y 0, 640, .inl x2))] H := hP
    have hD : va_D A [(mm, .inr (9, fl 77 g)), (kn, .inl (Y 2, 640, .inl (fun _ => 0))), (ps, .inl (Y 2, 640, .inl (fun _ => 0))), (ta, .inl (Y 0, 640, .inl f1)), (fa, .inl (Y 0, 640, .inl x2))] := hD
    have hl : lv_has ls 3 [(0, .ref mm), (1, .int 0), (2, .int 640)] := hl
    refine lv_iload_n hx hb dX10_marks_2 rfl (lv_at hl 2 rfl) ?_
    refine lv_sipush (v := 640) hx hb dX10_marks_3 (by decide) ?_
    refine lv_icmp_ge (tgt := 67) hx hb dX10_marks_6 (by decide) (fun _ => ?_) (fun c9 => absurd (by decide) c9)
    exact retV F hr hlocks hP hD hS x2 [0, 1, 2, 3, 4] rfl rfl (Nat.le_of_ble_eq_true rfl) (Nat.le_of_ble_eq_true rfl) dX10_marks_67 trivial
  · rintro i x2 H locs ls hi ⟨hP, hD, hS, hl⟩ ih
    have hP : va_P D vwCl [(mm, .inr (9, fl 77 g)), (kn, .inl (Y 2, 640, .inl (fun _ => 0))), (ps, .inl (Y 2, 640, .inl (fun _ => 0))), (ta, .inl (Y 0, 640, .inl f1)), (fa, .inl (Y 0, 640, .inl x2))] H := hP
    have hD : va_D A [(mm, .inr (9, fl 77 g)), (kn, .inl (Y 2, 640, .inl (fun _ => 0))), (ps, .inl (Y 2, 640, .inl (fun _ => 0))), (ta, .inl (Y 0, 640, .inl f1)), (fa, .inl (Y 0, 640, .inl x2))] := hD
    refine lv_iload_n hx hb dX10_marks_2 rfl (lv_at hl 2 rfl) ?_
    refine lv_sipush (v := 640) hx hb dX10_marks_3 (by decide) ?_
    refine lv_icmp_ge (tgt := 67) hx hb dX10_marks_6 (by decide) (fun c9 => absurd c9 (nI_ge (b := 640) hi (by decide))) (fun _ => ?_)
    refine lv_aload_n hx hb dX10_marks_9 rfl (lv_at hl 0 rfl) ?_
    refine gF (C := RX10) (T := TX10) (ci := 9) (v := .ref kn) F hK hP 0 rfl rfl iwX10 10 (by decide) m_251 (fun _ h => h) g_10 dX10_marks_10 ?_
    refine lv_iload_n hx hb dX10_marks_13 rfl (lv_at hl 2 rfl) ?_
    refine va_zald hx hb hK.1 hP 1 2 rfl rfl (vp_in_nI hi (by decide)) dX10_marks_14 ?_
    refine lv_toc (v := 0) rfl ?_
    refine lv_if_eq (tgt := 35) hx hb dX10_marks_15 (by decide) (fun _ => ?_) (fun c9 => absurd (by decide) c9)
    refine lv_aload_n hx hb dX10_marks_35 rfl (lv_at hl 0 rfl) ?_
    refine gF (C := RX10) (T := TX10) (ci := 9) (v := .ref ps) F hK hP 0 rfl rfl iwX10 11 (by decide) m_252 (fun _ h => h) g_11 dX10_marks_36 ?_
    refine lv_iload_n hx hb dX10_marks_39 rfl (lv_at hl 2 rfl) ?_
    refine va_zald hx hb hK.1 hP 2 2 rfl rfl (vp_in_nI hi (by decide)) dX10_marks_40 ?_
    refine lv_toc (v := 0) rfl ?_
    refine lv_if_ne (tgt := 61) hx hb dX10_marks_41 (by decide) (fun c9 => absurd (by decide) c9) (fun _ => ?_)
    refine lv_aload_n hx hb dX10_marks_44 rfl (lv_at hl 0 rfl) ?_
    refine gF (C := RX10) (T := TX10) (ci := 9) (v := .ref fa) F hK hP 0 rfl rfl iwX10 14 (by decide) m_253 (fun _ h => h) g_14 dX10_marks_45 ?_
    refine lv_iload_n hx hb dX10_marks_48 rfl (lv_at hl 2 rfl) ?_
    refine va_iald hx hb hK.1 hP 4 0 rfl rfl (vp_in_nI hi (by decide)) dX10_marks_49 ?_
    refine lv_topi (fun z_1 e_z_1 => ?_)
    refine lv_iconst (v := (-1)) hx hb dX10_marks_50 (by decide) ?_
    refine lv_icmp_ne (tgt := 61) hx hb dX10_marks_51 (by decide) (fun c9 => ?_) (fun c9 => ?_)
    · skip
      refine lv_iinc (v := (nI (i + 1))) (lv' := [(2, .int (nI (i + 1))), (0, .ref mm), (1, .int 0)]) hx hb dX10_marks_61 hl (k := 2) rfl (nI_1 i) (by decide) rfl (fun ls hl => ?_)
      refine lv_goto (tgt := 2) hx hb dX10_marks_64 (by decide) ?_
      exact ih x2 _ _ _ ⟨hP, hD, hS, lv_sub hl [1, 2, 0] rfl⟩
    · skip
      refine lv_aload_n hx hb dX10_marks_54 rfl (lv_at hl 0 rfl) ?_
      refine gF (C := RX10) (T := TX10) (ci := 9) (v := .ref fa) F hK hP 0 rfl rfl iwX10 14 (by decide) m_253 (fun _ h => h) g_14 dX10_marks_55 ?_
      refine lv_iload_n hx hb dX10_marks_58 rfl (lv_at hl 2 rfl) ?_
      refine lv_iload_n hx hb dX10_marks_59 rfl (lv_at hl 1 rfl) ?_
      refine va_iast hx hb hK.1 hP hD hS 4 0 rfl rfl (vp_in_nI hi (by decide)) dX10_marks_60 (fun H locs hP hD hS => ?_)
      have hP : va_P D vwCl [(mm, .inr (9, fl 77 g)), (kn, .inl (Y 2, 640, .inl (fun _ => 0))), (ps, .inl (Y 2, 640, .inl (fun _ => 0))), (ta, .inl (Y 0, 640, .inl f1)), (fa, .inl (Y 0, 640, .inl (upd x2 (nI i).toNatClampNeg 0)))] H := hP
      have hD : va_D A [(mm, .inr (9, fl 77 g)), (kn, .inl (Y 2, 640, .inl (fun _ => 0))), (ps, .inl (Y 2, 640, .inl (fun _ => 0))), (ta, .inl (Y 0, 640, .inl f1)), (fa, .inl (Y 0, 640, .inl (upd x2 (nI i).toNatClampNeg 0)))] := hD
      generalize (upd x2 (nI i).toNatClampNeg 0) = f_2 at hP hD
      refine lv_iinc (v := (nI (i + 1))) (lv' := [(2, .int (nI (i + 1))), (0, .ref mm), (1, .int 0)]) hx hb dX10_marks_61 hl (k := 2) rfl (nI_1 i) (by decide) rfl (fun ls hl => ?_)
      refine lv_goto (tgt := 2) hx hb dX10_marks_64 (by decide) ?_
      exact ih f_2 _ _ _ ⟨hP, hD, hS, lv_sub hl [1, 2, 0] rfl⟩
set_option maxRecDepth 100000 in
set_option maxHeartbeats 4000000 in
theorem m_makes (l : Launch) (D : va_G) (Y : Nat → ClassId) (mm : Nat) (kn : Nat) (ps : Nat) (nx : Nat) (ta : Nat) (fa : Nat) (g : Nat → Value) (f1 : Nat → Int32) (f2 : Nat → Int32) (g_0 : g 0 = .int 0) (g_2 : g 2 = .int 0) (g_3 : g 3 = .int 0) (g_4 : g 4 = .int 0) (g_10 : g 10 = .ref kn) (g_11 : g 11 = .ref ps) (g_12 : g 12 = .ref nx) (g_13 : g 13 = .ref ta) (g_14 : g 14 = .ref fa) (g_16 : g 16 = .int 0) (g_20 : g 20 = .int 0) (g_46 : g 46 = .int 0) (g_47 : g 47 = .int 0) (g_48 : g 48 = .int 0)  : cM l D Y yX10_makes cX10_makes 3 none 2 0 0 [.ref mm] [(mm, .inr (9, fl 77 g)), (kn, .inl (Y 2, 640, .inl (fun _ => 0))), (ps, .inl (Y 2, 640, .inl (fun _ => 0))), (nx, .inl (Y 2, 640, .inl (fun _ => 0))), (ta, .inl (Y 0, 640, .inl f1)), (fa, .inl (Y 0, 640, .inl f2))] (qV D (fun (u : Nat → Value) => u 0 = .int 0 ∧ u 2 = .int 0 ∧ u 3 = .int 0 ∧ u 4 = .int 0 ∧ u 15 = .int 0 ∧ u 20 = .int 0 ∧ u 46 = .int 0 ∧ u 47 = .int 0 ∧ u 48 = .int 0) (fun (u : Nat → Value) => [(mm, .inr (9, fl 77 u))])) := by
  refine cM.mk RX10 rfl (by decide) (Nat.le_of_ble_eq_true rfl) ?_
  intro p e s m below meth c A F hr hlocks hin hK hZ hP hD hA hS ls hl
  have hx := F.1
  have hb := F.2.1
  have hl : lv_has ls 3 [(0, .ref mm)] := hl
  refine lv_aload_n hx hb dX10_makes_0 rfl (lv_at hl 0 rfl) ?_
  refine gF (C := RX10) (T := TX10) (ci := 9) (v := .int 0) F hK hP 0 rfl rfl iwX10 16 (by decide) m_229 (fun _ h => h) g_16 dX10_makes_1 ?_
  refine lv_if_eq (tgt := 8) hx hb dX10_makes_4 (by decide) (fun _ => ?_) (fun c9 => absurd (by decide) c9)
  refine lv_aload_n hx hb dX10_makes_8 rfl (lv_at hl 0 rfl) ?_
  refine lv_iconst (v := 1) hx hb dX10_makes_9 (by decide) ?_
  refine pF (C := RX10) (T := TX10) (ci := 9) F hK hP hD hS 0 rfl rfl iwX10 tyX10 tyX10_ok nmX10 16 (by decide) m_229 (fun _ h => h) rfl rfl rfl dX10_makes_10 (fun H locs hP hD hS => ?_)
  have hP : va_P D vwCl [(mm, .inr (9, fl 77 (va_up g 16 (.int 1)))), (kn, .inl (Y 2, 640, .inl (fun _ => 0))), (ps, .inl (Y 2, 640, .inl (fun _ => 0))), (nx, .inl (Y 2, 640, .inl (fun _ => 0))), (ta, .inl (Y 0, 640, .inl f1)), (fa, .inl (Y 0, 640, .inl f2))] H := hP
  have hD : va_D A [(mm, .inr (9, fl 77 (va_up g 16 (.int 1)))), (kn, .inl (Y 2, 640, .inl (fun _ => 0))), (ps, .inl (Y 2, 640, .inl (fun _ => 0))), (nx, .inl (Y 2, 640, .inl (fun _ => 0))), (ta, .inl (Y 0, 640, .inl f1)), (fa, .inl (Y 0, 640, .inl f2))] := hD
  refine lv_aload_n hx hb dX10_makes_13 rfl (lv_at hl 0 rfl) ?_
  refine lv_iconst (v := 0) hx hb dX10_makes_14 (by decide) ?_
  refine pF (C := RX10) (T := TX10) (ci := 9) F hK hP hD hS 0 rfl rfl iwX10 tyX10 tyX10_ok nmX10 15 (by decide) m_254 (fun _ h => h) rfl rfl rfl dX10_makes_15 (fun H locs hP hD hS => ?_)
  have hP : va_P D vwCl [(mm, .inr (9, fl 77 (va_up (va_up g 16 (.int 1)) 15 (.int 0)))), (kn, .inl (Y 2, 640, .inl (fun _ => 0))), (ps, .inl (Y 2, 640, .inl (fun _ => 0))), (nx, .inl (Y 2, 640, .inl (fun _ => 0))), (ta, .inl (Y 0, 640, .inl f1)), (fa, .inl (Y 0, 640, .inl f2))] H := hP
  have hD : va_D A [(mm, .inr (9, fl 77 (va_up (va_up g 16 (.int 1)) 15 (.int 0)))), (kn, .inl (Y 2, 640, .inl (fun _ => 0))), (ps, .inl (Y 2, 640, .inl (fun _ => 0))), (nx, .inl (Y 2, 640, .inl (fun _ => 0))), (ta, .inl (Y 0, 640, .inl f1)), (fa, .inl (Y 0, 640, .inl f2))] := hD
  refine lv_iconst (v := 0) hx hb dX10_makes_18 (by decide) ?_
  refine lv_istore_n (lv' := [(1, .int 0), (0, .ref mm)]) hx hb dX10_makes_19 rfl hl (by decide) rfl (fun ls hl => ?_)
  refine loopN (X := (Nat → Int32) × (Nat → Int32)) 640 (fun i x H locs ls => va_P D vwCl [(mm, .inr (9, fl 77 (va_up (va_up g 16 (.int 1)) 15 (.int 0)))), (kn, .inl (Y 2, 640, .inl (fun _ => 0))), (ps, .inl (Y 2, 640, .inl (fun _ => 0))), (nx, .inl (Y 2, 640, .inl (fun _ => 0))), (ta, .inl (Y 0, 640, .inl x.1)), (fa, .inl (Y 0, 640, .inl x.2))] H ∧ va_D A [(mm, .inr (9, fl 77 (va_up (va_up g 16 (.int 1)) 15 (.int 0)))), (kn, .inl (Y 2, 640, .inl (fun _ => 0))), (ps, .inl (Y 2, 640, .inl (fun _ => 0))), (nx, .inl (Y 2, 640, .inl (fun _ => 0))), (ta, .inl (Y 0, 640, .inl x.1)), (fa, .inl (Y 0, 640, .inl x.2))] ∧ va_S A s.heap H locs ∧ lv_has ls 3 [(0, .ref mm), (1, .int (nI i))]) 20 ?_ ?_ 0 (f1, f2) (by omega) ⟨hP, hD, hS, lv_sub hl [1, 0] rfl⟩
  · rintro ⟨x1, x2⟩ H locs ls ⟨hP, hD, hS, hl⟩
    have hP : va_P D vwCl [(mm, .inr (9, fl 77 (va_up (va_up g 16 (.int 1)) 15 (.int 0)))), (kn, .inl (Y 2, 640, .inl (fun _ => 0))), (ps, .inl (Y 2, 640, .inl (fun _ => 0))), (nx, .inl (Y 2, 640, .inl (fun _ => 0))), (ta, .inl (Y 0, 640, .inl x1)), (fa, .inl (Y 0, 640, .inl x2))] H := hP
    have hD : va_D A [(mm, .inr (9, fl 77 (va_up (va_up g 16 (.int 1)) 15 (.int 0)))), (kn, .inl (Y 2, 640, .inl (fun _ => 0))), (ps, .inl (Y 2, 640, .inl (fun _ => 0))), (nx, .inl (Y 2, 640, .inl (fun _ => 0))), (ta, .inl (Y 0, 640, .inl x1)), (fa, .inl (Y 0, 640, .inl x2))] := hD
    have hl : lv_has ls 3 [(0, .ref mm), (1, .int 640)] := hl
    refine lv_iload_n hx hb dX10_makes_20 rfl (lv_at hl 1 rfl) ?_
    refine lv_sipush (v := 640) hx hb dX10_makes_21 (by decide) ?_
    refine lv_icmp_ge (tgt := 54) hx hb dX10_makes_24 (by decide) (fun _ => ?_) (fun c9 => absurd (by decide) c9)
    refine lv_iconst (v := 1) hx hb dX10_makes_54 (by decide) ?_
    refine lv_istore_n (lv' := [(1, .int 1), (0, .ref mm)]) hx hb dX10_makes_55 rfl hl (by decide) rfl (fun ls hl => ?_)
    refine lv_iload_n hx hb dX10_makes_56 rfl (lv_at hl 0 rfl) ?_
    refine lv_if_eq (tgt := 167) hx hb dX10_makes_57 (by decide) (fun c9 => absurd c9 (by decide)) (fun _ => ?_)
    refine lv_aload_n hx hb dX10_makes_60 rfl (lv_at hl 1 rfl) ?_
    refine lv_aload_n hx hb dX10_makes_61 rfl (lv_at hl 1 rfl) ?_
    refine gF (C := RX10) (T := TX10) (ci := 9) (v := .ref kn) F hK hP 0 rfl rfl iwX10 10 (by decide) m_251 (fun _ h => h) g_10 dX10_makes_62 ?_
    refine lv_aload_n hx hb dX10_makes_65 rfl (lv_at hl 1 rfl) ?_
    refine gF (C := RX10) (T := TX10) (ci := 9) (v := .ref ps) F hK hP 0 rfl rfl iwX10 11 (by decide) m_252 (fun _ h => h) g_11 dX10_makes_66 ?_
    refine goV (wr := [(kn, .inl (Y 2, 640, .inl (fun _ => 0))), (nx, .inl (Y 2, 640, .inl (fun _ => 0))), (ta, .inl (Y 0, 640, .inl x1)), (fa, .inl (Y 0, 640, .inl x2))]) (runV (n := 2) (As := [.ref kn, .ref ps]) (rest := []) (C := RX10) (T := TX10) (N := 77) (ci := 9) F hK hZ hP hD hS hA (m_foll l D Y mm kn ps (va_up (va_up g 16 (.int 1)) 15 (.int 0)) g_4 ) 0 rfl rfl [0, 2] rfl rfl m_256 m_257 m_258 m_196 m_255 (by decide +kernel) rfl ⟨Nat.le_of_ble_eq_true rfl, Nat.le_of_ble_eq_true rfl⟩ hl.1 rfl (Nat.le_of_ble_eq_true rfl) dX10_makes_69 ⟨Nat.le_of_ble_eq_true rfl, Nat.le_of_ble_eq_true rfl⟩) hP hD hS hA [0, 2] [1, 3, 4, 5] rfl rfl rfl (by decide) (fun u H locs hw hP hD hS => ?_)
    have hP : va_P D vwCl [(kn, .inl (Y 2, 640, .inl (fun _ => 0))), (nx, .inl (Y 2, 640, .inl (fun _ => 0))), (ta, .inl (Y 0, 640, .inl x1)), (fa, .inl (Y 0, 640, .inl x2)), (mm, .inr (9, fl 77 (va_up (va_up g 16 (.int 1)) 15 (.int 0)))), (ps, .inl (Y 2, 640, .inl (fun _ => 0)))] H := hP
    have hD : va_D A [(kn, .inl (Y 2, 640, .inl (fun _ => 0))), (nx, .inl (Y 2, 640, .inl (fun _ => 0))), (ta, .inl (Y 0, 640, .inl x1)), (fa, .inl (Y 0, 640, .inl x2)), (mm, .inr (9, fl 77 (va_up (va_up g 16 (.int 1)) 15 (.int 0)))), (ps, .inl (Y 2, 640, .inl (fun _ => 0)))] := hD
    refine W.widen (k := 0) (n := 0) (Nat.le_of_ble_eq_true rfl) (Nat.le_of_ble_eq_true rfl) ?_
    refine lv_aload_n hx hb dX10_makes_72 rfl (lv_at hl 1 rfl) ?_
    refine lv_aload_n hx hb dX10_makes_73 rfl (lv_at hl 1 rfl) ?_
    refine gF (C := RX10) (T := TX10) (ci := 9) (v := .int 0) F hK hP 4 rfl rfl iwX10 15 (by decide) m_254 (fun _ h => h) rfl dX10_makes_74 ?_
    refine goV (wr := [(nx, .inl (Y 2, 640, .inl (fun _ => 0)))]) (runV (n := 1) (As := [.int 0]) (rest := []) (C := RX10) (T := TX10) (N := 77) (ci := 9) F hK hZ hP hD hS hA (m_marks l D Y mm kn ps ta fa (va_up (va_up g 16 (.int 1)) 15 (.int 0)) x1 x2 g_10 g_11 g_13 g_14 ) 4 rfl rfl [4, 0, 5, 2, 3] rfl rfl m_260 m_261 m_262 m_196 m_259 (by decide +kernel) rfl ⟨Nat.le_of_ble_eq_true rfl, Nat.le_of_ble_eq_true rfl⟩ hl.1 rfl (Nat.le_of_ble_eq_true rfl) dX10_makes_77 ⟨Nat.le_of_ble_eq_true rfl, Nat.le_of_ble_eq_true rfl⟩) hP hD hS hA [4, 0, 5, 2, 3] [1] rfl rfl rfl (by decide) (fun f2n_2 H locs hw hP hD hS => ?_)
    have hP : va_P D vwCl [(nx, .inl (Y 2, 640, .inl (fun _ => 0))), (mm, .inr (9, fl 77 (va_up (va_up g 16 (.int 1)) 15 (.int 0)))), (kn, .inl (Y 2, 640, .inl (fun _ => 0))), (ps, .inl (Y 2, 640, .inl (fun _ => 0))), (ta, .inl (Y 0, 640, .inl x1)), (fa, .inl (Y 0, 640, .inl f2n_2))] H := hP
    have hD : va_D A [(nx, .inl (Y 2, 640, .inl (fun _ => 0))), (mm, .inr (9, fl 77 (va_up (va_up g 16 (.int 1)) 15 (.int 0)))), (kn, .inl (Y 2, 640, .inl (fun _ => 0))), (ps, .inl (Y 2, 640, .inl (fun _ => 0))), (ta, .inl (Y 0, 640, .inl x1)), (fa, .inl (Y 0, 640, .inl f2n_2))] := hD
    refine W.widen (k := 0) (n := 0) (Nat.le_of_ble_eq_true rfl) (Nat.le_of_ble_eq_true rfl) ?_
    refine lv_aload_n hx hb dX10_makes_80 rfl (lv_at hl 1 rfl) ?_
    refine lv_aload_n hx hb dX10_makes_81 rfl (lv_at hl 1 rfl) ?_
    refine gF (C := RX10) (T := TX10) (ci := 9) (v := .ref ps) F hK hP 1 rfl rfl iwX10 11 (by decide) m_252 (fun _ h => h) g_11 dX10_makes_82 ?_
    refine lv_aload_n hx hb dX10_makes_85 rfl (lv_at hl 1 rfl) ?_
    refine gF (C := RX10) (T := TX10) (ci := 9) (v := .ref nx) F hK hP 1 rfl rfl iwX10 12 (by decide) m_263 (fun _ h => h) g_12 dX10_makes_86 ?_
    refine goV (wr := [(kn, .inl (Y 2, 640, .inl (fun _ => 0))), (ps, .inl (Y 2, 640, .inl (fun _ => 0))), (ta, .inl (Y 0, 640, .inl x1)), (fa, .inl (Y 0, 640, .inl f2n_2))]) (runV (n := 2) (As := [.ref ps, .ref nx]) (rest := []) (C := RX10) (T := TX10) (N := 77) (ci := 9) F hK hZ hP hD hS hA (m_foll l D Y mm ps nx (va_up (va_up g 16 (.int 1)) 15 (.int 0)) g_4 ) 1 rfl rfl [1, 0] rfl rfl m_256 m_257 m_258 m_196 m_255 (by decide +kernel) rfl ⟨Nat.le_of_ble_eq_true rfl, Nat.le_of_ble_eq_true rfl⟩ hl.1 rfl (Nat.le_of_ble_eq_true rfl) dX10_makes_89 ⟨Nat.le_of_ble_eq_true rfl, Nat.le_of_ble_eq_true rfl⟩) hP hD hS hA [1, 0] [2, 3, 4, 5] rfl rfl rfl (by decide) (fun u H locs hw hP hD hS => ?_)
    have hP : va_P D vwCl [(kn, .inl (Y 2, 640, .inl (fun _ => 0))), (ps, .inl (Y 2, 640, .inl (fun _ => 0))), (ta, .inl (Y 0, 640, .inl x1)), (fa, .inl (Y 0, 640, .inl f2n_2)), (mm, .inr (9, fl 77 (va_up (va_up g 16 (.int 1)) 15 (.int 0)))), (nx, .inl (Y 2, 640, .inl (fun _ => 0)))] H := hP
    have hD : va_D A [(kn, .inl (Y 2, 640, .inl (fun _ => 0))), (ps, .inl (Y 2, 640, .inl (fun _ => 0))), (ta, .inl (Y 0, 640, .inl x1)), (fa, .inl (Y 0, 640, .inl f2n_2)), (mm, .inr (9, fl 77 (va_up (va_up g 16 (.int 1)) 15 (.int 0)))), (nx, .inl (Y 2, 640, .inl (fun _ => 0)))] := hD
    refine W.widen (k := 0) (n := 0) (Nat.le_of_ble_eq_true rfl) (Nat.le_of_ble_eq_true rfl) ?_
    refine lv_iconst (v := 0) hx hb dX10_makes_92 (by decide) ?_
    refine lv_istore_n (lv' := [(1, .int 0), (0, .ref mm)]) hx hb dX10_makes_93 rfl hl (by decide) rfl (fun ls hl => ?_)
    refine lv_iconst (v := 0) hx hb dX10_makes_94 (by decide) ?_
    refine lv_istore_n (lv' := [(2, .int 0), (1, .int 0), (0, .ref mm)]) hx hb dX10_makes_95 rfl hl (by decide) rfl (fun ls hl => ?_)
    refine loopN (X := Unit) 640 (fun i x H locs ls => va_P D vwCl [(kn, .inl (Y 2, 640, .inl (fun _ => 0))), (ps, .inl (Y 2, 640, .inl (fun _ => 0))), (ta, .inl (Y 0, 640, .inl x1)), (fa, .inl (Y 0, 640, .inl f2n_2)), (mm, .inr (9, fl 77 (va_up (va_up g 16 (.int 1)) 15 (.int 0)))), (nx, .inl (Y 2, 640, .inl (fun _ => 0)))] H ∧ va_D A [(kn, .inl (Y 2, 640, .inl (fun _ => 0))), (ps, .inl (Y 2, 640, .inl (fun _ => 0))), (ta, .inl (Y 0, 640, .inl x1)), (fa, .inl (Y 0, 640, .inl f2n_2)), (mm, .inr (9, fl 77 (va_up (va_up g 16 (.int 1)) 15 (.int 0)))), (nx, .inl (Y 2, 640, .inl (fun _ => 0)))] ∧ va_S A s.heap H locs ∧ lv_has ls 3 [(0, .ref mm), (1, .int 0), (2, .int (nI i))]) 96 ?_ ?_ 0 () (by omega) ⟨hP, hD, hS, lv_sub hl [2, 1, 0] rfl⟩
    · rintro _ H locs ls ⟨hP, hD, hS, hl⟩
      have hP : va_P D vwCl [(kn, .inl (Y 2, 640, .inl (fun _ => 0))), (ps, .inl (Y 2, 640, .inl (fun _ => 0))), (ta, .inl (Y 0, 640, .inl x1)), (fa, .inl (Y 0, 640, .inl f2n_2)), (mm, .inr (9, fl 77 (va_up (va_up g 16 (.int 1)) 15 (.int 0)))), (nx, .inl (Y 2, 640, .inl (fun _ => 0)))] H := hP
      have hD : va_D A [(kn, .inl (Y 2, 640, .inl (fun _ => 0))), (ps, .inl (Y 2, 640, .inl (fun _ => 0))), (ta, .inl (Y 0, 640, .inl x1)), (fa, .inl (Y 0, 640, .inl f2n_2)), (mm, .inr (9, fl 77 (va_up (va_up g 16 (.int 1)) 15 (.int 0)))), (nx, .inl (Y 2, 640, .inl (fun _ => 0)))] := hD
      have hl : lv_has ls 3 [(0, .ref mm), (1, .int 0), (2, .int 640)] := hl
      refine lv_iload_n hx hb dX10_makes_96 rfl (lv_at hl 2 rfl) ?_
      refine lv_sipush (v := 640) hx hb dX10_makes_97 (by decide) ?_
      refine lv_icmp_ge (tgt := 146) hx hb dX10_makes_100 (by decide) (fun _ => ?_) (fun c9 => absurd (by decide) c9)
      refine lv_aload_n hx hb dX10_makes_146 rfl (lv_at hl 0 rfl) ?_
      refine lv_dup hx hb dX10_makes_147 rfl ?_
      refine gF (C := RX10) (T := TX10) (ci := 9) (v := .int 0) F hK hP 4 rfl rfl iwX10 15 (by decide) m_254 (fun _ h => h) rfl dX10_makes_148 ?_
      refine lv_iload_n hx hb dX10_makes_151 rfl (lv_at hl 1 rfl) ?_
      refine lv_if_eq (tgt := 159) hx hb dX10_makes_152 (by decide) (fun _ => ?_) (fun c9 => absurd (by decide) c9)
      refine lv_iconst (v := 0) hx hb dX10_makes_159 (by decide) ?_
      refine lv_iadd hx hb dX10_makes_160 ?_
      refine lv_toc (v := 0) (by decide) ?_
      refine pF (C := RX10) (T := TX10) (ci := 9) F hK hP hD hS 4 rfl rfl iwX10 tyX10 tyX10_ok nmX10 15 (by decide) m_254 (fun _ h => h) rfl rfl rfl dX10_makes_161 (fun H locs hP hD hS => ?_)
      have hP : va_P D vwCl [(kn, .inl (Y 2, 640, .inl (fun _ => 0))), (ps, .inl (Y 2, 640, .inl (fun _ => 0))), (ta, .inl (Y 0, 640, .inl x1)), (fa, .inl (Y 0, 640, .inl f2n_2)), (mm, .inr (9, fl 77 (va_up (va_up (va_up g 16 (.int 1)) 15 (.int 0)) 15 (.int 0)))), (nx, .inl (Y 2, 640, .inl (fun _ => 0)))] H := hP
      have hD : va_D A [(kn, .inl (Y 2, 640, .inl (fun _ => 0))), (ps, .inl (Y 2, 640, .inl (fun _ => 0))), (ta, .inl (Y 0, 640, .inl x1)), (fa, .inl (Y 0, 640, .inl f2n_2)), (mm, .inr (9, fl 77 (va_up (va_up (va_up g 16 (.int 1)) 15 (.int 0)) 15 (.int 0)))), (nx, .inl (Y 2, 640, .inl (fun _ => 0)))] := hD
      refine lv_goto (tgt := 56) hx hb dX10_makes_164 (by decide) ?_
      refine lv_iload_n hx hb dX10_makes_56 rfl (lv_at hl 1 rfl) ?_
      refine lv_if_eq (tgt := 167) hx hb dX10_makes_57 (by decide) (fun _ => ?_) (fun c9 => absurd (by decide) c9)
      exact retV F hr hlocks hP hD hS (va_up (va_up (va_up g 16 (.int 1)) 15 (.int 0)) 15 (.int 0)) [4] rfl rfl (Nat.le_of_ble_eq_true rfl) (Nat.le_of_ble_eq_true rfl) dX10_makes_167 ⟨g_0, g_2, g_3, g_4, rfl, g_20, g_46, g_47, g_48⟩
    · rintro i _ H locs ls hi ⟨hP, hD, hS, hl⟩ ih
      have hP : va_P D vwCl [(kn, .inl (Y 2, 640, .inl (fun _ => 0))), (ps, .inl (Y 2, 640, .inl (fun _ => 0))), (ta, .inl (Y 0, 640, .inl x1)), (fa, .inl (Y 0, 640, .inl f2n_2)), (mm, .inr (9, fl 77 (va_up (va_up g 16 (.int 1)) 15 (.int 0)))), (nx, .inl (Y 2, 640, .inl (fun _ => 0)))] H := hP
      have hD : va_D A [(kn, .inl (Y 2, 640, .inl (fun _ => 0))), (ps, .inl (Y 2, 640, .inl (fun _ => 0))), (ta, .inl (Y 0, 640, .inl x1)), (fa, .inl (Y 0, 640, .inl f2n_2)), (mm, .inr (9, fl 77 (va_up (va_up g 16 (.int 1)) 15 (.int 0)))), (nx, .inl (Y 2, 640, .inl (fun _ => 0)))] := hD
      refine lv_iload_n hx hb dX10_makes_96 rfl (lv_at hl 2 rfl) ?_
      refine lv_sipush (v := 640) hx hb dX10_makes_97 (by decide) ?_
      refine lv_icmp_ge (tgt := 146) hx hb dX10_makes_100 (by decide) (fun c9 => absurd c9 (nI_ge (b := 640) hi (by decide))) (fun _ => ?_)
      refine lv_iload_n hx hb dX10_makes_103 rfl (lv_at hl 1 rfl) ?_
      refine lv_if_ne (tgt := 122) hx hb dX10_makes_104 (by decide) (fun c9 => absurd (by decide) c9) (fun _ => ?_)
      refine lv_aload_n hx hb dX10_makes_107 rfl (lv_at hl 0 rfl) ?_
      refine gF (C := RX10) (T := TX10) (ci := 9) (v := .ref nx) F hK hP 4 rfl rfl iwX10 12 (by decide) m_263 (fun _ h => h) g_12 dX10_makes_108 ?_
      refine lv_iload_n hx hb dX10_makes_111 rfl (lv_at hl 2 rfl) ?_
      refine va_zald hx hb hK.1 hP 5 2 rfl rfl (vp_in_nI hi (by decide)) dX10_makes_112 ?_
      refine lv_toc (v := 0) rfl ?_
      refine lv_aload_n hx hb dX10_makes_113 rfl (lv_at hl 0 rfl) ?_
      refine gF (C := RX10) (T := TX10) (ci := 9) (v := .ref kn) F hK hP 4 rfl rfl iwX10 10 (by decide) m_251 (fun _ h => h) g_10 dX10_makes_114 ?_
      refine lv_iload_n hx hb dX10_makes_117 rfl (lv_at hl 2 rfl) ?_
      refine va_zald hx hb hK.1 hP 0 2 rfl rfl (vp_in_nI hi (by decide)) dX10_makes_118 ?_
      refine lv_toc (v := 0) rfl ?_
      refine lv_icmp_eq (tgt := 126) hx hb dX10_makes_119 (by decide) (fun _ => ?_) (fun c9 => absurd (by decide) c9)
      refine lv_iconst (v := 0) hx hb dX10_makes_126 (by decide) ?_
      refine lv_istore_n (lv' := [(1, .int 0), (0, .ref mm), (2, .int (nI i))]) hx hb dX10_makes_127 rfl hl (by decide) rfl (fun ls hl => ?_)
      refine lv_aload_n hx hb dX10_makes_128 rfl (lv_at hl 1 rfl) ?_
      refine gF (C := RX10) (T := TX10) (ci := 9) (v := .ref kn) F hK hP 4 rfl rfl iwX10 10 (by decide) m_251 (fun _ h => h) g_10 dX10_makes_129 ?_
      refine lv_iload_n hx hb dX10_makes_132 rfl (lv_at hl 2 rfl) ?_
      refine lv_aload_n hx hb dX10_makes_133 rfl (lv_at hl 1 rfl) ?_
      refine gF (C := RX10) (T := TX10) (ci := 9) (v := .ref nx) F hK hP 4 rfl rfl iwX10 12 (by decide) m_263 (fun _ h => h) g_12 dX10_makes_134 ?_
      refine lv_iload_n hx hb dX10_makes_137 rfl (lv_at hl 2 rfl) ?_
      refine va_zald hx hb hK.1 hP 5 2 rfl rfl (vp_in_nI hi (by decide)) dX10_makes_138 ?_
      refine lv_toc (v := 0) rfl ?_
      refine va_zast hx hb hK.1 hP hD hS 0 2 rfl rfl (vp_in_nI hi (by decide)) dX10_makes_139 (fun H locs hP hD hS => ?_)
      have hP : va_P D vwCl [(kn, .inl (Y 2, 640, .inl (upd (fun _ => 0) (nI i).toNatClampNeg (vp_nar .boolean 0)))), (ps, .inl (Y 2, 640, .inl (fun _ => 0))), (ta, .inl (Y 0, 640, .inl x1)), (fa, .inl (Y 0, 640, .inl f2n_2)), (mm, .inr (9, fl 77 (va_up (va_up g 16 (.int 1)) 15 (.int 0)))), (nx, .inl (Y 2, 640, .inl (fun _ => 0)))] H := hP
      have hD : va_D A [(kn, .inl (Y 2, 640, .inl (upd (fun _ => 0) (nI i).toNatClampNeg (vp_nar .boolean 0)))), (ps, .inl (Y 2, 640, .inl (fun _ => 0))), (ta, .inl (Y 0, 640, .inl x1)), (fa, .inl (Y 0, 640, .inl f2n_2)), (mm, .inr (9, fl 77 (va_up (va_up g 16 (.int 1)) 15 (.int 0)))), (nx, .inl (Y 2, 640, .inl (fun _ => 0)))] := hD
      have e_f : (upd (fun _ => 0) (nI i).toNatClampNeg (vp_nar .boolean 0)) = (fun _ => 0) := updB0 _
      rw [e_f] at hP hD
      clear e_f
      refine lv_iinc (v := (nI (i + 1))) (lv' := [(2, .int (nI (i + 1))), (1, .int 0), (0, .ref mm)]) hx hb dX10_makes_140 hl (k := 2) rfl (nI_1 i) (by decide) rfl (fun ls hl => ?_)
      refine lv_goto (tgt := 96) hx hb dX10_makes_143 (by decide) ?_
      exact ih () _ _ _ ⟨hP, hD, hS, lv_sub hl [2, 1, 0] rfl⟩
  · rintro i ⟨x1, x2⟩ H locs ls hi ⟨hP, hD, hS, hl⟩ ih
    have hP : va_P D vwCl [(mm, .inr (9, fl 77 (va_up (va_up g 16 (.int 1)) 15 (.int 0)))), (kn, .inl (Y 2, 640, .inl (fun _ => 0))), (ps, .inl (Y 2, 640, .inl (fun _ => 0))), (nx, .inl (Y 2, 640, .inl (fun _ => 0))), (ta, .inl (Y 0, 640, .inl x1)), (fa, .inl (Y 0, 640, .inl x2))] H := hP
    have hD : va_D A [(mm, .inr (9, fl 77 (va_up (va_up g 16 (.int 1)) 15 (.int 0)))), (kn, .inl (Y 2, 640, .inl (fun _ => 0))), (ps, .inl (Y 2, 640, .inl (fun _ => 0))), (nx, .inl (Y 2, 640, .inl (fun _ => 0))), (ta, .inl (Y 0, 640, .inl x1)), (fa, .inl (Y 0, 640, .inl x2))] := hD
    refine lv_iload_n hx hb dX10_makes_20 rfl (lv_at hl 1 rfl) ?_
    refine lv_sipush (v := 640) hx hb dX10_makes_21 (by decide) ?_
    refine lv_icmp_ge (tgt := 54) hx hb dX10_makes_24 (by decide) (fun c9 => absurd c9 (nI_ge (b := 640) hi (by decide))) (fun _ => ?_)
    refine lv_aload_n hx hb dX10_makes_27 rfl (lv_at hl 0 rfl) ?_
    refine gF (C := RX10) (T := TX10) (ci := 9) (v := .ref kn) F hK hP 0 rfl rfl iwX10 10 (by decide) m_251 (fun _ h => h) g_10 dX10_makes_28 ?_
    refine lv_iload_n hx hb dX10_makes_31 rfl (lv_at hl 1 rfl) ?_
    refine lv_iconst (v := 0) hx hb dX10_makes_32 (by decide) ?_
    refine va_zast hx hb hK.1 hP hD hS 1 2 rfl rfl (vp_in_nI hi (by decide)) dX10_makes_33 (fun H locs hP hD hS => ?_)
    have hP : va_P D vwCl [(mm, .inr (9, fl 77 (va_up (va_up g 16 (.int 1)) 15 (.int 0)))), (kn, .inl (Y 2, 640, .inl (upd (fun _ => 0) (nI i).toNatClampNeg (vp_nar .boolean 0)))), (ps, .inl (Y 2, 640, .inl (fun _ => 0))), (nx, .inl (Y 2, 640, .inl (fun _ => 0))), (ta, .inl (Y 0, 640, .inl x1)), (fa, .inl (Y 0, 640, .inl x2))] H := hP
    have hD : va_D A [(mm, .inr (9, fl 77 (va_up (va_up g 16 (.int 1)) 15 (.int 0)))), (kn, .inl (Y 2, 640, .inl (upd (fun _ => 0) (nI i).toNatClampNeg (vp_nar .boolean 0)))), (ps, .inl (Y 2, 640, .inl (fun _ => 0))), (nx, .inl (Y 2, 640, .inl (fun _ => 0))), (ta, .inl (Y 0, 640, .inl x1)), (fa, .inl (Y 0, 640, .inl x2))] := hD
    have e_f : (upd (fun _ => 0) (nI i).toNatClampNeg (vp_nar .boolean 0)) = (fun _ => 0) := updB0 _
    rw [e_f] at hP hD
    clear e_f
    refine lv_aload_n hx hb dX10_makes_34 rfl (lv_at hl 0 rfl) ?_
    refine gF (C := RX10) (T := TX10) (ci := 9) (v := .ref ta) F hK hP 0 rfl rfl iwX10 13 (by decide) m_264 (fun _ h => h) g_13 dX10_makes_35 ?_
    refine lv_iload_n hx hb dX10_makes_38 rfl (lv_at hl 1 rfl) ?_
    refine lv_iconst (v := (-1)) hx hb dX10_makes_39 (by decide) ?_
    refine va_iast hx hb hK.1 hP hD hS 4 0 rfl rfl (vp_in_nI hi (by decide)) dX10_makes_40 (fun H locs hP hD hS => ?_)
    have hP : va_P D vwCl [(mm, .inr (9, fl 77 (va_up (va_up g 16 (.int 1)) 15 (.int 0)))), (kn, .inl (Y 2, 640, .inl (fun _ => 0))), (ps, .inl (Y 2, 640, .inl (fun _ => 0))), (nx, .inl (Y 2, 640, .inl (fun _ => 0))), (ta, .inl (Y 0, 640, .inl (upd x1 (nI i).toNatClampNeg (-1)))), (fa, .inl (Y 0, 640, .inl x2))] H := hP
    have hD : va_D A [(mm, .inr (9, fl 77 (va_up (va_up g 16 (.int 1)) 15 (.int 0)))), (kn, .inl (Y 2, 640, .inl (fun _ => 0))), (ps, .inl (Y 2, 640, .inl (fun _ => 0))), (nx, .inl (Y 2, 640, .inl (fun _ => 0))), (ta, .inl (Y 0, 640, .inl (upd x1 (nI i).toNatClampNeg (-1)))), (fa, .inl (Y 0, 640, .inl x2))] := hD
    generalize (upd x1 (nI i).toNatClampNeg (-1)) = f_5 at hP hD
    refine lv_aload_n hx hb dX10_makes_41 rfl (lv_at hl 0 rfl) ?_
    refine gF (C := RX10) (T := TX10) (ci := 9) (v := .ref fa) F hK hP 0 rfl rfl iwX10 14 (by decide) m_253 (fun _ h => h) g_14 dX10_makes_42 ?_
    refine lv_iload_n hx hb dX10_makes_45 rfl (lv_at hl 1 rfl) ?_
    refine lv_iconst (v := (-1)) hx hb dX10_makes_46 (by decide) ?_
    refine va_iast hx hb hK.1 hP hD hS 5 0 rfl rfl (vp_in_nI hi (by decide)) dX10_makes_47 (fun H locs hP hD hS => ?_)
    have hP : va_P D vwCl [(mm, .inr (9, fl 77 (va_up (va_up g 16 (.int 1)) 15 (.int 0)))), (kn, .inl (Y 2, 640, .inl (fun _ => 0))), (ps, .inl (Y 2, 640, .inl (fun _ => 0))), (nx, .inl (Y 2, 640, .inl (fun _ => 0))), (ta, .inl (Y 0, 640, .inl f_5)), (fa, .inl (Y 0, 640, .inl (upd x2 (nI i).toNatClampNeg (-1))))] H := hP
    have hD : va_D A [(mm, .inr (9, fl 77 (va_up (va_up g 16 (.int 1)) 15 (.int 0)))), (kn, .inl (Y 2, 640, .inl (fun _ => 0))), (ps, .inl (Y 2, 640, .inl (fun _ => 0))), (nx, .inl (Y 2, 640, .inl (fun _ => 0))), (ta, .inl (Y 0, 640, .inl f_5)), (fa, .inl (Y 0, 640, .inl (upd x2 (nI i).toNatClampNeg (-1))))] := hD
    generalize (upd x2 (nI i).toNatClampNeg (-1)) = f_6 at hP hD
    refine lv_iinc (v := (nI (i + 1))) (lv' := [(1, .int (nI (i + 1))), (0, .ref mm)]) hx hb dX10_makes_48 hl (k := 1) rfl (nI_1 i) (by decide) rfl (fun ls hl => ?_)
    refine lv_goto (tgt := 20) hx hb dX10_makes_51 (by decide) ?_
    exact ih (f_5, f_6) _ _ _ ⟨hP, hD, hS, lv_sub hl [1, 0] rfl⟩
set_option maxRecDepth 100000 in
set_option maxHeartbeats 4000000 in
theorem m_factM (l : Launch) (D : va_G) (Y : Nat → ClassId) (mm : Nat) (th : Int32) (g : Nat → Value) (g_0 : g 0 = .int th) (g_4 : g 4 = .int 0)  : cM l D Y yX10_factMany cX10_factMany 3 (some .int) 1 0 0 [.ref mm] [(mm, .inr (9, fl 77 g))] (qI D (fun (r : Int32) (u : Unit) => r = 0) (fun (u : Unit) => [(mm, .inr (9, fl 77 g))])) := by
  refine cM.mk RX10 rfl (by decide) (Nat.le_of_ble_eq_true rfl) ?_
  intro p e s m below meth c A F hr hlocks hin hK hZ hP hD hA hS ls hl
  have hx := F.1
  have hb := F.2.1
  have hl : lv_has ls 3 [(0, .ref mm)] := hl
  refine lv_iconst (v := 0) hx hb dX10_factMany_0 (by decide) ?_
  refine lv_istore_n (lv' := [(1, .int 0), (0, .ref mm)]) hx hb dX10_factMany_1 rfl hl (by decide) rfl (fun ls hl => ?_)
  refine lv_iconst (v := 0) hx hb dX10_factMany_2 (by decide) ?_
  refine lv_istore_n (lv' := [(2, .int 0), (1, .int 0), (0, .ref mm)]) hx hb dX10_factMany_3 rfl hl (by decide) rfl (fun ls hl => ?_)
  refine lv_iload_n hx hb dX10_factMany_4 rfl (lv_at hl 0 rfl) ?_
  refine lv_aload_n hx hb dX10_factMany_5 rfl (lv_at hl 2 rfl) ?_
  refine gF (C := RX10) (T := TX10) (ci := 9) (v := .int 0) F hK hP 0 rfl rfl iwX10 4 (by decide) m_213 (fun _ h => h) g_4 dX10_factMany_6 ?_
  refine lv_icmp_ge (tgt := 34) hx hb dX10_factMany_9 (by decide) (fun _ => ?_) (fun c9 => absurd (by decide) c9)
  refine lv_iload_n hx hb dX10_factMany_34 rfl (lv_at hl 1 rfl) ?_
  exact retI F hr hlocks rfl hP hD hS () [0] rfl rfl (Nat.le_of_ble_eq_true rfl) (Nat.le_of_ble_eq_true rfl) dX10_factMany_35 rfl
set_option maxRecDepth 100000 in
set_option maxHeartbeats 4000000 in
theorem m_freshM (l : Launch) (D : va_G) (Y : Nat → ClassId) (mm : Nat) (th : Int32) (g : Nat → Value) (g_0 : g 0 = .int th) (g_46 : g 46 = .int 0)  : cM l D Y yX10_freshMany cX10_freshMany 3 (some .int) 1 0 0 [.ref mm] [(mm, .inr (9, fl 77 g))] (qI D (fun (r : Int32) (u : Unit) => r = 0) (fun (u : Unit) => [(mm, .inr (9, fl 77 g))])) := by
  refine cM.mk RX10 rfl (by decide) (Nat.le_of_ble_eq_true rfl) ?_
  intro p e s m below meth c A F hr hlocks hin hK hZ hP hD hA hS ls hl
  have hx := F.1
  have hb := F.2.1
  have hl : lv_has ls 3 [(0, .ref mm)] := hl
  refine lv_iconst (v := 0) hx hb dX10_freshMany_0 (by decide) ?_
  refine lv_istore_n (lv' := [(1, .int 0), (0, .ref mm)]) hx hb dX10_freshMany_1 rfl hl (by decide) rfl (fun ls hl => ?_)
  refine lv_iconst (v := 0) hx hb dX10_freshMany_2 (by decide) ?_
  refine lv_istore_n (lv' := [(2, .int 0), (1, .int 0), (0, .ref mm)]) hx hb dX10_freshMany_3 rfl hl (by decide) rfl (fun ls hl => ?_)
  refine lv_iload_n hx hb dX10_freshMany_4 rfl (lv_at hl 0 rfl) ?_
  refine lv_aload_n hx hb dX10_freshMany_5 rfl (lv_at hl 2 rfl) ?_
  refine gF (C := RX10) (T := TX10) (ci := 9) (v := .int 0) F hK hP 0 rfl rfl iwX10 46 (by decide) m_214 (fun _ h => h) g_46 dX10_freshMany_6 ?_
  refine lv_icmp_ge (tgt := 35) hx hb dX10_freshMany_9 (by decide) (fun _ => ?_) (fun c9 => absurd (by decide) c9)
  refine lv_iload_n hx hb dX10_freshMany_35 rfl (lv_at hl 1 rfl) ?_
  exact retI F hr hlocks rfl hP hD hS () [0] rfl rfl (Nat.le_of_ble_eq_true rfl) (Nat.le_of_ble_eq_true rfl) dX10_freshMany_36 rfl
set_option maxRecDepth 100000 in
set_option maxHeartbeats 4000000 in
theorem m_allA (l : Launch) (D : va_G) (Y : Nat → ClassId) (mm : Nat) (j1 : Int32) (g : Nat → Value) (g_2 : g 2 = .int 0)  : cM l D Y yX10_allAtoms cX10_allAtoms 4 (some .int) 1 0 0 [.ref mm, .int j1] [(mm, .inr (9, fl 77 g))] (qI D (fun (r : Int32) (u : Unit) => r = 0) (fun (u : Unit) => [(mm, .inr (9, fl 77 g))])) := by
  refine cM.mk RX10 rfl (by decide) (Nat.le_of_ble_eq_true rfl) ?_
  intro p e s m below meth c A F hr hlocks hin hK hZ hP hD hA hS ls hl
  have hx := F.1
  have hb := F.2.1
  have hl : lv_has ls 4 [(0, .ref mm), (1, .int j1)] := hl
  refine lv_iconst (v := 0) hx hb dX10_allAtoms_0 (by decide) ?_
  refine lv_istore_n (lv' := [(2, .int 0), (0, .ref mm), (1, .int j1)]) hx hb dX10_allAtoms_1 rfl hl (by decide) rfl (fun ls hl => ?_)
  refine lv_iconst (v := 0) hx hb dX10_allAtoms_2 (by decide) ?_
  refine lv_istore_n (lv' := [(3, .int 0), (2, .int 0), (0, .ref mm), (1, .int j1)]) hx hb dX10_allAtoms_3 rfl hl (by decide) rfl (fun ls hl => ?_)
  refine lv_iload_n hx hb dX10_allAtoms_4 rfl (lv_at hl 0 rfl) ?_
  refine lv_aload_n hx hb dX10_allAtoms_5 rfl (lv_at hl 2 rfl) ?_
  refine gF (C := RX10) (T := TX10) (ci := 9) (v := .int 0) F hK hP 0 rfl rfl iwX10 2 (by decide) m_201 (fun _ h => h) g_2 dX10_allAtoms_6 ?_
  refine lv_icmp_ge (tgt := 27) hx hb dX10_allAtoms_9 (by decide) (fun _ => ?_) (fun c9 => absurd (by decide) c9)
  refine lv_iload_n hx hb dX10_allAtoms_27 rfl (lv_at hl 1 rfl) ?_
  exact retI F hr hlocks rfl hP hD hS () [0] rfl rfl (Nat.le_of_ble_eq_true rfl) (Nat.le_of_ble_eq_true rfl) dX10_allAtoms_28 rfl
