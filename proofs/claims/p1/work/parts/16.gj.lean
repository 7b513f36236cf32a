theorem dX3_init_0 : decode cX3_init 0 = .ok (.aload_n 0, 1) := by decide +kernel
theorem dX3_init_1 : decode cX3_init 1 = .ok (.invokespecial 3, 3) := by decide +kernel
theorem dX3_init_4 : decode cX3_init 4 = .ok (.aload_n 0, 1) := by decide +kernel
theorem dX3_init_5 : decode cX3_init 5 = .ok (.bipush 10, 2) := by decide +kernel
theorem dX3_init_7 : decode cX3_init 7 = .ok (.newarray .int, 2) := by decide +kernel
theorem dX3_init_9 : decode cX3_init 9 = .ok (.putfield 9, 3) := by decide +kernel
theorem dX3_init_12 : decode cX3_init 12 = .ok (.aload_n 0, 1) := by decide +kernel
theorem dX3_init_13 : decode cX3_init 13 = .ok (.bipush 18, 2) := by decide +kernel
theorem dX3_init_15 : decode cX3_init 15 = .ok (.newarray .int, 2) := by decide +kernel
theorem dX3_init_17 : decode cX3_init 17 = .ok (.putfield 15, 3) := by decide +kernel
theorem dX3_init_20 : decode cX3_init 20 = .ok (.aload_n 0, 1) := by decide +kernel
theorem dX3_init_21 : decode cX3_init 21 = .ok (.sipush 144, 3) := by decide +kernel
theorem dX3_init_24 : decode cX3_init 24 = .ok (.newarray .int, 2) := by decide +kernel
theorem dX3_init_26 : decode cX3_init 26 = .ok (.putfield 18, 3) := by decide +kernel
theorem dX3_init_29 : decode cX3_init 29 = .ok (.aload_n 0, 1) := by decide +kernel
theorem dX3_init_30 : decode cX3_init 30 = .ok (.bipush 60, 2) := by decide +kernel
theorem dX3_init_32 : decode cX3_init 32 = .ok (.newarray .int, 2) := by decide +kernel
theorem dX3_init_34 : decode cX3_init 34 = .ok (.putfield 21, 3) := by decide +kernel
theorem dX3_init_37 : decode cX3_init 37 = .ok (.aload_n 0, 1) := by decide +kernel
theorem dX3_init_38 : decode cX3_init 38 = .ok (.bipush 60, 2) := by decide +kernel
theorem dX3_init_40 : decode cX3_init 40 = .ok (.newarray .int, 2) := by decide +kernel
theorem dX3_init_42 : decode cX3_init 42 = .ok (.putfield 24, 3) := by decide +kernel
theorem dX3_init_45 : decode cX3_init 45 = .ok (.aload_n 0, 1) := by decide +kernel
theorem dX3_init_46 : decode cX3_init 46 = .ok (.sipush 1680, 3) := by decide +kernel
theorem dX3_init_49 : decode cX3_init 49 = .ok (.newarray .int, 2) := by decide +kernel
theorem dX3_init_51 : decode cX3_init 51 = .ok (.putfield 27, 3) := by decide +kernel
theorem dX3_init_54 : decode cX3_init 54 = .ok (.return_, 1) := by decide +kernel
theorem dX7_init_0 : decode cX7_init 0 = .ok (.aload_n 0, 1) := by decide +kernel
theorem dX7_init_1 : decode cX7_init 1 = .ok (.invokespecial 3, 3) := by decide +kernel
theorem dX7_init_4 : decode cX7_init 4 = .ok (.aload_n 0, 1) := by decide +kernel
theorem dX7_init_5 : decode cX7_init 5 = .ok (.iconst 3, 1) := by decide +kernel
theorem dX7_init_6 : decode cX7_init 6 = .ok (.newarray .int, 2) := by decide +kernel
theorem dX7_init_8 : decode cX7_init 8 = .ok (.putfield 9, 3) := by decide +kernel
theorem dX7_init_11 : decode cX7_init 11 = .ok (.aload_n 0, 1) := by decide +kernel
theorem dX7_init_12 : decode cX7_init 12 = .ok (.iconst 3, 1) := by decide +kernel
theorem dX7_init_13 : decode cX7_init 13 = .ok (.newarray .int, 2) := by decide +kernel
theorem dX7_init_15 : decode cX7_init 15 = .ok (.putfield 15, 3) := by decide +kernel
theorem dX7_init_18 : decode cX7_init 18 = .ok (.aload_n 0, 1) := by decide +kernel
theorem dX7_init_19 : decode cX7_init 19 = .ok (.aload_n 1, 1) := by decide +kernel
theorem dX7_init_20 : decode cX7_init 20 = .ok (.putfield 18, 3) := by decide +kernel
theorem dX7_init_23 : decode cX7_init 23 = .ok (.aload_n 0, 1) := by decide +kernel
theorem dX7_init_24 : decode cX7_init 24 = .ok (.aload_n 2, 1) := by decide +kernel
theorem dX7_init_25 : decode cX7_init 25 = .ok (.putfield 22, 3) := by decide +kernel
theorem dX7_init_28 : decode cX7_init 28 = .ok (.aload_n 0, 1) := by decide +kernel
theorem dX7_init_29 : decode cX7_init 29 = .ok (.aload_n 3, 1) := by decide +kernel
theorem dX7_init_30 : decode cX7_init 30 = .ok (.putfield 26, 3) := by decide +kernel
theorem dX7_init_33 : decode cX7_init 33 = .ok (.return_, 1) := by decide +kernel
theorem dX1_init_0 : decode cX1_init 0 = .ok (.aload_n 0, 1) := by decide +kernel
theorem dX1_init_1 : decode cX1_init 1 = .ok (.aload_n 1, 1) := by decide +kernel
theorem dX1_init_2 : decode cX1_init 2 = .ok (.aload_n 2, 1) := by decide +kernel
theorem dX1_init_3 : decode cX1_init 3 = .ok (.aload_n 3, 1) := by decide +kernel
theorem dX1_init_4 : decode cX1_init 4 = .ok (.invokespecial 3, 3) := by decide +kernel
theorem dX1_init_7 : decode cX1_init 7 = .ok (.return_, 1) := by decide +kernel
theorem dX2_init_0 : decode cX2_init 0 = .ok (.aload_n 0, 1) := by decide +kernel
theorem dX2_init_1 : decode cX2_init 1 = .ok (.invokespecial 3, 3) := by decide +kernel
theorem dX2_init_4 : decode cX2_init 4 = .ok (.aload_n 0, 1) := by decide +kernel
theorem dX2_init_5 : decode cX2_init 5 = .ok (.bipush 10, 2) := by decide +kernel
theorem dX2_init_7 : decode cX2_init 7 = .ok (.newarray .long, 2) := by decide +kernel
theorem dX2_init_9 : decode cX2_init 9 = .ok (.putfield 9, 3) := by decide +kernel
theorem dX2_init_12 : decode cX2_init 12 = .ok (.aload_n 0, 1) := by decide +kernel
theorem dX2_init_13 : decode cX2_init 13 = .ok (.bipush 10, 2) := by decide +kernel
theorem dX2_init_15 : decode cX2_init 15 = .ok (.newarray .long, 2) := by decide +kernel
theorem dX2_init_17 : decode cX2_init 17 = .ok (.putfield 15, 3) := by decide +kernel
theorem dX2_init_20 : decode cX2_init 20 = .ok (.aload_n 0, 1) := by decide +kernel
theorem dX2_init_21 : decode cX2_init 21 = .ok (.sipush 640, 3) := by decide +kernel
theorem dX2_init_24 : decode cX2_init 24 = .ok (.newarray .int, 2) := by decide +kernel
theorem dX2_init_26 : decode cX2_init 26 = .ok (.putfield 18, 3) := by decide +kernel
theorem dX2_init_29 : decode cX2_init 29 = .ok (.aload_n 0, 1) := by decide +kernel
theorem dX2_init_30 : decode cX2_init 30 = .ok (.bipush 10, 2) := by decide +kernel
theorem dX2_init_32 : decode cX2_init 32 = .ok (.newarray .long, 2) := by decide +kernel
theorem dX2_init_34 : decode cX2_init 34 = .ok (.putfield 22, 3) := by decide +kernel
theorem dX2_init_37 : decode cX2_init 37 = .ok (.aload_n 0, 1) := by decide +kernel
theorem dX2_init_38 : decode cX2_init 38 = .ok (.new 25, 3) := by decide +kernel
theorem dX2_init_41 : decode cX2_init 41 = .ok (.dup, 1) := by decide +kernel
theorem dX2_init_42 : decode cX2_init 42 = .ok (.aload_n 1, 1) := by decide +kernel
theorem dX2_init_43 : decode cX2_init 43 = .ok (.aload_n 0, 1) := by decide +kernel
theorem dX2_init_44 : decode cX2_init 44 = .ok (.getfield 22, 3) := by decide +kernel
theorem dX2_init_47 : decode cX2_init 47 = .ok (.aload_n 0, 1) := by decide +kernel
theorem dX2_init_48 : decode cX2_init 48 = .ok (.getfield 9, 3) := by decide +kernel
theorem dX2_init_51 : decode cX2_init 51 = .ok (.invokespecial 27, 3) := by decide +kernel
theorem dX2_init_54 : decode cX2_init 54 = .ok (.putfield 30, 3) := by decide +kernel
theorem dX2_init_57 : decode cX2_init 57 = .ok (.return_, 1) := by decide +kernel
theorem dX8_init_0 : decode cX8_init 0 = .ok (.aload_n 0, 1) := by decide +kernel
theorem dX8_init_1 : decode cX8_init 1 = .ok (.aload_n 1, 1) := by decide +kernel
theorem dX8_init_2 : decode cX8_init 2 = .ok (.aload_n 2, 1) := by decide +kernel
theorem dX8_init_3 : decode cX8_init 3 = .ok (.getfield 3, 3) := by decide +kernel
theorem dX8_init_6 : decode cX8_init 6 = .ok (.aload_n 2, 1) := by decide +kernel
theorem dX8_init_7 : decode cX8_init 7 = .ok (.getfield 9, 3) := by decide +kernel
theorem dX8_init_10 : decode cX8_init 10 = .ok (.invokespecial 12, 3) := by decide +kernel
theorem dX8_init_13 : decode cX8_init 13 = .ok (.aload_n 0, 1) := by decide +kernel
theorem dX8_init_14 : decode cX8_init 14 = .ok (.bipush 6, 2) := by decide +kernel
theorem dX8_init_16 : decode cX8_init 16 = .ok (.newarray .int, 2) := by decide +kernel
theorem dX8_init_18 : decode cX8_init 18 = .ok (.putfield 18, 3) := by decide +kernel
theorem dX8_init_21 : decode cX8_init 21 = .ok (.aload_n 0, 1) := by decide +kernel
theorem dX8_init_22 : decode cX8_init 22 = .ok (.aload_n 2, 1) := by decide +kernel
theorem dX8_init_23 : decode cX8_init 23 = .ok (.putfield 24, 3) := by decide +kernel
theorem dX8_init_26 : decode cX8_init 26 = .ok (.return_, 1) := by decide +kernel
theorem dX0_init_0 : decode cX0_init 0 = .ok (.aload_n 0, 1) := by decide +kernel
theorem dX0_init_1 : decode cX0_init 1 = .ok (.aload_n 1, 1) := by decide +kernel
theorem dX0_init_2 : decode cX0_init 2 = .ok (.aload_n 2, 1) := by decide +kernel
theorem dX0_init_3 : decode cX0_init 3 = .ok (.getfield 3, 3) := by decide +kernel
theorem dX0_init_6 : decode cX0_init 6 = .ok (.aload_n 2, 1) := by decide +kernel
theorem dX0_init_7 : decode cX0_init 7 = .ok (.getfield 9, 3) := by decide +kernel
theorem dX0_init_10 : decode cX0_init 10 = .ok (.invokespecial 12, 3) := by decide +kernel
theorem dX0_init_13 : decode cX0_init 13 = .ok (.aload_n 0, 1) := by decide +kernel
theorem dX0_init_14 : decode cX0_init 14 = .ok (.sipush 820, 3) := by decide +kernel
theorem dX0_init_17 : decode cX0_init 17 = .ok (.newarray .int, 2) := by decide +kernel
theorem dX0_init_19 : decode cX0_init 19 = .ok (.putfield 18, 3) := by decide +kernel
theorem dX0_init_22 : decode cX0_init 22 = .ok (.aload_n 0, 1) := by decide +kernel
theorem dX0_init_23 : decode cX0_init 23 = .ok (.sipush 1000, 3) := by decide +kernel
theorem dX0_init_26 : decode cX0_init 26 = .ok (.newarray .int, 2) := by decide +kernel
theorem dX0_init_28 : decode cX0_init 28 = .ok (.putfield 24, 3) := by decide +kernel
theorem dX0_init_31 : decode cX0_init 31 = .ok (.return_, 1) := by decide +kernel
theorem dX6_init_0 : decode cX6_init 0 = .ok (.aload_n 0, 1) := by decide +kernel
theorem dX6_init_1 : decode cX6_init 1 = .ok (.invokespecial 3, 3) := by decide +kernel
theorem dX6_init_4 : decode cX6_init 4 = .ok (.aload_n 0, 1) := by decide +kernel
theorem dX6_init_5 : decode cX6_init 5 = .ok (.sipush 820, 3) := by decide +kernel
theorem dX6_init_8 : decode cX6_init 8 = .ok (.newarray .int, 2) := by decide +kernel
theorem dX6_init_10 : decode cX6_init 10 = .ok (.putfield 9, 3) := by decide +kernel
theorem dX6_init_13 : decode cX6_init 13 = .ok (.aload_n 0, 1) := by decide +kernel
theorem dX6_init_14 : decode cX6_init 14 = .ok (.sipush 1000, 3) := by decide +kernel
theorem dX6_init_17 : decode cX6_init 17 = .ok (.newarray .int, 2) := by decide +kernel
theorem dX6_init_19 : decode cX6_init 19 = .ok (.putfield 15, 3) := by decide +kernel
theorem dX6_init_22 : decode cX6_init 22 = .ok (.aload_n 0, 1) := by decide +kernel
theorem dX6_init_23 : decode cX6_init 23 = .ok (.sipush 820, 3) := by decide +kernel
theorem dX6_init_26 : decode cX6_init 26 = .ok (.anewarray 18, 3) := by decide +kernel
theorem dX6_init_29 : decode cX6_init 29 = .ok (.putfield 20, 3) := by decide +kernel
theorem dX6_init_32 : decode cX6_init 32 = .ok (.aload_n 0, 1) := by decide +kernel
theorem dX6_init_33 : decode cX6_init 33 = .ok (.sipush 820, 3) := by decide +kernel
theorem dX6_init_36 : decode cX6_init 36 = .ok (.newarray .int, 2) := by decide +kernel
theorem dX6_init_38 : decode cX6_init 38 = .ok (.putfield 24, 3) := by decide +kernel
theorem dX6_init_41 : decode cX6_init 41 = .ok (.aload_n 0, 1) := by decide +kernel
theorem dX6_init_42 : decode cX6_init 42 = .ok (.sipush 1000, 3) := by decide +kernel
theorem dX6_init_45 : decode cX6_init 45 = .ok (.newarray .boolean, 2) := by decide +kernel
theorem dX6_init_47 : decode cX6_init 47 = .ok (.putfield 27, 3) := by decide +kernel
theorem dX6_init_50 : decode cX6_init 50 = .ok (.aload_n 0, 1) := by decide +kernel
theorem dX6_init_51 : decode cX6_init 51 = .ok (.aload_n 2, 1) := by decide +kernel
theorem dX6_init_52 : decode cX6_init 52 = .ok (.putfield 31, 3) := by decide +kernel
theorem dX6_init_55 : decode cX6_init 55 = .ok (.aload_n 0, 1) := by decide +kernel
theorem dX6_init_56 : decode cX6_init 56 = .ok (.new 35, 3) := by decide +kernel
theorem dX6_init_59 : decode cX6_init 59 = .ok (.dup, 1) := by decide +kernel
theorem dX6_init_60 : decode cX6_init 60 = .ok (.aload_n 1, 1) := by decide +kernel
theorem dX6_init_61 : decode cX6_init 61 = .ok (.aload_n 2, 1) := by decide +kernel
theorem dX6_init_62 : decode cX6_init 62 = .ok (.invokespecial 37, 3) := by decide +kernel
theorem dX6_init_65 : decode cX6_init 65 = .ok (.putfield 40, 3) := by decide +kernel
theorem dX6_init_68 : decode cX6_init 68 = .ok (.aload_n 0, 1) := by decide +kernel
theorem dX6_init_69 : decode cX6_init 69 = .ok (.getfield 15, 3) := by decide +kernel
theorem dX6_init_72 : decode cX6_init 72 = .ok (.iconst (-1), 1) := by decide +kernel
theorem dX6_init_73 : decode cX6_init 73 = .ok (.invokestatic 44, 3) := by decide +kernel
theorem dX6_init_76 : decode cX6_init 76 = .ok (.return_, 1) := by decide +kernel
theorem dX9_init_0 : decode cX9_init 0 = .ok (.aload_n 0, 1) := by decide +kernel
theorem dX9_init_1 : decode cX9_init 1 = .ok (.invokespecial 3, 3) := by decide +kernel
theorem dX9_init_4 : decode cX9_init 4 = .ok (.aload_n 0, 1) := by decide +kernel
theorem dX9_init_5 : decode cX9_init 5 = .ok (.sipush 400, 3) := by decide +kernel
theorem dX9_init_8 : decode cX9_init 8 = .ok (.newarray .int, 2) := by decide +kernel
theorem dX9_init_10 : decode cX9_init 10 = .ok (.putfield 9, 3) := by decide +kernel
theorem dX9_init_13 : decode cX9_init 13 = .ok (.aload_n 0, 1) := by decide +kernel
theorem dX9_init_14 : decode cX9_init 14 = .ok (.iconst (-1), 1) := by decide +kernel
theorem dX9_init_15 : decode cX9_init 15 = .ok (.putfield 13, 3) := by decide +kernel
theorem dX9_init_18 : decode cX9_init 18 = .ok (.aload_n 0, 1) := by decide +kernel
theorem dX9_init_19 : decode cX9_init 19 = .ok (.iconst 3, 1) := by decide +kernel
theorem dX9_init_20 : decode cX9_init 20 = .ok (.newarray .int, 2) := by decide +kernel
theorem dX9_init_22 : decode cX9_init 22 = .ok (.putfield 17, 3) := by decide +kernel
theorem dX9_init_25 : decode cX9_init 25 = .ok (.aload_n 0, 1) := by decide +kernel
theorem dX9_init_26 : decode cX9_init 26 = .ok (.new 20, 3) := by decide +kernel
theorem dX9_init_29 : decode cX9_init 29 = .ok (.dup, 1) := by decide +kernel
theorem dX9_init_30 : decode cX9_init 30 = .ok (.invokespecial 22, 3) := by decide +kernel
theorem dX9_init_33 : decode cX9_init 33 = .ok (.putfield 23, 3) := by decide +kernel
theorem dX9_init_36 : decode cX9_init 36 = .ok (.aload_n 0, 1) := by decide +kernel
theorem dX9_init_37 : decode cX9_init 37 = .ok (.new 20, 3) := by decide +kernel
theorem dX9_init_40 : decode cX9_init 40 = .ok (.dup, 1) := by decide +kernel
theorem dX9_init_41 : decode cX9_init 41 = .ok (.invokespecial 22, 3) := by decide +kernel
theorem dX9_init_44 : decode cX9_init 44 = .ok (.putfield 27, 3) := by decide +kernel
theorem dX9_init_47 : decode cX9_init 47 = .ok (.aload_n 0, 1) := by decide +kernel
theorem dX9_init_48 : decode cX9_init 48 = .ok (.new 30, 3) := by decide +kernel
theorem dX9_init_51 : decode cX9_init 51 = .ok (.dup, 1) := by decide +kernel
theorem dX9_init_52 : decode cX9_init 52 = .ok (.aload_n 0, 1) := by decide +kernel
theorem dX9_init_53 : decode cX9_init 53 = .ok (.getfield 23, 3) := by decide +kernel
theorem dX9_init_56 : decode cX9_init 56 = .ok (.invokespecial 32, 3) := by decide +kernel
theorem dX9_init_59 : decode cX9_init 59 = .ok (.putfield 35, 3) := by decide +kernel
theorem dX9_init_62 : decode cX9_init 62 = .ok (.aload_n 0, 1) := by decide +kernel
theorem dX9_init_63 : decode cX9_init 63 = .ok (.new 39, 3) := by decide +kernel
theorem dX9_init_66 : decode cX9_init 66 = .ok (.dup, 1) := by decide +kernel
theorem dX9_init_67 : decode cX9_init 67 = .ok (.aload_n 0, 1) := by decide +kernel
theorem dX9_init_68 : decode cX9_init 68 = .ok (.getfield 23, 3) := by decide +kernel
theorem dX9_init_71 : decode cX9_init 71 = .ok (.aload_n 0, 1) := by decide +kernel
theorem dX9_init_72 : decode cX9_init 72 = .ok (.getfield 35, 3) := by decide +kernel
theorem dX9_init_75 : decode cX9_init 75 = .ok (.invokespecial 41, 3) := by decide +kernel
theorem dX9_init_78 : decode cX9_init 78 = .ok (.putfield 44, 3) := by decide +kernel
theorem dX9_init_81 : decode cX9_init 81 = .ok (.aload_n 0, 1) := by decide +kernel
theorem dX9_init_82 : decode cX9_init 82 = .ok (.new 48, 3) := by decide +kernel
theorem dX9_init_85 : decode cX9_init 85 = .ok (.dup, 1) := by decide +kernel
theorem dX9_init_86 : decode cX9_init 86 = .ok (.aload_n 0, 1) := by decide +kernel
theorem dX9_init_87 : decode cX9_init 87 = .ok (.getfield 23, 3) := by decide +kernel
theorem dX9_init_90 : decode cX9_init 90 = .ok (.aload_n 0, 1) := by decide +kernel
theorem dX9_init_91 : decode cX9_init 91 = .ok (.getfield 35, 3) := by decide +kernel
theorem dX9_init_94 : decode cX9_init 94 = .ok (.invokespecial 50, 3) := by decide +kernel
theorem dX9_init_97 : decode cX9_init 97 = .ok (.putfield 51, 3) := by decide +kernel
theorem dX9_init_100 : decode cX9_init 100 = .ok (.return_, 1) := by decide +kernel
set_option maxRecDepth 100000 in
set_option maxHeartbeats 4000000 in
theorem c_statA (l : Launch) (D : va_G) (Y : Nat → ClassId) (h0 : Nat) (rf : Nat) (j1 : Int32) (g : Nat → Value) (g_3 : g 3 = .ref rf) (h1 : ¬ j1 < 0) (h2 : ¬ 2 < j1) : cM l D Y yX9_status cX9_status 2 (some .int) 1 0 0 [.ref h0, .int j1] [(h0, .inr (8, fl 9 g)), (rf, .inl (Y 0, 3, .inl (fun _ => 0)))] (qI D (fun (r : Int32) (u : Unit) => r = 0) (fun (u : Unit) => [])) := by
  refine cM.mk RX9 rfl (by decide) (Nat.le_of_ble_eq_true rfl) ?_
  intro p e s m below meth c A F hr hlocks hin hK hZ hP hD hA hS ls hl
  have hx := F.1
  have hb := F.2.1
  have hl : lv_has ls 2 [(0, .ref h0), (1, .int j1)] := hl
  refine lv_iload_n hx hb dX9_status_0 rfl (lv_at hl 1 rfl) ?_
  refine lv_if_lt (tgt := 9) hx hb dX9_status_1 (by decide) (fun c9 => absurd c9 (h1)) (fun _ => ?_)
  refine lv_iload_n hx hb dX9_status_4 rfl (lv_at hl 1 rfl) ?_
  refine lv_iconst (v := 2) hx hb dX9_status_5 (by decide) ?_
  refine lv_icmp_le (tgt := 13) hx hb dX9_status_6 (by decide) (fun _ => ?_) (fun c9 => absurd (Int32.not_lt.mp h2) c9)
  refine lv_aload_n hx hb dX9_status_13 rfl (lv_at hl 0 rfl) ?_
  refine gF (C := RX9) (T := TX9) (ci := 8) (v := .ref rf) F hK hP 0 rfl rfl iwX9 3 (by decide) m_11 (fun _ h => h) g_3 dX9_status_14 ?_
  refine lv_iload_n hx hb dX9_status_17 rfl (lv_at hl 1 rfl) ?_
  refine va_iald hx hb hK.1 hP 1 0 rfl rfl (vp_in_iff.mpr (st_in h1 (Int32.not_lt.mp h2))) dX9_status_18 ?_
  refine lv_toc (v := 0) rfl ?_
  exact retI F hr hlocks rfl hP hD hS () [] rfl rfl (Nat.le_of_ble_eq_true rfl) (Nat.le_of_ble_eq_true rfl) dX9_status_19 rfl
set_option maxRecDepth 100000 in
set_option maxHeartbeats 4000000 in
theorem c_statB (l : Launch) (D : va_G) (Y : Nat → ClassId) (h0 : Nat) (j1 : Int32) (g : Nat → Value)  (h1 : j1 < 0 ∨ 2 < j1) : cM l D Y yX9_status cX9_status 2 (some .int) 1 0 0 [.ref h0, .int j1] [(h0, .inr (8, fl 9 g))] (qI D (fun (r : Int32) (u : Unit) => r = (-1)) (fun (u : Unit) => [])) := by
  refine cM.mk RX9 rfl (by decide) (Nat.le_of_ble_eq_true rfl) ?_
  intro p e s m below meth c A F hr hlocks hin hK hZ hP hD hA hS ls hl
  have hx := F.1
  have hb := F.2.1
  have hl : lv_has ls 2 [(0, .ref h0), (1, .int j1)] := hl
  refine lv_iload_n hx hb dX9_status_0 rfl (lv_at hl 1 rfl) ?_
  refine lv_if_lt (tgt := 9) hx hb dX9_status_1 (by decide) (fun c9 => ?_) (fun c9 => ?_)
  · skip
    refine lv_iconst (v := (-1)) hx hb dX9_status_9 (by decide) ?_
    refine lv_goto (tgt := 19) hx hb dX9_status_10 (by decide) ?_
    exact retI F hr hlocks rfl hP hD hS () [] rfl rfl (Nat.le_of_ble_eq_true rfl) (Nat.le_of_ble_eq_true rfl) dX9_status_19 rfl
  · skip
    refine lv_iload_n hx hb dX9_status_4 rfl (lv_at hl 1 rfl) ?_
    refine lv_iconst (v := 2) hx hb dX9_status_5 (by decide) ?_
    refine lv_icmp_le (tgt := 13) hx hb dX9_status_6 (by decide) (fun c8 => ?_) (fun c8 => ?_)
    · skip
      exact h1.elim (fun h => absurd h c9) (fun h => absurd c8 (Int32.not_le.mpr h))
    · skip
      refine lv_iconst (v := (-1)) hx hb dX9_status_9 (by decide) ?_
      refine lv_goto (tgt := 19) hx hb dX9_status_10 (by decide) ?_
      exact retI F hr hlocks rfl hP hD hS () [] rfl rfl (Nat.le_of_ble_eq_true rfl) (Nat.le_of_ble_eq_true rfl) dX9_status_19 rfl
set_option maxRecDepth 100000 in
set_option maxHeartbeats 4000000 in
theorem c_iP (l : Launch) (D : va_G) (Y : Nat → ClassId) (q0 : Nat) (g : Nat → Value) (g_0 : g 0 = .int 0) (g_1 : g 1 = .int 0) (g_2 : g 2 = .int 0)  : cM l D Y yX3_init cX3_init 1 none 1 6 1972 [.ref q0] [(q0, .inr (3, fl 9 g))] (qV D (fun (u : Nat → Value) => u 0 = .int 0 ∧ u 1 = .int 0 ∧ u 2 = .int 0) (fun (u : Nat → Value) => [(q0, .inr (3, fl 9 u))])) := by
  refine cM.mk RX3 rfl (by decide) (Nat.le_of_ble_eq_true rfl) ?_
  intro p e s m below meth c A F hr hlocks hin hK hZ hP hD hA hS ls hl
  have hx := F.1
  have hb := F.2.1
  have hl : lv_has ls 1 [(0, .ref q0)] := hl
  refine lv_aload_n hx hb dX3_init_0 rfl (lv_at hl 0 rfl) ?_
  refine oInit F m_284 m_111 m_112 hl.1 dX3_init_1 (Nat.le_of_ble_eq_true rfl) (Nat.le_of_ble_eq_true rfl) ?_
  refine lv_aload_n hx hb dX3_init_4 rfl (lv_at hl 0 rfl) ?_
  refine lv_bipush (v := 10) hx hb dX3_init_5 (by decide) ?_
  refine nA (atype := .int) (ty := .int) (a0 := (10, .inl (fun _ => 0))) (N' := 10) (cA0 := Y 0) F hK hP hD hS hA 0 rfl (fun _ h => h) m_114 rfl (fun _ => rfl) (by decide) (by decide) (Nat.le_of_ble_eq_true rfl) (Nat.le_of_ble_eq_true rfl) (Nat.le_of_ble_eq_true rfl) dX3_init_7 (fun q_1 H hP hD hS => ?_)
  have hP : va_P D vwCl [(q0, .inr (3, fl 9 g)), (q_1, .inl (Y 0, 10, .inl (fun _ => 0)))] H := hP
  have hD : va_D A [(q0, .inr (3, fl 9 g)), (q_1, .inl (Y 0, 10, .inl (fun _ => 0)))] := hD
  refine W.widen (k := 1) (n := 10) (Nat.le_of_ble_eq_true rfl) (Nat.le_of_ble_eq_true rfl) ?_
  refine pFF (C := RX3) (T := TX3) (ci := 3) F hin hK hP hD hS 0 rfl rfl iwX3 tyX3 tyX3_ok nmX3 3 (by decide) m_285 (fun _ h => h) rfl rfl rfl rfl dX3_init_9 (fun H locs hP hD hS => ?_)
  have hP : va_P D vwCl [(q0, .inr (3, fl 9 (va_up g 3 (.ref q_1)))), (q_1, .inl (Y 0, 10, .inl (fun _ => 0)))] H := hP
  have hD : va_D A [(q0, .inr (3, fl 9 (va_up g 3 (.ref q_1)))), (q_1, .inl (Y 0, 10, .inl (fun _ => 0)))] := hD
  refine lv_aload_n hx hb dX3_init_12 rfl (lv_at hl 0 rfl) ?_
  refine lv_bipush (v := 18) hx hb dX3_init_13 (by decide) ?_
  refine nA (atype := .int) (ty := .int) (a0 := (18, .inl (fun _ => 0))) (N' := 18) (cA0 := Y 0) F hK hP hD hS hA 0 rfl (fun _ h => h) m_114 rfl (fun _ => rfl) (by decide) (by decide) (Nat.le_of_ble_eq_true rfl) (Nat.le_of_ble_eq_true rfl) (Nat.le_of_ble_eq_true rfl) dX3_init_15 (fun q_2 H hP hD hS => ?_)
  have hP : va_P D vwCl [(q0, .inr (3, fl 9 (va_up g 3 (.ref q_1)))), (q_1, .inl (Y 0, 10, .inl (fun _ => 0))), (q_2, .inl (Y 0, 18, .inl (fun _ => 0)))] H := hP
  have hD : va_D A [(q0, .inr (3, fl 9 (va_up g 3 (.ref q_1)))), (q_1, .inl (Y 0, 10, .inl (fun _ => 0))), (q_2, .inl (Y 0, 18, .inl (fun _ => 0)))] := hD
  refine W.widen (k := 2) (n := 28) (Nat.le_of_ble_eq_true rfl) (Nat.le_of_ble_eq_true rfl) ?_
  refine pFF (C := RX3) (T := TX3) (ci := 3) F hin hK hP hD hS 0 rfl rfl iwX3 tyX3 tyX3_ok nmX3 4 (by decide) m_286 (fun _ h => h) rfl rfl rfl rfl dX3_init_17 (fun H locs hP hD hS => ?_)
  have hP : va_P D vwCl [(q0, .inr (3, fl 9 (va_up (va_up g 3 (.ref q_1)) 4 (.ref q_2)))), (q_1, .inl (Y 0, 10, .inl (fun _ => 0))), (q_2, .inl (Y 0, 18, .inl (fun _ => 0)))] H := hP
  have hD : va_D A [(q0, .inr (3, fl 9 (va_up (va_up g 3 (.ref q_1)) 4 (.ref q_2)))), (q_1, .inl (Y 0, 10, .inl (fun _ => 0))), (q_2, .inl (Y 0, 18, .inl (fun _ => 0)))] := hD
  refine lv_aload_n hx hb dX3_init_20 rfl (lv_at hl 0 rfl) ?_
  refine lv_sipush (v := 144) hx hb dX3_init_21 (by decide) ?_
  refine nA (atype := .int) (ty := .int) (a0 := (144, .inl (fun _ => 0))) (N' := 144) (cA0 := Y 0) F hK hP hD hS hA 0 rfl (fun _ h => h) m_114 rfl (fun _ => rfl) (by decide) (by decide) (Nat.le_of_ble_eq_true rfl) (Nat.le_of_ble_eq_true rfl) (Nat.le_of_ble_eq_true rfl) dX3_init_24 (fun q_3 H hP hD hS => ?_)
  have hP : va_P D vwCl [(q0, .inr (3, fl 9 (va_up (va_up g 3 (.ref q_1)) 4 (.ref q_2)))), (q_1, .inl (Y 0, 10, .inl (fun _ => 0))), (q_2, .inl (Y 0, 18, .inl (fun _ => 0))), (q_3, .inl (Y 0, 144, .inl (fun _ => 0)))] H := hP
  have hD : va_D A [(q0, .inr (3, fl 9 (va_up (va_up g 3 (.ref q_1)) 4 (.ref q_2)))), (q_1, .inl (Y 0, 10, .inl (fun _ => 0))), (q_2, .inl (Y 0, 18, .inl (fun _ => 0))), (q_3, .inl (Y 0, 144, .inl (fun _ => 0)))] := hD
  refine W.widen (k := 3) (n := 172) (Nat.le_of_ble_eq_true rfl) (Nat.le_of_ble_eq_true rfl) ?_
  refine pFF (C := RX3) (T := TX3) (ci := 3) F hin hK hP hD hS 0 rfl rfl iwX3 tyX3 tyX3_ok nmX3 5 (by decide) m_287 (fun _ h => h) rfl rfl rfl rfl dX3_init_26 (fun H locs hP hD hS => ?_)
  have hP : va_P D vwCl [(q0, .inr (3, fl 9 (va_up (va_up (va_up g 3 (.ref q_1)) 4 (.ref q_2)) 5 (.ref q_3)))), (q_1, .inl (Y 0, 10, .inl (fun _ => 0))), (q_2, .inl (Y 0, 18, .inl (fun _ => 0))), (q_3, .inl (Y 0, 144, .inl (fun _ => 0)))] H := hP
  have hD : va_D A [(q0, .inr (3, fl 9 (va_up (va_up (va_up g 3 (.ref q_1)) 4 (.ref q_2)) 5 (.ref q_3)))), (q_1, .inl (Y 0, 10, .inl (fun _ => 0))), (q_2, .inl (Y 0, 18, .inl (fun _ => 0))), (q_3, .inl (Y 0, 144, .inl (fun _ => 0)))] := hD
  refine lv_aload_n hx hb dX3_init_29 rfl (lv_at hl 0 rfl) ?_
  refine lv_bipush (v := 60) hx hb dX3_init_30 (by decide) ?_
  refine nA (atype := .int) (ty := .int) (a0 := (60, .inl (fun _ => 0))) (N' := 60) (cA0 := Y 0) F hK hP hD hS hA 0 rfl (fun _ h => h) m_114 rfl (fun _ => rfl) (by decide) (by decide) (Nat.le_of_ble_eq_true rfl) (Nat.le_of_ble_eq_true rfl) (Nat.le_of_ble_eq_true rfl) dX3_init_32 (fun q_4 H hP hD hS => ?_)
  have hP : va_P D vwCl [(q0, .inr (3, fl 9 (va_up (va_up (va_up g 3 (.ref q_1)) 4 (.ref q_2)) 5 (.ref q_3)))), (q_1, .inl (Y 0, 10, .inl (fun _ => 0))), (q_2, .inl (Y 0, 18, .inl (fun _ => 0))), (q_3, .inl (Y 0, 144, .inl (fun _ => 0))), (q_4, .inl (Y 0, 60, .inl (fun _ => 0)))] H := hP
  have hD : va_D A [(q0, .inr (3, fl 9 (va_up (va_up (va_up g 3 (.ref q_1)) 4 (.ref q_2)) 5 (.ref q_3)))), (q_1, .inl (Y 0, 10, .inl (fun _ => 0))), (q_2, .inl (Y 0, 18, .inl (fun _ => 0))), (q_3, .inl (Y 0, 144, .inl (fun _ => 0))), (q_4, .inl (Y 0, 60, .inl (fun _ => 0)))] := hD
  refine W.widen (k := 4) (n := 232) (Nat.le_of_ble_eq_true rfl) (Nat.le_of_ble_eq_true rfl) ?_
  refine pFF (C := RX3) (T := TX3) (ci := 3) F hin hK hP hD hS 0 rfl rfl iwX3 tyX3 tyX3_ok nmX3 6 (by decide) m_288 (fun _ h => h) rfl rfl rfl rfl dX3_init_34 (fun H locs hP hD hS => ?_)
  have hP : va_P D vwCl [(q0, .inr (3, fl 9 (va_up (va_up (va_up (va_up g 3 (.ref q_1)) 4 (.ref q_2)) 5 (.ref q_3)) 6 (.ref q_4)))), (q_1, .inl (Y 0, 10, .inl (fun _ => 0))), (q_2, .inl (Y 0, 18, .inl (fun _ => 0))), (q_3, .inl (Y 0, 144, .inl (fun _ => 0))), (q_4, .inl (Y 0, 60, .inl (fun _ => 0)))] H := hP
  have hD : va_D A [(q0, .inr (3, fl 9 (va_up (va_up (va_up (va_up g 3 (.ref q_1)) 4 (.ref q_2)) 5 (.ref q_3)) 6 (.ref q_4)))), (q_1, .inl (Y 0, 10, .inl (fun _ => 0))), (q_2, .inl (Y 0, 18, .inl (fun _ => 0))), (q_3, .inl (Y 0, 144, .inl (fun _ => 0))), (q_4, .inl (Y 0, 60, .inl (fun _ => 0)))] := hD
  refine lv_aload_n hx hb dX3_init_37 rfl (lv_at hl 0 rfl) ?_
  refine lv_bipush (v := 60) hx hb dX3_init_38 (by decide) ?_
  refine nA (atype := .int) (ty := .int) (a0 := (60, .inl (fun _ => 0))) (N' := 60) (cA0 := Y 0) F hK hP hD hS hA 0 rfl (fun _ h => h) m_114 rfl (fun _ => rfl) (by decide) (by decide) (Nat.le_of_ble_eq_true rfl) (Nat.le_of_ble_eq_true rfl) (Nat.le_of_ble_eq_true rfl) dX3_init_40 (fun q_5 H hP hD hS => ?_)
  have hP : va_P D vwCl [(q0, .inr (3, fl 9 (va_up (va_up (va_up (va_up g 3 (.ref q_1)) 4 (.ref q_2)) 5 (.ref q_3)) 6 (.ref q_4)))), (q_1, .inl (Y 0, 10, .inl (fun _ => 0))), (q_2, .inl (Y 0, 18, .inl (fun _ => 0))), (q_3, .inl (Y 0, 144, .inl (fun _ => 0))), (q_4, .inl (Y 0, 60, .inl (fun _ => 0))), (q_5, .inl (Y 0, 60, .inl (fun _ => 0)))] H := hP
  have hD : va_D A [(q0, .inr (3, fl 9 (va_up (va_up (va_up (va_up g 3 (.ref q_1)) 4 (.ref q_2)) 5 (.ref q_3)) 6 (.ref q_4)))), (q_1, .inl (Y 0, 10, .inl (fun _ => 0))), (q_2, .inl (Y 0, 18, .inl (fun _ => 0))), (q_3, .inl (Y 0, 144, .inl (fun _ => 0))), (q_4, .inl (Y 0, 60, .inl (fun _ => 0))), (q_5, .inl (Y 0, 60, .inl (fun _ => 0)))] := hD
  refine W.widen (k := 5) (n := 292) (Nat.le_of_ble_eq_true rfl) (Nat.le_of_ble_eq_true rfl) ?_
  refine pFF (C := RX3) (T := TX3) (ci := 3) F hin hK hP hD hS 0 rfl rfl iwX3 tyX3 tyX3_ok nmX3 7 (by decide) m_289 (fun _ h => h) rfl rfl rfl rfl dX3_init_42 (fun H locs hP hD hS => ?_)
  have hP : va_P D vwCl [(q0, .inr (3, fl 9 (va_up (va_up (va_up (va_up (va_up g 3 (.ref q_1)) 4 (.ref q_2)) 5 (.ref q_3)) 6 (.ref q_4)) 7 (.ref q_5)))), (q_1, .inl (Y 0, 10, .inl (fun _ => 0))), (q_2, .inl (Y 0, 18, .inl (fun _ => 0))), (q_3, .inl (Y 0, 144, .inl (fun _ => 0))), (q_4, .inl (Y 0, 60, .inl (fun _ => 0))), (q_5, .inl (Y 0, 60, .inl (fun _ => 0)))] H := hP
  have hD : va_D A [(q0, .inr (3, fl 9 (va_up (va_up (va_up (va_up (va_up g 3 (.ref q_1)) 4 (.ref q_2)) 5 (.ref q_3)) 6 (.ref q_4)) 7 (.ref q_5)))), (q_1, .inl (Y 0, 10, .inl (fun _ => 0))), (q_2, .inl (Y 0, 18, .inl (fun _ => 0))), (q_3, .inl (Y 0, 144, .inl (fun _ => 0))), (q_4, .inl (Y 0, 60, .inl (fun _ => 0))), (q_5, .inl (Y 0, 60, .inl (fun _ => 0)))] := hD
  refine lv_aload_n hx hb dX3_init_45 rfl (lv_at hl 0 rfl) ?_
  refine lv_sipush (v := 1680) hx hb dX3_init_46 (by decide) ?_
  refine nA (atype := .int) (ty := .int) (a0 := (1680, .inl (fun _ => 0))) (N' := 1680) (cA0 := Y 0) F hK hP hD hS hA 0 rfl (fun _ h => h) m_114 rfl (fun _ => rfl) (by decide) (by decide) (Nat.le_of_ble_eq_true rfl) (Nat.le_of_ble_eq_true rfl) (Nat.le_of_ble_eq_true rfl) dX3_init_49 (fun q_6 H hP hD hS => ?_)
  have hP : va_P D vwCl [(q0, .inr (3, fl 9 (va_up (va_up (va_up (va_up (va_up g 3 (.ref q_1)) 4 (.ref q_2)) 5 (.ref q_3)) 6 (.ref q_4)) 7 (.ref q_5)))), (q_1, .inl (Y 0, 10, .inl (fun _ => 0))), (q_2, .inl (Y 0, 18, .inl (fun _ => 0))), (q_3, .inl (Y 0, 144, .inl (fun _ => 0))), (q_4, .inl (Y 0, 60, .inl (fun _ => 0))), (q_5, .inl (Y 0, 60, .inl (fun _ => 0))), (q_6, .inl (Y 0, 1680, .inl (fun _ => 0)))] H := hP
  have hD : va_D A [(q0, .inr (3, fl 9 (va_up (va_up (va_up (va_up (va_up g 3 (.ref q_1)) 4 (.ref q_2)) 5 (.ref q_3)) 6 (.ref q_4)) 7 (.ref q_5)))), (q_1, .inl (Y 0, 10, .inl (fun _ => 0))), (q_2, .inl (Y 0, 18, .inl (fun _ => 0))), (q_3, .inl (Y 0, 144, .inl (fun _ => 0))), (q_4, .inl (Y 0, 60, .inl (fun _ => 0))), (q_5, .inl (Y 0, 60, .inl (fun _ => 0))), (q_6, .inl (Y 0, 1680, .inl (fun _ => 0)))] := hD
  refine W.widen (k := 6) (n := 1972) (Nat.le_of_ble_eq_true rfl) (Nat.le_of_ble_eq_true rfl) ?_
  refine pFF (C := RX3) (T := TX3) (ci := 3) F hin hK hP hD hS 0 rfl rfl iwX3 tyX3 tyX3_ok nmX3 8 (by decide) m_290 (fun _ h => h) rfl rfl rfl rfl dX3_init_51 (fun H locs hP hD hS => ?_)
  have hP : va_P D vwCl [(q0, .inr (3, fl 9 (va_up (va_up (va_up (va_up (va_up (va_up g 3 (.ref q_1)) 4 (.ref q_2)) 5 (.ref q_3)) 6 (.ref q_4)) 7 (.ref q_5)) 8 (.ref q_6)))), (q_1, .inl (Y 0, 10, .inl (fun _ => 0))), (q_2, .inl (Y 0, 18, .inl (fun _ => 0))), (q_3, .inl (Y 0, 144, .inl (fun _ => 0))), (q_4, .inl (Y 0, 60, .inl (fun _ => 0))), (q_5, .inl (Y 0, 60, .inl (fun _ => 0))), (q_6, .inl (Y 0, 1680, .inl (fun _ => 0)))] H := hP
  have hD : va_D A [(q0, .inr (3, fl 9 (va_up (va_up (va_up (va_up (va_up (va_up g 3 (.ref q_1)) 4 (.ref q_2)) 5 (.ref q_3)) 6 (.ref q_4)) 7 (.ref q_5)) 8 (.ref q_6)))), (q_1, .inl (Y 0, 10, .inl (fun _ => 0))), (q_2, .inl (Y 0, 18, .inl (fun _ => 0))), (q_3, .inl (Y 0, 144, .inl (fun _ => 0))), (q_4, .inl (Y 0, 60, .inl (fun _ => 0))), (q_5, .inl (Y 0, 60, .inl (fun _ => 0))), (q_6, .inl (Y 0, 1680, .inl (fun _ => 0)))] := hD
  exact retV F hr hlocks hP hD hS (va_up (va_up (va_up (va_up (va_up (va_up g 3 (.ref q_1)) 4 (.ref q_2)) 5 (.ref q_3)) 6 (.ref q_4)) 7 (.ref q_5)) 8 (.ref q_6)) [0] rfl rfl (Nat.le_of_ble_eq_true rfl) (Nat.le_of_ble_eq_true rfl) dX3_init_54 ⟨g_0, g_1, g_2⟩
set_option maxRecDepth 100000 in
set_option maxHeartbeats 4000000 in
theorem c_iW_X0 (l : Launch) (D : va_G) (Y : Nat → ClassId) (q0 : Nat) (pr : Nat) (pl : Nat) (ba : Nat) (g : Nat → Value)   : cM l D Y yX7_init cX7_init 4 none 1 2 6 [.ref q0, .ref pr, .ref pl, .ref ba] [(q0, .inr (0, fl 9 g))] (qV D (fun (u : Nat → Value) => True) (fun (u : Nat → Value) => [(q0, .inr (0, fl 9 u))])) := by
  refine cM.mk RX7 rfl (by decide) (Nat.le_of_ble_eq_true rfl) ?_
  intro p e s m below meth c A F hr hlocks hin hK hZ hP hD hA hS ls hl
  have hx := F.1
  have hb := F.2.1
  have hl : lv_has ls 4 [(0, .ref q0), (1, .ref pr), (2, .ref pl), (3, .ref ba)] := hl
  refine lv_aload_n hx hb dX7_init_0 rfl (lv_at hl 0 rfl) ?_
  refine oInit F m_291 m_111 m_112 hl.1 dX7_init_1 (Nat.le_of_ble_eq_true rfl) (Nat.le_of_ble_eq_true rfl) ?_
  refine lv_aload_n hx hb dX7_init_4 rfl (lv_at hl 0 rfl) ?_
  refine lv_iconst (v := 3) hx hb dX7_init_5 (by decide) ?_
  refine nA (atype := .int) (ty := .int) (a0 := (3, .inl (fun _ => 0))) (N' := 3) (cA0 := Y 0) F hK hP hD hS hA 0 rfl (fun _ h => h) m_114 rfl (fun _ => rfl) (by decide) (by decide) (Nat.le_of_ble_eq_true rfl) (Nat.le_of_ble_eq_true rfl) (Nat.le_of_ble_eq_true rfl) dX7_init_6 (fun q_1 H hP hD hS => ?_)
  have hP : va_P D vwCl [(q0, .inr (0, fl 9 g)), (q_1, .inl (Y 0, 3, .inl (fun _ => 0)))] H := hP
  have hD : va_D A [(q0, .inr (0, fl 9 g)), (q_1, .inl (Y 0, 3, .inl (fun _ => 0)))] := hD
  refine W.widen (k := 1) (n := 3) (Nat.le_of_ble_eq_true rfl) (Nat.le_of_ble_eq_true rfl) ?_
  refine pFF (C := RX0) (T := TX0) (ci := 0) F hin hK hP hD hS 0 rfl rfl iwX0 tyX0 tyX0_ok nmX0 4 (by decide) m_292 (fun _ h => h) rfl rfl rfl rfl dX7_init_8 (fun H locs hP hD hS => ?_)
  have hP : va_P D vwCl [(q0, .inr (0, fl 9 (va_up g 4 (.ref q_1)))), (q_1, .inl (Y 0, 3, .inl (fun _ => 0)))] H := hP
  have hD : va_D A [(q0, .inr (0, fl 9 (va_up g 4 (.ref q_1)))), (q_1, .inl (Y 0, 3, .inl (fun _ => 0)))] := hD
  refine lv_aload_n hx hb dX7_init_11 rfl (lv_at hl 0 rfl) ?_
  refine lv_iconst (v := 3) hx hb dX7_init_12 (by decide) ?_
  refine nA (atype := .int) (ty := .int) (a0 := (3, .inl (fun _ => 0))) (N' := 3) (cA0 := Y 0) F hK hP hD hS hA 0 rfl (fun _ h => h) m_114 rfl (fun _ => rfl) (by decide) (by decide) (Nat.le_of_ble_eq_true rfl) (Nat.le_of_ble_eq_true rfl) (Nat.le_of_ble_eq_true rfl) dX7_init_13 (fun q_2 H hP hD hS => ?_)
  have hP : va_P D vwCl [(q0, .inr (0, fl 9 (va_up g 4 (.ref q_1)))), (q_1, .inl (Y 0, 3, .inl (fun _ => 0))), (q_2, .inl (Y 0, 3, .inl (fun _ => 0)))] H := hP
  have hD : va_D A [(q0, .inr (0, fl 9 (va_up g 4 (.ref q_1)))), (q_1, .inl (Y 0, 3, .inl (fun _ => 0))), (q_2, .inl (Y 0, 3, .inl (fun _ => 0)))] := hD
  refine W.widen (k := 2) (n := 6) (Nat.le_of_ble_eq_true rfl) (Nat.le_of_ble_eq_true rfl) ?_
  refine pFF (C := RX0) (T := TX0) (ci := 0) F hin hK hP hD hS 0 rfl rfl iwX0 tyX0 tyX0_ok nmX0 5 (by decide) m_293 (fun _ h => h) rfl rfl rfl rfl dX7_init_15 (fun H locs hP hD hS => ?_)
  have hP : va_P D vwCl [(q0, .inr (0, fl 9 (va_up (va_up g 4 (.ref q_1)) 5 (.ref q_2)))), (q_1, .inl (Y 0, 3, .inl (fun _ => 0))), (q_2, .inl (Y 0, 3, .inl (fun _ => 0)))] H := hP
  have hD : va_D A [(q0, .inr (0, fl 9 (va_up (va_up g 4 (.ref q_1)) 5 (.ref q_2)))), (q_1, .inl (Y 0, 3, .inl (fun _ => 0))), (q_2, .inl (Y 0, 3, .inl (fun _ => 0)))] := hD
  refine lv_aload_n hx hb dX7_init_18 rfl (lv_at hl 0 rfl) ?_
  refine lv_aload_n hx hb dX7_init_19 rfl (lv_at hl 1 rfl) ?_
  refine pF (C := RX0) (T := TX0) (ci := 0) F hK hP hD hS 0 rfl rfl iwX0 tyX0 tyX0_ok nmX0 0 (by decide) m_294 (fun _ h => h) rfl rfl rfl dX7_init_20 (fun H locs hP hD hS => ?_)
  have hP : va_P D vwCl [(q0, .inr (0, fl 9 (va_up (va_up (va_up g 4 (.ref q_1)) 5 (.ref q_2)) 0 (.ref pr)))), (q_1, .inl (Y 0, 3, .inl (fun _ => 0))), (q_2, .inl (Y 0, 3, .inl (fun _ => 0)))] H := hP
  have hD : va_D A [(q0, .inr (0, fl 9 (va_up (va_up (va_up g 4 (.ref q_1)) 5 (.ref q_2)) 0 (.ref pr)))), (q_1, .inl (Y 0, 3, .inl (fun _ => 0))), (q_2, .inl (Y 0, 3, .inl (fun _ => 0)))] := hD
  refine lv_aload_n hx hb dX7_init_23 rfl (lv_at hl 0 rfl) ?_
  refine lv_aload_n hx hb dX7_init_24 rfl (lv_at hl 2 rfl) ?_
  refine pFF (C := RX0) (T := TX0) (ci := 0) F hin hK hP hD hS 0 rfl rfl iwX0 tyX0 tyX0_ok nmX0 1 (by decide) m_295 (fun _ h => h) rfl rfl rfl rfl dX7_init_25 (fun H locs hP hD hS => ?_)
  have hP : va_P D vwCl [(q0, .inr (0, fl 9 (va_up (va_up (va_up (va_up g 4 (.ref q_1)) 5 (.ref q_2)) 0 (.ref pr)) 1 (.ref pl)))), (q_1, .inl (Y 0, 3, .inl (fun _ => 0))), (q_2, .inl (Y 0, 3, .inl (fun _ => 0)))] H := hP
  have hD : va_D A [(q0, .inr (0, fl 9 (va_up (va_up (va_up (va_up g 4 (.ref q_1)) 5 (.ref q_2)) 0 (.ref pr)) 1 (.ref pl)))), (q_1, .inl (Y 0, 3, .inl (fun _ => 0))), (q_2, .inl (Y 0, 3, .inl (fun _ => 0)))] := hD
  refine lv_aload_n hx hb dX7_init_28 rfl (lv_at hl 0 rfl) ?_
  refine lv_aload_n hx hb dX7_init_29 rfl (lv_at hl 3 rfl) ?_
  refine pF (C := RX0) (T := TX0) (ci := 0) F hK hP hD hS 0 rfl rfl iwX0 tyX0 tyX0_ok nmX0 2 (by decide) m_296 (fun _ h => h) rfl rfl rfl dX7_init_30 (fun H locs hP hD hS => ?_)
  have hP : va_P D vwCl [(q0, .inr (0, fl 9 (va_up (va_up (va_up (va_up (va_up g 4 (.ref q_1)) 5 (.ref q_2)) 0 (.ref pr)) 1 (.ref pl)) 2 (.ref ba)))), (q_1, .inl (Y 0, 3, .inl (fun _ => 0))), (q_2, .inl (Y 0, 3, .inl (fun _ => 0)))] H := hP
  have hD : va_D A [(q0, .inr (0, fl 9 (va_up (va_up (va_up (va_up (va_up g 4 (.ref q_1)) 5 (.ref q_2)) 0 (.ref pr)) 1 (.ref pl)) 2 (.ref ba)))), (q_1, .inl (Y 0, 3, .inl (fun _ => 0))), (q_2, .inl (Y 0, 3, .inl (fun _ => 0)))] := hD
  exact retV F hr hlocks hP hD hS (va_up (va_up (va_up (va_up (va_up g 4 (.ref q_1)) 5 (.ref q_2)) 0 (.ref pr)) 1 (.ref pl)) 2 (.ref ba)) [0] rfl rfl (Nat.le_of_ble_eq_true rfl) (Nat.le_of_ble_eq_true rfl) dX7_init_33 trivial
set_option maxRecDepth 100000 in
set_option maxHeartbeats 4000000 in
theorem c_iW_X1 (l : Launch) (D : va_G) (Y : Nat → ClassId) (q0 : Nat) (pr : Nat) (pl : Nat) (ba : Nat) (g : Nat → Value)   : cM l D Y yX7_init cX7_init 4 none 1 2 6 [.ref q0, .ref pr, .ref pl, .ref ba] [(q0, .inr (1, fl 7 g))] (qV D (fun (u : Nat → Value) => True) (fun (u : Nat → Value) => [(q0, .inr (1, fl 7 u))])) := by
  refine cM.mk RX7 rfl (by decide) (Nat.le_of_ble_eq_true rfl) ?_
  intro p e s m below meth c A F hr hlocks hin hK hZ hP hD hA hS ls hl
  have hx := F.1
  have hb := F.2.1
  have hl : lv_has ls 4 [(0, .ref q0), (1, .ref pr), (2, .ref pl), (3, .ref ba)] := hl
  refine lv_aload_n hx hb dX7_init_0 rfl (lv_at hl 0 rfl) ?_
  refine oInit F m_291 m_111 m_112 hl.1 dX7_init_1 (Nat.le_of_ble_eq_true rfl) (Nat.le_of_ble_eq_true rfl) ?_
  refine lv_aload_n hx hb dX7_init_4 rfl (lv_at hl 0 rfl) ?_
  refine lv_iconst (v := 3) hx hb dX7_init_5 (by decide) ?_
  refine nA (atype := .int) (ty := .int) (a0 := (3, .inl (fun _ => 0))) (N' := 3) (cA0 := Y 0) F hK hP hD hS hA 0 rfl (fun _ h => h) m_114 rfl (fun _ => rfl) (by decide) (by decide) (Nat.le_of_ble_eq_true rfl) (Nat.le_of_ble_eq_true rfl) (Nat.le_of_ble_eq_true rfl) dX7_init_6 (fun q_1 H hP hD hS => ?_)
  have hP : va_P D vwCl [(q0, .inr (1, fl 7 g)), (q_1, .inl (Y 0, 3, .inl (fun _ => 0)))] H := hP
  have hD : va_D A [(q0, .inr (1, fl 7 g)), (q_1, .inl (Y 0, 3, .inl (fun _ => 0)))] := hD
  refine W.widen (k := 1) (n := 3) (Nat.le_of_ble_eq_true rfl) (Nat.le_of_ble_eq_true rfl) ?_
  refine pFF (C := RX1) (T := TX1) (ci := 1) F hin hK hP hD hS 0 rfl rfl iwX1 tyX1 tyX1_ok nmX1 4 (by decide) m_292 (fun _ h => h) rfl rfl rfl rfl dX7_init_8 (fun H locs hP hD hS => ?_)
  have hP : va_P D vwCl [(q0, .inr (1, fl 7 (va_up g 4 (.ref q_1)))), (q_1, .inl (Y 0, 3, .inl (fun _ => 0)))] H := hP
  have hD : va_D A [(q0, .inr (1, fl 7 (va_up g 4 (.ref q_1)))), (q_1, .inl (Y 0, 3, .inl (fun _ => 0)))] := hD
  refine lv_aload_n hx hb dX7_init_11 rfl (lv_at hl 0 rfl) ?_
  refine lv_iconst (v := 3) hx hb dX7_init_12 (by decide) ?_
  refine nA (atype := .int) (ty := .int) (a0 := (3, .inl (fun _ => 0))) (N' := 3) (cA0 := Y 0) F hK hP hD hS hA 0 rfl (fun _ h => h) m_114 rfl (fun _ => rfl) (by decide) (by decide) (Nat.le_of_ble_eq_true rfl) (Nat.le_of_ble_eq_true rfl) (Nat.le_of_ble_eq_true rfl) dX7_init_13 (fun q_2 H hP hD hS => ?_)
  have hP : va_P D vwCl [(q0, .inr (1, fl 7 (va_up g 4 (.ref q_1)))), (q_1, .inl (Y 0, 3, .inl (fun _ => 0))), (q_2, .inl (Y 0, 3, .inl (fun _ => 0)))] H := hP
  have hD : va_D A [(q0, .inr (1, fl 7 (va_up g 4 (.ref q_1)))), (q_1, .inl (Y 0, 3, .inl (fun _ => 0))), (q_2, .inl (Y 0, 3, .inl (fun _ => 0)))] := hD
  refine W.widen (k := 2) (n := 6) (Nat.le_of_ble_eq_true rfl) (Nat.le_of_ble_eq_true rfl) ?_
  refine pFF (C := RX1) (T := TX1) (ci := 1) F hin hK hP hD hS 0 rfl rfl iwX1 tyX1 tyX1_ok nmX1 5 (by decide) m_293 (fun _ h => h) rfl rfl rfl rfl dX7_init_15 (fun H locs hP hD hS => ?_)
  have hP : va_P D vwCl [(q0, .inr (1, fl 7 (va_up (va_up g 4 (.ref q_1)) 5 (.ref q_2)))), (q_1, .inl (Y 0, 3, .inl (fun _ => 0))), (q_2, .inl (Y 0, 3, .inl (fun _ => 0)))] H := hP
  have hD : va_D A [(q0, .inr (1, fl 7 (va_up (va_up g 4 (.ref q_1)) 5 (.ref q_2)))), (q_1, .inl (Y 0, 3, .inl (fun _ => 0))), (q_2, .inl (Y 0, 3, .inl (fun _ => 0)))] := hD
  refine lv_aload_n hx hb dX7_init_18 rfl (lv_at hl 0 rfl) ?_
  refine lv_aload_n hx hb dX7_init_19 rfl (lv_at hl 1 rfl) ?_
  refine pF (C := RX1) (T := TX1) (ci := 1) F hK hP hD hS 0 rfl rfl iwX1 tyX1 tyX1_ok nmX1 0 (by decide) m_294 (fun _ h => h) rfl rfl rfl dX7_init_20 (fun H locs hP hD hS => ?_)
  have hP : va_P D vwCl [(q0, .inr (1, fl 7 (va_up (va_up (va_up g 4 (.ref q_1)) 5 (.ref q_2)) 0 (.ref pr)))), (q_1, .inl (Y 0, 3, .inl (fun _ => 0))), (q_2, .inl (Y 0, 3, .inl (fun _ => 0)))] H := hP
  have hD : va_D A [(q0, .inr (1, fl 7 (va_up (va_up (va_up g 4 (.ref q_1)) 5 (.ref q_2)) 0 (.ref pr)))), (q_1, .inl (Y 0, 3, .inl (fun _ => 0))), (q_2, .inl (Y 0, 3, .inl (fun _ => 0)))] := hD
  refine lv_aload_n hx hb dX7_init_23 rfl (lv_at hl 0 rfl) ?_
  refine lv_aload_n hx hb dX7_init_24 rfl (lv_at hl 2 rfl) ?_
  refine pFF (C := RX1) (T := TX1) (ci := 1) F hin hK hP hD hS 0 rfl rfl iwX1 tyX1 tyX1_ok nmX1 1 (by decide) m_295 (fun _ h => h) rfl rfl rfl rfl dX7_init_25 (fun H locs hP hD hS => ?_)
  have hP : va_P D vwCl [(q0, .inr (1, fl 7 (va_up (va_up (va_up (va_up g 4 (.ref q_1)) 5 (.ref q_2)) 0 (.ref pr)) 1 (.ref pl)))), (q_1, .inl (Y 0, 3, .inl (fun _ => 0))), (q_2, .inl (Y 0, 3, .inl (fun _ => 0)))] H := hP
  have hD : va_D A [(q0, .inr (1, fl 7 (va_up (va_up (va_up (va_up g 4 (.ref q_1)) 5 (.ref q_2)) 0 (.ref pr)) 1 (.ref pl)))), (q_1, .inl (Y 0, 3, .inl (fun _ => 0))), (q_2, .inl (Y 0, 3, .inl (fun _ => 0)))] := hD
  refine lv_aload_n hx hb dX7_init_28 rfl (lv_at hl 0 rfl) ?_
  refine lv_aload_n hx hb dX7_init_29 rfl (lv_at hl 3 rfl) ?_
  refine pF (C := RX1) (T := TX1) (ci := 1) F hK hP hD hS 0 rfl rfl iwX1 tyX1 tyX1_ok nmX1 2 (by decide) m_296 (fun _ h => h) rfl rfl rfl dX7_init_30 (fun H locs hP hD hS => ?_)
  have hP : va_P D vwCl [(q0, .inr (1, fl 7 (va_up (va_up (va_up (va_up (va_up g 4 (.ref q_1)) 5 (.ref q_2)) 0 (.ref pr)) 1 (.ref pl)) 2 (.ref ba)))), (q_1, .inl (Y 0, 3, .inl (fun _ => 0))), (q_2, .inl (Y 0, 3, .inl (fun _ => 0)))] H := hP
  have hD : va_D A [(q0, .inr (1, fl 7 (va_up (va_up (va_up (va_up (va_up g 4 (.ref q_1)) 5 (.ref q_2)) 0 (.ref pr)) 1 (.ref pl)) 2 (.ref ba)))), (q_1, .inl (Y 0, 3, .inl (fun _ => 0))), (q_2, .inl (Y 0, 3, .inl (fun _ => 0)))] := hD
  exact retV F hr hlocks hP hD hS (va_up (va_up (va_up (va_up (va_up g 4 (.ref q_1)) 5 (.ref q_2)) 0 (.ref pr)) 1 (.ref pl)) 2 (.ref ba)) [0] rfl rfl (Nat.le_of_ble_eq_true rfl) (Nat.le_of_ble_eq_true rfl) dX7_init_33 trivial
set_option maxRecDepth 100000 in
set_option maxHeartbeats 4000000 in
theorem c_iW_X8 (l : Launch) (D : va_G) (Y : Nat → ClassId) (q0 : Nat) (pr : Nat) (pl : Nat) (ba : Nat) (g : Nat → Value)   : cM l D Y yX7_init cX7_init 4 none 1 2 6 [.ref q0, .ref pr, .ref pl, .ref ba] [(q0, .inr (7, fl 12 g))] (qV D (fun (u : Nat → Value) => True) (fun (u : Nat → Value) => [(q0, .inr (7, fl 12 u))])) := by
  refine cM.mk RX7 rfl (by decide) (Nat.le_of_ble_eq_true rfl) ?_
  intro p e s m below meth c A F hr hlocks hin hK hZ hP hD hA hS ls hl
  have hx := F.1
  have hb := F.2.1
  have hl : lv_has ls 4 [(0, .ref q0), (1, .ref pr), (2, .ref pl), (3, .ref ba)] := hl
  refine lv_aload_n hx hb dX7_init_0 rfl (lv_at hl 0 rfl) ?_
  refine oInit F m_291 m_111 m_112 hl.1 dX7_init_1 (Nat.le_of_ble_eq_true rfl) (Nat.le_of_ble_eq_true rfl) ?_
  refine lv_aload_n hx hb dX7_init_4 rfl (lv_at hl 0 rfl) ?_
  refine lv_iconst (v := 3) hx hb dX7_init_5 (by decide) ?_
  refine nA (atype := .int) (ty := .int) (a0 := (3, .inl (fun _ => 0))) (N' := 3) (cA0 := Y 0) F hK hP hD hS hA 0 rfl (fun _ h => h) m_114 rfl (fun _ => rfl) (by decide) (by decide) (Nat.le_of_ble_eq_true rfl) (Nat.le_of_ble_eq_true rfl) (Nat.le_of_ble_eq_true rfl) dX7_init_6 (fun q_1 H hP hD hS => ?_)
  have hP : va_P D vwCl [(q0, .inr (7, fl 12 g)), (q_1, .inl (Y 0, 3, .inl (fun _ => 0)))] H := hP
  have hD : va_D A [(q0, .inr (7, fl 12 g)), (q_1, .inl (Y 0, 3, .inl (fun _ => 0)))] := hD
  refine W.widen (k := 1) (n := 3) (Nat.le_of_ble_eq_true rfl) (Nat.le_of_ble_eq_true rfl) ?_
  refine pFF (C := RX8) (T := TX8) (ci := 7) F hin hK hP hD hS 0 rfl rfl iwX8 tyX8 tyX8_ok nmX8 4 (by decide) m_292 (fun _ h => h) rfl rfl rfl rfl dX7_init_8 (fun H locs hP hD hS => ?_)
  have hP : va_P D vwCl [(q0, .inr (7, fl 12 (va_up g 4 (.ref q_1)))), (q_1, .inl (Y 0, 3, .inl (fun _ => 0)))] H := hP
  have hD : va_D A [(q0, .inr (7, fl 12 (va_up g 4 (.ref q_1)))), (q_1, .inl (Y 0, 3, .inl (fun _ => 0)))] := hD
  refine lv_aload_n hx hb dX7_init_11 rfl (lv_at hl 0 rfl) ?_
  refine lv_iconst (v := 3) hx hb dX7_init_12 (by decide) ?_
  refine nA (atype := .int) (ty := .int) (a0 := (3, .inl (fun _ => 0))) (N' := 3) (cA0 := Y 0) F hK hP hD hS hA 0 rfl (fun _ h => h) m_114 rfl (fun _ => rfl) (by decide) (by decide) (Nat.le_of_ble_eq_true rfl) (Nat.le_of_ble_eq_true rfl) (Nat.le_of_ble_eq_true rfl) dX7_init_13 (fun q_2 H hP hD hS => ?_)
  have hP : va_P D vwCl [(q0, .inr (7, fl 12 (va_up g 4 (.ref q_1)))), (q_1, .inl (Y 0, 3, .inl (fun _ => 0))), (q_2, .inl (Y 0, 3, .inl (fun _ => 0)))] H := hP
  have hD : va_D A [(q0, .inr (7, fl 12 (va_up g 4 (.ref q_1)))), (q_1, .inl (Y 0, 3, .inl (fun _ => 0))), (q_2, .inl (Y 0, 3, .inl (fun _ => 0)))] := hD
  refine W.widen (k := 2) (n := 6) (Nat.le_of_ble_eq_true rfl) (Nat.le_of_ble_eq_true rfl) ?_
  refine pFF (C := RX8) (T := TX8) (ci := 7) F hin hK hP hD hS 0 rfl rfl iwX8 tyX8 tyX8_ok nmX8 5 (by decide) m_293 (fun _ h => h) rfl rfl rfl rfl dX7_init_15 (fun H locs hP hD hS => ?_)
  have hP : va_P D vwCl [(q0, .inr (7, fl 12 (va_up (va_up g 4 (.ref q_1)) 5 (.ref q_2)))), (q_1, .inl (Y 0, 3, .inl (fun _ => 0))), (q_2, .inl (Y 0, 3, .inl (fun _ => 0)))] H := hP
  have hD : va_D A [(q0, .inr (7, fl 12 (va_up (va_up g 4 (.ref q_1)) 5 (.ref q_2)))), (q_1, .inl (Y 0, 3, .inl (fun _ => 0))), (q_2, .inl (Y 0, 3, .inl (fun _ => 0)))] := hD
  refine lv_aload_n hx hb dX7_init_18 rfl (lv_at hl 0 rfl) ?_
  refine lv_aload_n hx hb dX7_init_19 rfl (lv_at hl 1 rfl) ?_
  refine pF (C := RX8) (T := TX8) (ci := 7) F hK hP hD hS 0 rfl rfl iwX8 tyX8 tyX8_ok nmX8 0 (by decide) m_294 (fun _ h => h) rfl rfl rfl dX7_init_20 (fun H locs hP hD hS => ?_)
  have hP : va_P D vwCl [(q0, .inr (7, fl 12 (va_up (va_up (va_up g 4 (.ref q_1)) 5 (.ref q_2)) 0 (.ref pr)))), (q_1, .inl (Y 0, 3, .inl (fun _ => 0))), (q_2, .inl (Y 0, 3, .inl (fun _ => 0)))] H := hP
  have hD : va_D A [(q0, .inr (7, fl 12 (va_up (va_up (va_up g 4 (.ref q_1)) 5 (.ref q_2)) 0 (.ref pr)))), (q_1, .inl (Y 0, 3, .inl (fun _ => 0))), (q_2, .inl (Y 0, 3, .inl (fun _ => 0)))] := hD
  refine lv_aload_n hx hb dX7_init_23 rfl (lv_at hl 0 rfl) ?_
  refine lv_aload_n hx hb dX7_init_24 rfl (lv_at hl 2 rfl) ?_
  refine pFF (C := RX8) (T := TX8) (ci := 7) F hin hK hP hD hS 0 rfl rfl iwX8 tyX8 tyX8_ok nmX8 1 (by decide) m_295 (fun _ h => h) rfl rfl rfl rfl dX7_init_25 (fun H locs hP hD hS => ?_)
  have hP : va_P D vwCl [(q0, .inr (7, fl 12 (va_up (va_up (va_up (va_up g 4 (.ref q_1)) 5 (.ref q_2)) 0 (.ref pr)) 1 (.ref pl)))), (q_1, .inl (Y 0, 3, .inl (fun _ => 0))), (q_2, .inl (Y 0, 3, .inl (fun _ => 0)))] H := hP
  have hD : va_D A [(q0, .inr (7, fl 12 (va_up (va_up (va_up (va_up g 4 (.ref q_1)) 5 (.ref q_2)) 0 (.ref pr)) 1 (.ref pl)))), (q_1, .inl (Y 0, 3, .inl (fun _ => 0))), (q_2, .inl (Y 0, 3, .inl (fun _ => 0)))] := hD
  refine lv_aload_n hx hb dX7_init_28 rfl (lv_at hl 0 rfl) ?_
  refine lv_aload_n hx hb dX7_init_29 rfl (lv_at hl 3 rfl) ?_
  refine pF (C := RX8) (T := TX8) (ci := 7) F hK hP hD hS 0 rfl rfl iwX8 tyX8 tyX8_ok nmX8 2 (by decide) m_296 (fun _ h => h) rfl rfl rfl dX7_init_30 (fun H locs hP hD hS => ?_)
  have hP : va_P D vwCl [(q0, .inr (7, fl 12 (va_up (va_up (va_up (va_up (va_up g 4 (.ref q_1)) 5 (.ref q_2)) 0 (.ref pr)) 1 (.ref pl)) 2 (.ref ba)))), (q_1, .inl (Y 0, 3, .inl (fun _ => 0))), (q_2, .inl (Y 0, 3, .inl (fun _ => 0)))] H := hP
  have hD : va_D A [(q0, .inr (7, fl 12 (va_up (va_up (va_up (va_up (va_up g 4 (.ref q_1)) 5 (.ref q_2)) 0 (.ref pr)) 1 (.ref pl)) 2 (.ref ba)))), (q_1, .inl (Y 0, 3, .inl (fun _ => 0))), (q_2, .inl (Y 0, 3, .inl (fun _ => 0)))] := hD
  exact retV F hr hlocks hP hD hS (va_up (va_up (va_up (va_up (va_up g 4 (.ref q_1)) 5 (.ref q_2)) 0 (.ref pr)) 1 (.ref pl)) 2 (.ref ba)) [0] rfl rfl (Nat.le_of_ble_eq_true rfl) (Nat.le_of_ble_eq_true rfl) dX7_init_33 trivial
set_option maxRecDepth 100000 in
set_option maxHeartbeats 4000000 in
theorem c_iF (l : Launch) (D : va_G) (Y : Nat → ClassId) (q0 : Nat) (pr : Nat) (pl : Nat) (ba : Nat) (g : Nat → Value)   : cM l D Y yX1_init cX1_init 4 none 2 2 6 [.ref q0, .ref pr, .ref pl, .ref ba] [(q0, .inr (1, fl 7 g))] (qV D (fun (u : Nat → Value) => True) (fun (u : Nat → Value) => [(q0, .inr (1, fl 7 u))])) := by
  refine cM.mk RX1 rfl (by decide) (Nat.le_of_ble_eq_true rfl) ?_
  intro p e s m below meth c A F hr hlocks hin hK hZ hP hD hA hS ls hl
  have hx := F.1
  have hb := F.2.1
  have hl : lv_has ls 4 [(0, .ref q0), (1, .ref pr), (2, .ref pl), (3, .ref ba)] := hl
  refine lv_aload_n hx hb dX1_init_0 rfl (lv_at hl 0 rfl) ?_
  refine lv_aload_n hx hb dX1_init_1 rfl (lv_at hl 1 rfl) ?_
  refine lv_aload_n hx hb dX1_init_2 rfl (lv_at hl 2 rfl) ?_
  refine lv_aload_n hx hb dX1_init_3 rfl (lv_at hl 3 rfl) ?_
  refine goV (wr := []) (runI (n := 3) (As := [.ref pr, .ref pl, .ref ba]) (rest := []) F hK hZ hP hD hS hA (c_iW_X1 l D Y q0 pr pl ba g  ) [0] rfl rfl m_300 m_299 m_298 m_297 rfl (by decide +kernel) rfl ⟨Nat.le_of_ble_eq_true rfl, Nat.le_of_ble_eq_true rfl⟩ hl.1 rfl (Nat.le_of_ble_eq_true rfl) dX1_init_4 ⟨Nat.le_of_ble_eq_true rfl, Nat.le_of_ble_eq_true rfl⟩) hP hD hS hA [0] [] rfl rfl rfl (by decide) (fun gn_1 H locs hw hP hD hS => ?_)
  have hP : va_P D vwCl [(q0, .inr (1, fl 7 gn_1))] H := hP
  have hD : va_D A [(q0, .inr (1, fl 7 gn_1))] := hD
  refine W.widen (k := 2) (n := 6) (Nat.le_of_ble_eq_true rfl) (Nat.le_of_ble_eq_true rfl) ?_
  exact retV F hr hlocks hP hD hS gn_1 [0] rfl rfl (Nat.le_of_ble_eq_true rfl) (Nat.le_of_ble_eq_true rfl) dX1_init_7 trivial
set_option maxRecDepth 100000 in
set_option maxHeartbeats 4000000 in
theorem c_iM (l : Launch) (D : va_G) (Y : Nat → ClassId) (mo : Nat) (pr : Nat) (gm : Nat → Value) (gm_0 : gm 0 = .int 0) (gm_1 : gm 1 = .int 0)  : cM l D Y yX2_init cX2_init 2 none 3 7 683 [.ref mo, .ref pr] [(mo, .inr (2, fl 7 gm))] (qV D (fun (u : (Nat) × (Nat) × (Nat) × (Nat) × (Nat) × (Nat → Value) × (Nat → Value)) => u.2.2.2.2.2.1 0 = .int 0 ∧ u.2.2.2.2.2.1 1 = .int 0 ∧ u.2.2.2.2.2.1 2 = .ref u.1 ∧ u.2.2.2.2.2.1 3 = .ref u.2.1 ∧ u.2.2.2.2.2.1 4 = .ref u.2.2.1 ∧ u.2.2.2.2.2.1 5 = .ref u.2.2.2.1 ∧ u.2.2.2.2.2.1 6 = .ref u.2.2.2.2.1) (fun (u : (Nat) × (Nat) × (Nat) × (Nat) × (Nat) × (Nat → Value) × (Nat → Value)) => [(mo, .inr (2, fl 7 u.2.2.2.2.2.1)), (u.1, .inl (Y 1, 10, .inr (.inl (fun _ => 0)))), (u.2.1, .inl (Y 1, 10, .inr (.inl (fun _ => 0)))), (u.2.2.2.1, .inl (Y 1, 10, .inr (.inl (fun _ => 0)))), (u.2.2.1, .inl (Y 0, 640, .inl (fun _ => 0))), (u.2.2.2.2.1, .inr (1, fl 7 u.2.2.2.2.2.2))])) := by
  refine cM.mk RX2 rfl (by decide) (Nat.le_of_ble_eq_true rfl) ?_
  intro p e s m below meth c A F hr hlocks hin hK hZ hP hD hA hS ls hl
  have hx := F.1
  have hb := F.2.1
  have hl : lv_has ls 2 [(0, .ref mo), (1, .ref pr)] := hl
  refine lv_aload_n hx hb dX2_init_0 rfl (lv_at hl 0 rfl) ?_
  refine oInit F m_301 m_111 m_112 hl.1 dX2_init_1 (Nat.le_of_ble_eq_true rfl) (Nat.le_of_ble_eq_true rfl) ?_
  refine lv_aload_n hx hb dX2_init_4 rfl (lv_at hl 0 rfl) ?_
  refine lv_bipush (v := 10) hx hb dX2_init_5 (by decide) ?_
  refine nA (atype := .long) (ty := .long) (a0 := (10, .inr (.inl (fun _ => 0)))) (N' := 10) (cA0 := Y 1) F hK hP hD hS hA 1 rfl (fun _ h => h) m_302 rfl (fun _ => rfl) (by decide) (by decide) (Nat.le_of_ble_eq_true rfl) (Nat.le_of_ble_eq_true rfl) (Nat.le_of_ble_eq_true rfl) dX2_init_7 (fun q_1 H hP hD hS => ?_)
  have hP : va_P D vwCl [(mo, .inr (2, fl 7 gm)), (q_1, .inl (Y 1, 10, .inr (.inl (fun _ => 0))))] H := hP
  have hD : va_D A [(mo, .inr (2, fl 7 gm)), (q_1, .inl (Y 1, 10, .inr (.inl (fun _ => 0))))] := hD
  refine W.widen (k := 1) (n := 10) (Nat.le_of_ble_eq_true rfl) (Nat.le_of_ble_eq_true rfl) ?_
  refine pFF (C := RX2) (T := TX2) (ci := 2) F hin hK hP hD hS 0 rfl rfl iwX2 tyX2 tyX2_ok nmX2 2 (by decide) m_50 (fun _ h => h) rfl rfl rfl rfl dX2_init_9 (fun H locs hP hD hS => ?_)
  have hP : va_P D vwCl [(mo, .inr (2, fl 7 (va_up gm 2 (.ref q_1)))), (q_1, .inl (Y 1, 10, .inr (.inl (fun _ => 0))))] H := hP
  have hD : va_D A [(mo, .inr (2, fl 7 (va_up gm 2 (.ref q_1)))), (q_1, .inl (Y 1, 10, .inr (.inl (fun _ => 0))))] := hD
  refine lv_aload_n hx hb dX2_init_12 rfl (lv_at hl 0 rfl) ?_
  refine lv_bipush (v := 10) hx hb dX2_init_13 (by decide) ?_
  refine nA (atype := .long) (ty := .long) (a0 := (10, .inr (.inl (fun _ => 0)))) (N' := 10) (cA0 := Y 1) F hK hP hD hS hA 1 rfl (fun _ h => h) m_302 rfl (fun _ => rfl) (by decide) (by decide) (Nat.le_of_ble_eq_true rfl) (Nat.le_of_ble_eq_true rfl) (Nat.le_of_ble_eq_true rfl) dX2_init_15 (fun q_2 H hP hD hS => ?_)
  have hP : va_P D vwCl [(mo, .inr (2, fl 7 (va_up gm 2 (.ref q_1)))), (q_1, .inl (Y 1, 10, .inr (.inl (fun _ => 0)))), (q_2, .inl (Y 1, 10, .inr (.inl (fun _ => 0))))] H := hP
  have hD : va_D A [(mo, .inr (2, fl 7 (va_up gm 2 (.ref q_1)))), (q_1, .inl (Y 1, 10, .inr (.inl (fun _ => 0)))), (q_2, .inl (Y 1, 10, .inr (.inl (fun _ => 0))))] := hD
  refine W.widen (k := 2) (n := 20) (Nat.le_of_ble_eq_true rfl) (Nat.le_of_ble_eq_true rfl) ?_
  refine pFF (C := RX2) (T := TX2) (ci := 2) F hin hK hP hD hS 0 rfl rfl iwX2 tyX2 tyX2_ok nmX2 3 (by decide) m_62 (fun _ h => h) rfl rfl rfl rfl dX2_init_17 (fun H locs hP hD hS => ?_)
  have hP : va_P D vwCl [(mo, .inr (2, fl 7 (va_up (va_up gm 2 (.ref q_1)) 3 (.ref q_2)))), (q_1, .inl (Y 1, 10, .inr (.inl (fun _ => 0)))), (q_2, .inl (Y 1, 10, .inr (.inl (fun _ => 0))))] H := hP
  have hD : va_D A [(mo, .inr (2, fl 7 (va_up (va_up gm 2 (.ref q_1)) 3 (.ref q_2)))), (q_1, .inl (Y 1, 10, .inr (.inl (fun _ => 0)))), (q_2, .inl (Y 1, 10, .inr (.inl (fun _ => 0))))] := hD
  refine lv_aload_n hx hb dX2_init_20 rfl (lv_at hl 0 rfl) ?_
  refine lv_sipush (v := 640) hx hb dX2_init_21 (by decide) ?_
  refine nA (atype := .int) (ty := .int) (a0 := (640, .inl (fun _ => 0))) (N' := 640) (cA0 := Y 0) F hK hP hD hS hA 0 rfl (fun _ h => h) m_114 rfl (fun _ => rfl) (by decide) (by decide) (Nat.le_of_ble_eq_true rfl) (Nat.le_of_ble_eq_true rfl) (Nat.le_of_ble_eq_true rfl) dX2_init_24 (fun q_3 H hP hD hS => ?_)
  have hP : va_P D vwCl [(mo, .inr (2, fl 7 (va_up (va_up gm 2 (.ref q_1)) 3 (.ref q_2)))), (q_1, .inl (Y 1, 10, .inr (.inl (fun _ => 0)))), (q_2, .inl (Y 1, 10, .inr (.inl (fun _ => 0)))), (q_3, .inl (Y 0, 640, .inl (fun _ => 0)))] H := hP
  have hD : va_D A [(mo, .inr (2, fl 7 (va_up (va_up gm 2 (.ref q_1)) 3 (.ref q_2)))), (q_1, .inl (Y 1, 10, .inr (.inl (fun _ => 0)))), (q_2, .inl (Y 1, 10, .inr (.inl (fun _ => 0)))), (q_3, .inl (Y 0, 640, .inl (fun _ => 0)))] := hD
  refine W.widen (k := 3) (n := 660) (Nat.le_of_ble_eq_true rfl) (Nat.le_of_ble_eq_true rfl) ?_
  refine pFF (C := RX2) (T := TX2) (ci := 2) F hin hK hP hD hS 0 rfl rfl iwX2 tyX2 tyX2_ok nmX2 4 (by decide) m_68 (fun _ h => h) rfl rfl rfl rfl dX2_init_26 (fun H locs hP hD hS => ?_)
  have hP : va_P D vwCl [(mo, .inr (2, fl 7 (va_up (va_up (va_up gm 2 (.ref q_1)) 3 (.ref q_2)) 4 (.ref q_3)))), (q_1, .inl (Y 1, 10, .inr (.inl (fun _ => 0)))), (q_2, .inl (Y 1, 10, .inr (.inl (fun _ => 0)))), (q_3, .inl (Y 0, 640, .inl (fun _ => 0)))] H := hP
  have hD : va_D A [(mo, .inr (2, fl 7 (va_up (va_up (va_up gm 2 (.ref q_1)) 3 (.ref q_2)) 4 (.ref q_3)))), (q_1, .inl (Y 1, 10, .inr (.inl (fun _ => 0)))), (q_2, .inl (Y 1, 10, .inr (.inl (fun _ => 0)))), (q_3, .inl (Y 0, 640, .inl (fun _ => 0)))] := hD
  refine lv_aload_n hx hb dX2_init_29 rfl (lv_at hl 0 rfl) ?_
  refine lv_bipush (v := 10) hx hb dX2_init_30 (by decide) ?_
  refine nA (atype := .long) (ty := .long) (a0 := (10, .inr (.inl (fun _ => 0)))) (N' := 10) (cA0 := Y 1) F hK hP hD hS hA 1 rfl (fun _ h => h) m_302 rfl (fun _ => rfl) (by decide) (by decide) (Nat.le_of_ble_eq_true rfl) (Nat.le_of_ble_eq_true rfl) (Nat.le_of_ble_eq_true rfl) dX2_init_32 (fun q_4 H hP hD hS => ?_)
  have hP : va_P D vwCl [(mo, .inr (2, fl 7 (va_up (va_up (va_up gm 2 (.ref q_1)) 3 (.ref q_2)) 4 (.ref q_3)))), (q_1, .inl (Y 1, 10, .inr (.inl (fun _ => 0)))), (q_2, .inl (Y 1, 10, .inr (.inl (fun _ => 0)))), (q_3, .inl (Y 0, 640, .inl (fun _ => 0))), (q_4, .inl (Y 1, 10, .inr (.inl (fun _ => 0))))] H := hP
  have hD : va_D A [(mo, .inr (2, fl 7 (va_up (va_up (va_up gm 2 (.ref q_1)) 3 (.ref q_2)) 4 (.ref q_3)))), (q_1, .inl (Y 1, 10, .inr (.inl (fun _ => 0)))), (q_2, .inl (Y 1, 10, .inr (.inl (fun _ => 0)))), (q_3, .inl (Y 0, 640, .inl (fun _ => 0))), (q_4, .inl (Y 1, 10, .inr (.inl (fun _ => 0))))] := hD
  refine W.widen (k := 4) (n := 670) (Nat.le_of_ble_eq_true rfl) (Nat.le_of_ble_eq_true rfl) ?_
  refine pFF (C := RX2) (T := TX2) (ci := 2) F hin hK hP hD hS 0 rfl rfl iwX2 tyX2 tyX2_ok nmX2 5 (by decide) m_51 (fun _ h => h) rfl rfl rfl rfl dX2_init_34 (fun H locs hP hD hS => ?_)
  have hP : va_P D vwCl [(mo, .inr (2, fl 7 (va_up (va_up (va_up (va_up gm 2 (.ref q_1)) 3 (.ref q_2)) 4 (.ref q_3)) 5 (.ref q_4)))), (q_1, .inl (Y 1, 10, .inr (.inl (fun _ => 0)))), (q_2, .inl (Y 1, 10, .inr (.inl (fun _ => 0)))), (q_3, .inl (Y 0, 640, .inl (fun _ => 0))), (q_4, .inl (Y 1, 10, .inr (.inl (fun _ => 0))))] H := hP
  have hD : va_D A [(mo, .inr (2, fl 7 (va_up (va_up (va_up (va_up gm 2 (.ref q_1)) 3 (.ref q_2)) 4 (.ref q_3)) 5 (.ref q_4)))), (q_1, .inl (Y 1, 10, .inr (.inl (fun _ => 0)))), (q_2, .inl (Y 1, 10, .inr (.inl (fun _ => 0)))), (q_3, .inl (Y 0, 640, .inl (fun _ => 0))), (q_4, .inl (Y 1, 10, .inr (.inl (fun _ => 0))))] := hD
  refine lv_aload_n hx hb dX2_init_37 rfl (lv_at hl 0 rfl) ?_
  refine nO (C := RX1) (T := TX1) (N := 7) (ci := 1) F hK hP hD hS hA rfl iwX1 tyX1 tyX1_ok m_303 m_304 m_58 (Nat.le_of_ble_eq_true rfl) (Nat.le_of_ble_eq_true rfl) dX2_init_38 (fun q_5 H hP hD hS => ?_)
  have hP : va_P D vwCl [(mo, .inr (2, fl 7 (va_up (va_up (va_up (va_up gm 2 (.ref q_1)) 3 (.ref q_2)) 4 (.ref q_3)) 5 (.ref q_4)))), (q_1, .inl (Y 1, 10, .inr (.inl (fun _ => 0)))), (q_2, .inl (Y 1, 10, .inr (.inl (fun _ => 0)))), (q_3, .inl (Y 0, 640, .inl (fun _ => 0))), (q_4, .inl (Y 1, 10, .inr (.inl (fun _ => 0)))), (q_5, .inr (1, fl 7 (fun k => defaultValue (tyX1 k))))] H := hP
  have hD : va_D A [(mo, .inr (2, fl 7 (va_up (va_up (va_up (va_up gm 2 (.ref q_1)) 3 (.ref q_2)) 4 (.ref q_3)) 5 (.ref q_4)))), (q_1, .inl (Y 1, 10, .inr (.inl (fun _ => 0)))), (q_2, .inl (Y 1, 10, .inr (.inl (fun _ => 0)))), (q_3, .inl (Y 0, 640, .inl (fun _ => 0))), (q_4, .inl (Y 1, 10, .inr (.inl (fun _ => 0)))), (q_5, .inr (1, fl 7 (fun k => defaultValue (tyX1 k))))] := hD
  refine W.widen (k := 5) (n := 677) (Nat.le_of_ble_eq_true rfl) (Nat.le_of_ble_eq_true rfl) ?_
  refine lv_dup hx hb dX2_init_41 rfl ?_
  refine lv_aload_n hx hb dX2_init_42 rfl (lv_at hl 1 rfl) ?_
  refine lv_aload_n hx hb dX2_init_43 rfl (lv_at hl 0 rfl) ?_
  refine gF (C := RX2) (T := TX2) (ci := 2) (v := .ref q_4) F hK hP 0 rfl rfl iwX2 5 (by decide) m_51 (fun _ h => h) rfl dX2_init_44 ?_
  refine lv_aload_n hx hb dX2_init_47 rfl (lv_at hl 0 rfl) ?_
  refine gF (C := RX2) (T := TX2) (ci := 2) (v := .ref q_1) F hK hP 0 rfl rfl iwX2 2 (by decide) m_50 (fun _ h => h) rfl dX2_init_48 ?_
  refine goV (wr := [(mo, .inr (2, fl 7 (va_up (va_up (va_up (va_up gm 2 (.ref q_1)) 3 (.ref q_2)) 4 (.ref q_3)) 5 (.ref q_4)))), (q_1, .inl (Y 1, 10, .inr (.inl (fun _ => 0)))), (q_2, .inl (Y 1, 10, .inr (.inl (fun _ => 0)))), (q_3, .inl (Y 0, 640, .inl (fun _ => 0))), (q_4, .inl (Y 1, 10, .inr (.inl (fun _ => 0))))]) (runI (n := 3) (As := [.ref pr, .ref q_4, .ref q_1]) (rest := [.ref q_5, .ref mo]) F hK hZ hP hD hS hA (c_iF l D Y q_5 pr q_4 q_1 (fun k => defaultValue (tyX1 k))  ) [5] rfl rfl m_307 m_306 m_58 m_305 rfl (by decide +kernel) rfl ⟨Nat.le_of_ble_eq_true rfl, Nat.le_of_ble_eq_true rfl⟩ hl.1 rfl (Nat.le_of_ble_eq_true rfl) dX2_init_51 ⟨Nat.le_of_ble_eq_true rfl, Nat.le_of_ble_eq_true rfl⟩) hP hD hS hA [5] [0, 1, 2, 3, 4] rfl rfl rfl (by decide) (fun gn_6 H locs hw hP hD hS => ?_)
  have hP : va_P D vwCl [(mo, .inr (2, fl 7 (va_up (va_up (va_up (va_up gm 2 (.ref q_1)) 3 (.ref q_2)) 4 (.ref q_3)) 5 (.ref q_4)))), (q_1, .inl (Y 1, 10, .inr (.inl (fun _ => 0)))), (q_2, .inl (Y 1, 10, .inr (.inl (fun _ => 0)))), (q_3, .inl (Y 0, 640, .inl (fun _ => 0))), (q_4, .inl (Y 1, 10, .inr (.inl (fun _ => 0)))), (q_5, .inr (1, fl 7 gn_6))] H := hP
  have hD : va_D A [(mo, .inr (2, fl 7 (va_up (va_up (va_up (va_up gm 2 (.ref q_1)) 3 (.ref q_2)) 4 (.ref q_3)) 5 (.ref q_4)))), (q_1, .inl (Y 1, 10, .inr (.inl (fun _ => 0)))), (q_2, .inl (Y 1, 10, .inr (.inl (fun _ => 0)))), (q_3, .inl (Y 0, 640, .inl (fun _ => 0))), (q_4, .inl (Y 1, 10, .inr (.inl (fun _ => 0)))), (q_5, .inr (1, fl 7 gn_6))] := hD
  refine W.widen (k := 7) (n := 683) (Nat.le_of_ble_eq_true rfl) (Nat.le_of_ble_eq_true rfl) ?_
  refine pFF (C := RX2) (T := TX2) (ci := 2) F hin hK hP hD hS 0 rfl rfl iwX2 tyX2 tyX2_ok nmX2 6 (by decide) m_56 (fun _ h => h) rfl rfl rfl rfl dX2_init_54 (fun H locs hP hD hS => ?_)
  have hP : va_P D vwCl [(mo, .inr (2, fl 7 (va_up (va_up (va_up (va_up (va_up gm 2 (.ref q_1)) 3 (.ref q_2)) 4 (.ref q_3)) 5 (.ref q_4)) 6 (.ref q_5)))), (q_1, .inl (Y 1, 10, .inr (.inl (fun _ => 0)))), (q_2, .inl (Y 1, 10, .inr (.inl (fun _ => 0)))), (q_3, .inl (Y 0, 640, .inl (fun _ => 0))), (q_4, .inl (Y 1, 10, .inr (.inl (fun _ => 0)))), (q_5, .inr (1, fl 7 gn_6))] H := hP
  have hD : va_D A [(mo, .inr (2, fl 7 (va_up (va_up (va_up (va_up (va_up gm 2 (.ref q_1)) 3 (.ref q_2)) 4 (.ref q_3)) 5 (.ref q_4)) 6 (.ref q_5)))), (q_1, .inl (Y 1, 10, .inr (.inl (fun _ => 0)))), (q_2, .inl (Y 1, 10, .inr (.inl (fun _ => 0)))), (q_3, .inl (Y 0, 640, .inl (fun _ => 0))), (q_4, .inl (Y 1, 10, .inr (.inl (fun _ => 0)))), (q_5, .inr (1, fl 7 gn_6))] := hD
  exact retV F hr hlocks hP hD hS (q_1, q_2, q_3, q_4, q_5, (va_up (va_up (va_up (va_up (va_up gm 2 (.ref q_1)) 3 (.ref q_2)) 4 (.ref q_3)) 5 (.ref q_4)) 6 (.ref q_5)), gn_6) [0, 1, 2, 4, 3, 5] rfl rfl (Nat.le_of_ble_eq_true rfl) (Nat.le_of_ble_eq_true rfl) dX2_init_57 ⟨gm_0, gm_1, rfl, rfl, rfl, rfl, rfl⟩
set_option maxRecDepth 100000 in
set_option maxHeartbeats 4000000 in
theorem c_iWe (l : Launch) (D : va_G) (Y : Nat → ClassId) (we : Nat) (pr : Nat) (mo : Nat) (tr : Nat) (po : Nat) (gw : Nat → Value) (gm : Nat → Value) (gm_2 : gm 2 = .ref tr) (gm_3 : gm 3 = .ref po)  : cM l D Y yX8_init cX8_init 3 none 2 3 12 [.ref we, .ref pr, .ref mo] [(we, .inr (7, fl 12 gw)), (mo, .inr (2, fl 7 gm))] (qV D (fun (u : Unit) => True) (fun (u : Unit) => [(mo, .inr (2, fl 7 gm))])) := by
  refine cM.mk RX8 rfl (by decide) (Nat.le_of_ble_eq_true rfl) ?_
  intro p e s m below meth c A F hr hlocks hin hK hZ hP hD hA hS ls hl
  have hx := F.1
  have hb := F.2.1
  have hl : lv_has ls 3 [(0, .ref we), (1, .ref pr), (2, .ref mo)] := hl
  refine lv_aload_n hx hb dX8_init_0 rfl (lv_at hl 0 rfl) ?_
  refine lv_aload_n hx hb dX8_init_1 rfl (lv_at hl 1 rfl) ?_
  refine lv_aload_n hx hb dX8_init_2 rfl (lv_at hl 2 rfl) ?_
  refine gF (C := RX2) (T := TX2) (ci := 2) (v := .ref po) F hK hP 1 rfl rfl iwX2 3 (by decide) m_308 (fun _ h => h) gm_3 dX8_init_3 ?_
  refine lv_aload_n hx hb dX8_init_6 rfl (lv_at hl 2 rfl) ?_
  refine gF (C := RX2) (T := TX2) (ci := 2) (v := .ref tr) F hK hP 1 rfl rfl iwX2 2 (by decide) m_309 (fun _ h => h) gm_2 dX8_init_7 ?_
  refine goV (wr := [(mo, .inr (2, fl 7 gm))]) (runI (n := 3) (As := [.ref pr, .ref po, .ref tr]) (rest := []) F hK hZ hP hD hS hA (c_iW_X8 l D Y we pr po tr gw  ) [0] rfl rfl m_310 m_299 m_298 m_297 rfl (by decide +kernel) rfl ⟨Nat.le_of_ble_eq_true rfl, Nat.le_of_ble_eq_true rfl⟩ hl.1 rfl (Nat.le_of_ble_eq_true rfl) dX8_init_10 ⟨Nat.le_of_ble_eq_true rfl, Nat.le_of_ble_eq_true rfl⟩) hP hD hS hA [0] [1] rfl rfl rfl (by decide) (fun gn_1 H locs hw hP hD hS => ?_)
  have hP : va_P D vwCl [(mo, .inr (2, fl 7 gm)), (we, .inr (7, fl 12 gn_1))] H := hP
  have hD : va_D A [(mo, .inr (2, fl 7 gm)), (we, .inr (7, fl 12 gn_1))] := hD
  refine W.widen (k := 2) (n := 6) (Nat.le_of_ble_eq_true rfl) (Nat.le_of_ble_eq_true rfl) ?_
  refine lv_aload_n hx hb dX8_init_13 rfl (lv_at hl 0 rfl) ?_
  refine lv_bipush (v := 6) hx hb dX8_init_14 (by decide) ?_
  refine nA (atype := .int) (ty := .int) (a0 := (6, .inl (fun _ => 0))) (N' := 6) (cA0 := Y 0) F hK hP hD hS hA 0 rfl (fun _ h => h) m_114 rfl (fun _ => rfl) (by decide) (by decide) (Nat.le_of_ble_eq_true rfl) (Nat.le_of_ble_eq_true rfl) (Nat.le_of_ble_eq_true rfl) dX8_init_16 (fun q_3 H hP hD hS => ?_)
  have hP : va_P D vwCl [(mo, .inr (2, fl 7 gm)), (we, .inr (7, fl 12 gn_1)), (q_3, .inl (Y 0, 6, .inl (fun _ => 0)))] H := hP
  have hD : va_D A [(mo, .inr (2, fl 7 gm)), (we, .inr (7, fl 12 gn_1)), (q_3, .inl (Y 0, 6, .inl (fun _ => 0)))] := hD
  refine W.widen (k := 3) (n := 12) (Nat.le_of_ble_eq_true rfl) (Nat.le_of_ble_eq_true rfl) ?_
  refine pFF (C := RX8) (T := TX8) (ci := 7) F hin hK hP hD hS 1 rfl rfl iwX8 tyX8 tyX8_ok nmX8 9 (by decide) m_311 (fun _ h => h) rfl rfl rfl rfl dX8_init_18 (fun H locs hP hD hS => ?_)
  have hP : va_P D vwCl [(mo, .inr (2, fl 7 gm)), (we, .inr (7, fl 12 (va_up gn_1 9 (.ref q_3)))), (q_3, .inl (Y 0, 6, .inl (fun _ => 0)))] H := hP
  have hD : va_D A [(mo, .inr (2, fl 7 gm)), (we, .inr (7, fl 12 (va_up gn_1 9 (.ref q_3)))), (q_3, .inl (Y 0, 6, .inl (fun _ => 0)))] := hD
  refine lv_aload_n hx hb dX8_init_21 rfl (lv_at hl 0 rfl) ?_
  refine lv_aload_n hx hb dX8_init_22 rfl (lv_at hl 2 rfl) ?_
  refine pFF (C := RX8) (T := TX8) (ci := 7) F hin hK hP hD hS 1 rfl rfl iwX8 tyX8 tyX8_ok nmX8 11 (by decide) m_312 (fun _ h => h) rfl rfl rfl rfl dX8_init_23 (fun H locs hP hD hS => ?_)
  have hP : va_P D vwCl [(mo, .inr (2, fl 7 gm)), (we, .inr (7, fl 12 (va_up (va_up gn_1 9 (.ref q_3)) 11 (.ref mo)))), (q_3, .inl (Y 0, 6, .inl (fun _ => 0)))] H := hP
  have hD : va_D A [(mo, .inr (2, fl 7 gm)), (we, .inr (7, fl 12 (va_up (va_up gn_1 9 (.ref q_3)) 11 (.ref mo)))), (q_3, .inl (Y 0, 6, .inl (fun _ => 0)))] := hD
  exact retV F hr hlocks hP hD hS () [0] rfl rfl (Nat.le_of_ble_eq_true rfl) (Nat.le_of_ble_eq_true rfl) dX8_init_26 trivial
set_option maxRecDepth 100000 in
set_option maxHeartbeats 4000000 in
theorem c_iCa (l : Launch) (D : va_G) (Y : Nat → ClassId) (ca : Nat) (pr : Nat) (mo : Nat) (tr : Nat) (po : Nat) (gw : Nat → Value) (gm : Nat → Value) (gm_2 : gm 2 = .ref tr) (gm_3 : gm 3 = .ref po)  : cM l D Y yX0_init cX0_init 3 none 2 4 1826 [.ref ca, .ref pr, .ref mo] [(ca, .inr (0, fl 9 gw)), (mo, .inr (2, fl 7 gm))] (qV D (fun (u : Unit) => True) (fun (u : Unit) => [(mo, .inr (2, fl 7 gm))])) := by
  refine cM.mk RX0 rfl (by decide) (Nat.le_of_ble_eq_true rfl) ?_
  intro p e s m below meth c A F hr hlocks hin hK hZ hP hD hA hS ls hl
  have hx := F.1
  have hb := F.2.1
  have hl : lv_has ls 3 [(0, .ref ca), (1, .ref pr), (2, .ref mo)] := hl
  refine lv_aload_n hx hb dX0_init_0 rfl (lv_at hl 0 rfl) ?_
  refine lv_aload_n hx hb dX0_init_1 rfl (lv_at hl 1 rfl) ?_
  refine lv_aload_n hx hb dX0_init_2 rfl (lv_at hl 2 rfl) ?_
  refine gF (C := RX2) (T := TX2) (ci := 2) (v := .ref po) F hK hP 1 rfl rfl iwX2 3 (by decide) m_313 (fun _ h => h) gm_3 dX0_init_3 ?_
  refine lv_aload_n hx hb dX0_init_6 rfl (lv_at hl 2 rfl) ?_
  refine gF (C := RX2) (T := TX2) (ci := 2) (v := .ref tr) F hK hP 1 rfl rfl iwX2 2 (by decide) m_314 (fun _ h => h) gm_2 dX0_init_7 ?_
  refine goV (wr := [(mo, .inr (2, fl 7 gm))]) (runI (n := 3) (As := [.ref pr, .ref po, .ref tr]) (rest := []) F hK hZ hP hD hS hA (c_iW_X0 l D Y ca pr po tr gw  ) [0] rfl rfl m_315 m_299 m_298 m_297 rfl (by decide +kernel) rfl ⟨Nat.le_of_ble_eq_true rfl, Nat.le_of_ble_eq_true rfl⟩ hl.1 rfl (Nat.le_of_ble_eq_true rfl) dX0_init_10 ⟨Nat.le_of_ble_eq_true rfl, Nat.le_of_ble_eq_true rfl⟩) hP hD hS hA [0] [1] rfl rfl rfl (by decide) (fun gn_1 H locs hw hP hD hS => ?_)
  have hP : va_P D vwCl [(mo, .inr (2, fl 7 gm)), (ca, .inr (0, fl 9 gn_1))] H := hP
  have hD : va_D A [(mo, .inr (2, fl 7 gm)), (ca, .inr (0, fl 9 gn_1))] := hD
  refine W.widen (k := 2) (n := 6) (Nat.le_of_ble_eq_true rfl) (Nat.le_of_ble_eq_true rfl) ?_
  refine lv_aload_n hx hb dX0_init_13 rfl (lv_at hl 0 rfl) ?_
  refine lv_sipush (v := 820) hx hb dX0_init_14 (by decide) ?_
  refine nA (atype := .int) (ty := .int) (a0 := (820, .inl (fun _ => 0))) (N' := 820) (cA0 := Y 0) F hK hP hD hS hA 0 rfl (fun _ h => h) m_114 rfl (fun _ => rfl) (by decide) (by decide) (Nat.le_of_ble_eq_true rfl) (Nat.le_of_ble_eq_true rfl) (Nat.le_of_ble_eq_true rfl) dX0_init_17 (fun q_3 H hP hD hS => ?_)
  have hP : va_P D vwCl [(mo, .inr (2, fl 7 gm)), (ca, .inr (0, fl 9 gn_1)), (q_3, .inl (Y 0, 820, .inl (fun _ => 0)))] H := hP
  have hD : va_D A [(mo, .inr (2, fl 7 gm)), (ca, .inr (0, fl 9 gn_1)), (q_3, .inl (Y 0, 820, .inl (fun _ => 0)))] := hD
  refine W.widen (k := 3) (n := 826) (Nat.le_of_ble_eq_true rfl) (Nat.le_of_ble_eq_true rfl) ?_
  refine pFF (C := RX0) (T := TX0) (ci := 0) F hin hK hP hD hS 1 rfl rfl iwX0 tyX0 tyX0_ok nmX0 7 (by decide) m_316 (fun _ h => h) rfl rfl rfl rfl dX0_init_19 (fun H locs hP hD hS => ?_)
  have hP : va_P D vwCl [(mo, .inr (2, fl 7 gm)), (ca, .inr (0, fl 9 (va_up gn_1 7 (.ref q_3)))), (q_3, .inl (Y 0, 820, .inl (fun _ => 0)))] H := hP
  have hD : va_D A [(mo, .inr (2, fl 7 gm)), (ca, .inr (0, fl 9 (va_up gn_1 7 (.ref q_3)))), (q_3, .inl (Y 0, 820, .inl (fun _ => 0)))] := hD
  refine lv_aload_n hx hb dX0_init_22 rfl (lv_at hl 0 rfl) ?_
  refine lv_sipush (v := 1000) hx hb dX0_init_23 (by decide) ?_
  refine nA (atype := .int) (ty := .int) (a0 := (1000, .inl (fun _ => 0))) (N' := 1000) (cA0 := Y 0) F hK hP hD hS hA 0 rfl (fun _ h => h) m_114 rfl (fun _ => rfl) (by decide) (by decide) (Nat.le_of_ble_eq_true rfl) (Nat.le_of_ble_eq_true rfl) (Nat.le_of_ble_eq_true rfl) dX0_init_26 (fun q_4 H hP hD hS => ?_)
  have hP : va_P D vwCl [(mo, .inr (2, fl 7 gm)), (ca, .inr (0, fl 9 (va_up gn_1 7 (.ref q_3)))), (q_3, .inl (Y 0, 820, .inl (fun _ => 0))), (q_4, .inl (Y 0, 1000, .inl (fun _ => 0)))] H := hP
  have hD : va_D A [(mo, .inr (2, fl 7 gm)), (ca, .inr (0, fl 9 (va_up gn_1 7 (.ref q_3)))), (q_3, .inl (Y 0, 820, .inl (fun _ => 0))), (q_4, .inl (Y 0, 1000, .inl (fun _ => 0)))] := hD
  refine W.widen (k := 4) (n := 1826) (Nat.le_of_ble_eq_true rfl) (Nat.le_of_ble_eq_true rfl) ?_
  refine pFF (C := RX0) (T := TX0) (ci := 0) F hin hK hP hD hS 1 rfl rfl iwX0 tyX0 tyX0_ok nmX0 8 (by decide) m_317 (fun _ h => h) rfl rfl rfl rfl dX0_init_28 (fun H locs hP hD hS => ?_)
  have hP : va_P D vwCl [(mo, .inr (2, fl 7 gm)), (ca, .inr (0, fl 9 (va_up (va_up gn_1 7 (.ref q_3)) 8 (.ref q_4)))), (q_3, .inl (Y 0, 820, .inl (fun _ => 0))), (q_4, .inl (Y 0, 1000, .inl (fun _ => 0)))] H := hP
  have hD : va_D A [(mo, .inr (2, fl 7 gm)), (ca, .inr (0, fl 9 (va_up (va_up gn_1 7 (.ref q_3)) 8 (.ref q_4)))), (q_3, .inl (Y 0, 820, .inl (fun _ => 0))), (q_4, .inl (Y 0, 1000, .inl (fun _ => 0)))] := hD
  exact retV F hr hlocks hP hD hS () [0] rfl rfl (Nat.le_of_ble_eq_true rfl) (Nat.le_of_ble_eq_true rfl) dX0_init_31 trivial
set_option maxRecDepth 100000 in
set_option maxHeartbeats 4000000 in
theorem c_iT (l : Launch) (D : va_G) (Y : Nat → ClassId) (ta : Nat) (pr : Nat) (mo : Nat) (tr : Nat) (po : Nat) (gt : Nat → Value) (gm : Nat → Value) (gt_0 : gt 0 = .int 0) (gt_1 : gt 1 = .int 0) (gt_2 : gt 2 = .int 0) (gt_3 : gt 3 = .int 0) (gm_2 : gm 2 = .ref tr) (gm_3 : gm 3 = .ref po)  : cM l D Y yX6_init cX6_init 3 none 3 10 6295 [.ref ta, .ref pr, .ref mo] [(ta, .inr (6, fl 14 gt)), (mo, .inr (2, fl 7 gm))] (qV D (fun (u : (Nat) × (Nat → Value) × (Nat → Int32)) => u.2.1 0 = .int 0 ∧ u.2.1 1 = .int 0 ∧ u.2.1 2 = .int 0 ∧ u.2.1 3 = .int 0 ∧ u.2.1 5 = .ref u.1) (fun (u : (Nat) × (Nat → Value) × (Nat → Int32)) => [(ta, .inr (6, fl 14 u.2.1)), (u.1, .inl (Y 0, 1000, .inl u.2.2)), (mo, .inr (2, fl 7 gm))])) := by
  refine cM.mk RX6 rfl (by decide) (Nat.le_of_ble_eq_true rfl) ?_
  intro p e s m below meth c A F hr hlocks hin hK hZ hP hD hA hS ls hl
  have hx := F.1
  have hb := F.2.1
  have hl : lv_has ls 3 [(0, .ref ta), (1, .ref pr), (2, .ref mo)] := hl
  refine lv_aload_n hx hb dX6_init_0 rfl (lv_at hl 0 rfl) ?_
  refine oInit F m_318 m_111 m_112 hl.1 dX6_init_1 (Nat.le_of_ble_eq_true rfl) (Nat.le_of_ble_eq_true rfl) ?_
  refine lv_aload_n hx hb dX6_init_4 rfl (lv_at hl 0 rfl) ?_
  refine lv_sipush (v := 820) hx hb dX6_init_5 (by decide) ?_
  refine nA (atype := .int) (ty := .int) (a0 := (820, .inl (fun _ => 0))) (N' := 820) (cA0 := Y 0) F hK hP hD hS hA 0 rfl (fun _ h => h) m_114 rfl (fun _ => rfl) (by decide) (by decide) (Nat.le_of_ble_eq_true rfl) (Nat.le_of_ble_eq_true rfl) (Nat.le_of_ble_eq_true rfl) dX6_init_8 (fun q_1 H hP hD hS => ?_)
  have hP : va_P D vwCl [(ta, .inr (6, fl 14 gt)), (mo, .inr (2, fl 7 gm)), (q_1, .inl (Y 0, 820, .inl (fun _ => 0)))] H := hP
  have hD : va_D A [(ta, .inr (6, fl 14 gt)), (mo, .inr (2, fl 7 gm)), (q_1, .inl (Y 0, 820, .inl (fun _ => 0)))] := hD
  refine W.widen (k := 1) (n := 820) (Nat.le_of_ble_eq_true rfl) (Nat.le_of_ble_eq_true rfl) ?_
  refine pFF (C := RX6) (T := TX6) (ci := 6) F hin hK hP hD hS 0 rfl rfl iwX6 tyX6 tyX6_ok nmX6 4 (by decide) m_319 (fun _ h => h) rfl rfl rfl rfl dX6_init_10 (fun H locs hP hD hS => ?_)
  have hP : va_P D vwCl [(ta, .inr (6, fl 14 (va_up gt 4 (.ref q_1)))), (mo, .inr (2, fl 7 gm)), (q_1, .inl (Y 0, 820, .inl (fun _ => 0)))] H := hP
  have hD : va_D A [(ta, .inr (6, fl 14 (va_up gt 4 (.ref q_1)))), (mo, .inr (2, fl 7 gm)), (q_1, .inl (Y 0, 820, .inl (fun _ => 0)))] := hD
  refine lv_aload_n hx hb dX6_init_13 rfl (lv_at hl 0 rfl) ?_
  refine lv_sipush (v := 1000) hx hb dX6_init_14 (by decide) ?_
  refine nA (atype := .int) (ty := .int) (a0 := (1000, .inl (fun _ => 0))) (N' := 1000) (cA0 := Y 0) F hK hP hD hS hA 0 rfl (fun _ h => h) m_114 rfl (fun _ => rfl) (by decide) (by decide) (Nat.le_of_ble_eq_true rfl) (Nat.le_of_ble_eq_true rfl) (Nat.le_of_ble_eq_true rfl) dX6_init_17 (fun q_2 H hP hD hS => ?_)
  have hP : va_P D vwCl [(ta, .inr (6, fl 14 (va_up gt 4 (.ref q_1)))), (mo, .inr (2, fl 7 gm)), (q_1, .inl (Y 0, 820, .inl (fun _ => 0))), (q_2, .inl (Y 0, 1000, .inl (fun _ => 0)))] H := hP
  have hD : va_D A [(ta, .inr (6, fl 14 (va_up gt 4 (.ref q_1)))), (mo, .inr (2, fl 7 gm)), (q_1, .inl (Y 0, 820, .inl (fun _ => 0))), (q_2, .inl (Y 0, 1000, .inl (fun _ => 0)))] := hD
  refine W.widen (k := 2) (n := 1820) (Nat.le_of_ble_eq_true rfl) (Nat.le_of_ble_eq_true rfl) ?_
  refine pFF (C := RX6) (T := TX6) (ci := 6) F hin hK hP hD hS 0 rfl rfl iwX6 tyX6 tyX6_ok nmX6 5 (by decide) m_98 (fun _ h => h) rfl rfl rfl rfl dX6_init_19 (fun H locs hP hD hS => ?_)
  have hP : va_P D vwCl [(ta, .inr (6, fl 14 (va_up (va_up gt 4 (.ref q_1)) 5 (.ref q_2)))), (mo, .inr (2, fl 7 gm)), (q_1, .inl (Y 0, 820, .inl (fun _ => 0))), (q_2, .inl (Y 0, 1000, .inl (fun _ => 0)))] H := hP
  have hD : va_D A [(ta, .inr (6, fl 14 (va_up (va_up gt 4 (.ref q_1)) 5 (.ref q_2)))), (mo, .inr (2, fl 7 gm)), (q_1, .inl (Y 0, 820, .inl (fun _ => 0))), (q_2, .inl (Y 0, 1000, .inl (fun _ => 0)))] := hD
  refine lv_aload_n hx hb dX6_init_22 rfl (lv_at hl 0 rfl) ?_
  refine lv_sipush (v := 820) hx hb dX6_init_23 (by decide) ?_
  refine va_newq (N' := 820) hx hb F.2.2.2.1 (F.2.2.2.2 _ m_320) hK.2.2.2.2.1 hK.1 hP hD hS hA (by decide) (by decide) (Nat.le_of_ble_eq_true rfl) (Nat.le_of_ble_eq_true rfl) (Nat.le_of_ble_eq_true rfl) dX6_init_26 (fun q_3 cA_q_3 H _ hP hD hS => ?_)
  obtain ⟨hP, hD⟩ := dropW (wr := [(ta, .inr (6, fl 14 (va_up (va_up gt 4 (.ref q_1)) 5 (.ref q_2)))), (mo, .inr (2, fl 7 gm)), (q_1, .inl (Y 0, 820, .inl (fun _ => 0))), (q_2, .inl (Y 0, 1000, .inl (fun _ => 0)))]) hP hD [0, 1, 2, 3] rfl rfl
  refine W.widen (k := 3) (n := 2640) (Nat.le_of_ble_eq_true rfl) (Nat.le_of_ble_eq_true rfl) ?_
  refine pFF (C := RX6) (T := TX6) (ci := 6) F hin hK hP hD hS 0 rfl rfl iwX6 tyX6 tyX6_ok nmX6 6 (by decide) m_321 (fun _ h => h) rfl rfl rfl rfl dX6_init_29 (fun H locs hP hD hS => ?_)
  have hP : va_P D vwCl [(ta, .inr (6, fl 14 (va_up (va_up (va_up gt 4 (.ref q_1)) 5 (.ref q_2)) 6 (.ref q_3)))), (mo, .inr (2, fl 7 gm)), (q_1, .inl (Y 0, 820, .inl (fun _ => 0))), (q_2, .inl (Y 0, 1000, .inl (fun _ => 0)))] H := hP
  have hD : va_D A [(ta, .inr (6, fl 14 (va_up (va_up (va_up gt 4 (.ref q_1)) 5 (.ref q_2)) 6 (.ref q_3)))), (mo, .inr (2, fl 7 gm)), (q_1, .inl (Y 0, 820, .inl (fun _ => 0))), (q_2, .inl (Y 0, 1000, .inl (fun _ => 0)))] := hD
  refine lv_aload_n hx hb dX6_init_32 rfl (lv_at hl 0 rfl) ?_
  refine lv_sipush (v := 820) hx hb dX6_init_33 (by decide) ?_
  refine nA (atype := .int) (ty := .int) (a0 := (820, .inl (fun _ => 0))) (N' := 820) (cA0 := Y 0) F hK hP hD hS hA 0 rfl (fun _ h => h) m_114 rfl (fun _ => rfl) (by decide) (by decide) (Nat.le_of_ble_eq_true rfl) (Nat.le_of_ble_eq_true rfl) (Nat.le_of_ble_eq_true rfl) dX6_init_36 (fun q_4 H hP hD hS => ?_)
  have hP : va_P D vwCl [(ta, .inr (6, fl 14 (va_up (va_up (va_up gt 4 (.ref q_1)) 5 (.ref q_2)) 6 (.ref q_3)))), (mo, .inr (2, fl 7 gm)), (q_1, .inl (Y 0, 820, .inl (fun _ => 0))), (q_2, .inl (Y 0, 1000, .inl (fun _ => 0))), (q_4, .inl (Y 0, 820, .inl (fun _ => 0)))] H := hP
  have hD : va_D A [(ta, .inr (6, fl 14 (va_up (va_up (va_up gt 4 (.ref q_1)) 5 (.ref q_2)) 6 (.ref q_3)))), (mo, .inr (2, fl 7 gm)), (q_1, .inl (Y 0, 820, .inl (fun _ => 0))), (q_2, .inl (Y 0, 1000, .inl (fun _ => 0))), (q_4, .inl (Y 0, 820, .inl (fun _ => 0)))] := hD
  refine W.widen (k := 4) (n := 3460) (Nat.le_of_ble_eq_true rfl) (Nat.le_of_ble_eq_true rfl) ?_
  refine pFF (C := RX6) (T := TX6) (ci := 6) F hin hK hP hD hS 0 rfl rfl iwX6 tyX6 tyX6_ok nmX6 9 (by decide) m_322 (fun _ h => h) rfl rfl rfl rfl dX6_init_38 (fun H locs hP hD hS => ?_)
  have hP : va_P D vwCl [(ta, .inr (6, fl 14 (va_up (va_up (va_up (va_up gt 4 (.ref q_1)) 5 (.ref q_2)) 6 (.ref q_3)) 9 (.ref q_4)))), (mo, .inr (2, fl 7 gm)), (q_1, .inl (Y 0, 820, .inl (fun _ => 0))), (q_2, .inl (Y 0, 1000, .inl (fun _ => 0))), (q_4, .inl (Y 0, 820, .inl (fun _ => 0)))] H := hP
  have hD : va_D A [(ta, .inr (6, fl 14 (va_up (va_up (va_up (va_up gt 4 (.ref q_1)) 5 (.ref q_2)) 6 (.ref q_3)) 9 (.ref q_4)))), (mo, .inr (2, fl 7 gm)), (q_1, .inl (Y 0, 820, .inl (fun _ => 0))), (q_2, .inl (Y 0, 1000, .inl (fun _ => 0))), (q_4, .inl (Y 0, 820, .inl (fun _ => 0)))] := hD
  refine lv_aload_n hx hb dX6_init_41 rfl (lv_at hl 0 rfl) ?_
  refine lv_sipush (v := 1000) hx hb dX6_init_42 (by decide) ?_
  refine nA (atype := .boolean) (ty := .boolean) (a0 := (1000, .inl (fun _ => 0))) (N' := 1000) (cA0 := Y 2) F hK hP hD hS hA 2 rfl (fun _ h => h) m_323 rfl (fun _ => rfl) (by decide) (by decide) (Nat.le_of_ble_eq_true rfl) (Nat.le_of_ble_eq_true rfl) (Nat.le_of_ble_eq_true rfl) dX6_init_45 (fun q_5 H hP hD hS => ?_)
  have hP : va_P D vwCl [(ta, .inr (6, fl 14 (va_up (va_up (va_up (va_up gt 4 (.ref q_1)) 5 (.ref q_2)) 6 (.ref q_3)) 9 (.ref q_4)))), (mo, .inr (2, fl 7 gm)), (q_1, .inl (Y 0, 820, .inl (fun _ => 0))), (q_2, .inl (Y 0, 1000, .inl (fun _ => 0))), (q_4, .inl (Y 0, 820, .inl (fun _ => 0))), (q_5, .inl (Y 2, 1000, .inl (fun _ => 0)))] H := hP
  have hD : va_D A [(ta, .inr (6, fl 14 (va_up (va_up (va_up (va_up gt 4 (.ref q_1)) 5 (.ref q_2)) 6 (.ref q_3)) 9 (.ref q_4)))), (mo, .inr (2, fl 7 gm)), (q_1, .inl (Y 0, 820, .inl (fun _ => 0))), (q_2, .inl (Y 0, 1000, .inl (fun _ => 0))), (q_4, .inl (Y 0, 820, .inl (fun _ => 0))), (q_5, .inl (Y 2, 1000, .inl (fun _ => 0)))] := hD
  refine W.widen (k := 5) (n := 4460) (Nat.le_of_ble_eq_true rfl) (Nat.le_of_ble_eq_true rfl) ?_
  refine pFF (C := RX6) (T := TX6) (ci := 6) F hin hK hP hD hS 0 rfl rfl iwX6 tyX6 tyX6_ok nmX6 10 (by decide) m_324 (fun _ h => h) rfl rfl rfl rfl dX6_init_47 (fun H locs hP hD hS => ?_)
  have hP : va_P D vwCl [(ta, .inr (6, fl 14 (va_up (va_up (va_up (va_up (va_up gt 4 (.ref q_1)) 5 (.ref q_2)) 6 (.ref q_3)) 9 (.ref q_4)) 10 (.ref q_5)))), (mo, .inr (2, fl 7 gm)), (q_1, .inl (Y 0, 820, .inl (fun _ => 0))), (q_2, .inl (Y 0, 1000, .inl (fun _ => 0))), (q_4, .inl (Y 0, 820, .inl (fun _ => 0))), (q_5, .inl (Y 2, 1000, .inl (fun _ => 0)))] H := hP
  have hD : va_D A [(ta, .inr (6, fl 14 (va_up (va_up (va_up (va_up (va_up gt 4 (.ref q_1)) 5 (.ref q_2)) 6 (.ref q_3)) 9 (.ref q_4)) 10 (.ref q_5)))), (mo, .inr (2, fl 7 gm)), (q_1, .inl (Y 0, 820, .inl (fun _ => 0))), (q_2, .inl (Y 0, 1000, .inl (fun _ => 0))), (q_4, .inl (Y 0, 820, .inl (fun _ => 0))), (q_5, .inl (Y 2, 1000, .inl (fun _ => 0)))] := hD
  refine lv_aload_n hx hb dX6_init_50 rfl (lv_at hl 0 rfl) ?_
  refine lv_aload_n hx hb dX6_init_51 rfl (lv_at hl 2 rfl) ?_
  refine pFF (C := RX6) (T := TX6) (ci := 6) F hin hK hP hD hS 0 rfl rfl iwX6 tyX6 tyX6_ok nmX6 7 (by decide) m_325 (fun _ h => h) rfl rfl rfl rfl dX6_init_52 (fun H locs hP hD hS => ?_)
  have hP : va_P D vwCl [(ta, .inr (6, fl 14 (va_up (va_up (va_up (va_up (va_up (va_up gt 4 (.ref q_1)) 5 (.ref q_2)) 6 (.ref q_3)) 9 (.ref q_4)) 10 (.ref q_5)) 7 (.ref mo)))), (mo, .inr (2, fl 7 gm)), (q_1, .inl (Y 0, 820, .inl (fun _ => 0))), (q_2, .inl (Y 0, 1000, .inl (fun _ => 0))), (q_4, .inl (Y 0, 820, .inl (fun _ => 0))), (q_5, .inl (Y 2, 1000, .inl (fun _ => 0)))] H := hP
  have hD : va_D A [(ta, .inr (6, fl 14 (va_up (va_up (va_up (va_up (va_up (va_up gt 4 (.ref q_1)) 5 (.ref q_2)) 6 (.ref q_3)) 9 (.ref q_4)) 10 (.ref q_5)) 7 (.ref mo)))), (mo, .inr (2, fl 7 gm)), (q_1, .inl (Y 0, 820, .inl (fun _ => 0))), (q_2, .inl (Y 0, 1000, .inl (fun _ => 0))), (q_4, .inl (Y 0, 820, .inl (fun _ => 0))), (q_5, .inl (Y 2, 1000, .inl (fun _ => 0)))] := hD
  refine lv_aload_n hx hb dX6_init_55 rfl (lv_at hl 0 rfl) ?_
  refine nO (C := RX0) (T := TX0) (N := 9) (ci := 0) F hK hP hD hS hA rfl iwX0 tyX0 tyX0_ok m_326 m_327 m_328 (Nat.le_of_ble_eq_true rfl) (Nat.le_of_ble_eq_true rfl) dX6_init_56 (fun q_6 H hP hD hS => ?_)
  have hP : va_P D vwCl [(ta, .inr (6, fl 14 (va_up (va_up (va_up (va_up (va_up (va_up gt 4 (.ref q_1)) 5 (.ref q_2)) 6 (.ref q_3)) 9 (.ref q_4)) 10 (.ref q_5)) 7 (.ref mo)))), (mo, .inr (2, fl 7 gm)), (q_1, .inl (Y 0, 820, .inl (fun _ => 0))), (q_2, .inl (Y 0, 1000, .inl (fun _ => 0))), (q_4, .inl (Y 0, 820, .inl (fun _ => 0))), (q_5, .inl (Y 2, 1000, .inl (fun _ => 0))), (q_6, .inr (0, fl 9 (fun k => defaultValue (tyX0 k))))] H := hP
  have hD : va_D A [(ta, .inr (6, fl 14 (va_up (va_up (va_up (va_up (va_up (va_up gt 4 (.ref q_1)) 5 (.ref q_2)) 6 (.ref q_3)) 9 (.ref q_4)) 10 (.ref q_5)) 7 (.ref mo)))), (mo, .inr (2, fl 7 gm)), (q_1, .inl (Y 0, 820, .inl (fun _ => 0))), (q_2, .inl (Y 0, 1000, .inl (fun _ => 0))), (q_4, .inl (Y 0, 820, .inl (fun _ => 0))), (q_5, .inl (Y 2, 1000, .inl (fun _ => 0))), (q_6, .inr (0, fl 9 (fun k => defaultValue (tyX0 k))))] := hD
  refine W.widen (k := 6) (n := 4469) (Nat.le_of_ble_eq_true rfl) (Nat.le_of_ble_eq_true rfl) ?_
  refine lv_dup hx hb dX6_init_59 rfl ?_
  refine lv_aload_n hx hb dX6_init_60 rfl (lv_at hl 1 rfl) ?_
  refine lv_aload_n hx hb dX6_init_61 rfl (lv_at hl 2 rfl) ?_
  refine goV (wr := [(ta, .inr (6, fl 14 (va_up (va_up (va_up (va_up (va_up (va_up gt 4 (.ref q_1)) 5 (.ref q_2)) 6 (.ref q_3)) 9 (.ref q_4)) 10 (.ref q_5)) 7 (.ref mo)))), (q_1, .inl (Y 0, 820, .inl (fun _ => 0))), (q_2, .inl (Y 0, 1000, .inl (fun _ => 0))), (q_4, .inl (Y 0, 820, .inl (fun _ => 0))), (q_5, .inl (Y 2, 1000, .inl (fun _ => 0)))]) (runI (n := 2) (As := [.ref pr, .ref mo]) (rest := [.ref q_6, .ref ta]) F hK hZ hP hD hS hA (c_iCa l D Y q_6 pr mo tr po (fun k => defaultValue (tyX0 k)) gm gm_2 gm_3 ) [6, 1] rfl rfl m_331 m_330 m_328 m_329 rfl (by decide +kernel) rfl ⟨Nat.le_of_ble_eq_true rfl, Nat.le_of_ble_eq_true rfl⟩ hl.1 rfl (Nat.le_of_ble_eq_true rfl) dX6_init_62 ⟨Nat.le_of_ble_eq_true rfl, Nat.le_of_ble_eq_true rfl⟩) hP hD hS hA [6, 1] [0, 2, 3, 4, 5] rfl rfl rfl (by decide) (fun u H locs hw hP hD hS => ?_)
  have hP : va_P D vwCl [(ta, .inr (6, fl 14 (va_up (va_up (va_up (va_up (va_up (va_up gt 4 (.ref q_1)) 5 (.ref q_2)) 6 (.ref q_3)) 9 (.ref q_4)) 10 (.ref q_5)) 7 (.ref mo)))), (q_1, .inl (Y 0, 820, .inl (fun _ => 0))), (q_2, .inl (Y 0, 1000, .inl (fun _ => 0))), (q_4, .inl (Y 0, 820, .inl (fun _ => 0))), (q_5, .inl (Y 2, 1000, .inl (fun _ => 0))), (mo, .inr (2, fl 7 gm))] H := hP
  have hD : va_D A [(ta, .inr (6, fl 14 (va_up (va_up (va_up (va_up (va_up (va_up gt 4 (.ref q_1)) 5 (.ref q_2)) 6 (.ref q_3)) 9 (.ref q_4)) 10 (.ref q_5)) 7 (.ref mo)))), (q_1, .inl (Y 0, 820, .inl (fun _ => 0))), (q_2, .inl (Y 0, 1000, .inl (fun _ => 0))), (q_4, .inl (Y 0, 820, .inl (fun _ => 0))), (q_5, .inl (Y 2, 1000, .inl (fun _ => 0))), (mo, .inr (2, fl 7 gm))] := hD
  refine W.widen (k := 10) (n := 6295) (Nat.le_of_ble_eq_true rfl) (Nat.le_of_ble_eq_true rfl) ?_
  refine pFF (C := RX6) (T := TX6) (ci := 6) F hin hK hP hD hS 0 rfl rfl iwX6 tyX6 tyX6_ok nmX6 8 (by decide) m_332 (fun _ h => h) rfl rfl rfl rfl dX6_init_65 (fun H locs hP hD hS => ?_)
  have hP : va_P D vwCl [(ta, .inr (6, fl 14 (va_up (va_up (va_up (va_up (va_up (va_up (va_up gt 4 (.ref q_1)) 5 (.ref q_2)) 6 (.ref q_3)) 9 (.ref q_4)) 10 (.ref q_5)) 7 (.ref mo)) 8 (.ref q_6)))), (q_1, .inl (Y 0, 820, .inl (fun _ => 0))), (q_2, .inl (Y 0, 1000, .inl (fun _ => 0))), (q_4, .inl (Y 0, 820, .inl (fun _ => 0))), (q_5, .inl (Y 2, 1000, .inl (fun _ => 0))), (mo, .inr (2, fl 7 gm))] H := hP
  have hD : va_D A [(ta, .inr (6, fl 14 (va_up (va_up (va_up (va_up (va_up (va_up (va_up gt 4 (.ref q_1)) 5 (.ref q_2)) 6 (.ref q_3)) 9 (.ref q_4)) 10 (.ref q_5)) 7 (.ref mo)) 8 (.ref q_6)))), (q_1, .inl (Y 0, 820, .inl (fun _ => 0))), (q_2, .inl (Y 0, 1000, .inl (fun _ => 0))), (q_4, .inl (Y 0, 820, .inl (fun _ => 0))), (q_5, .inl (Y 2, 1000, .inl (fun _ => 0))), (mo, .inr (2, fl 7 gm))] := hD
  refine lv_aload_n hx hb dX6_init_68 rfl (lv_at hl 0 rfl) ?_
  refine gF (C := RX6) (T := TX6) (ci := 6) (v := .ref q_2) F hK hP 0 rfl rfl iwX6 5 (by decide) m_98 (fun _ h => h) rfl dX6_init_69 ?_
  refine lv_iconst (v := (-1)) hx hb dX6_init_72 (by decide) ?_
  refine goV (wr := [(ta, .inr (6, fl 14 (va_up (va_up (va_up (va_up (va_up (va_up (va_up gt 4 (.ref q_1)) 5 (.ref q_2)) 6 (.ref q_3)) 9 (.ref q_4)) 10 (.ref q_5)) 7 (.ref mo)) 8 (.ref q_6)))), (q_1, .inl (Y 0, 820, .inl (fun _ => 0))), (q_4, .inl (Y 0, 820, .inl (fun _ => 0))), (q_5, .inl (Y 2, 1000, .inl (fun _ => 0))), (mo, .inr (2, fl 7 gm))]) (runS (n := 2) (As := [.ref q_2, .int (-1)]) (rest := []) F hK hZ hP hD hS hA (c_fillI l D Y q_2 (-1) 1000 (fun _ => 0)  (by decide)) [2] rfl rfl m_99 m_71 m_65 m_69 (by decide +kernel) rfl ⟨Nat.le_of_ble_eq_true rfl, Nat.le_of_ble_eq_true rfl⟩ hl.1 rfl (Nat.le_of_ble_eq_true rfl) dX6_init_73 ⟨Nat.le_of_ble_eq_true rfl, Nat.le_of_ble_eq_true rfl⟩) hP hD hS hA [2] [0, 1, 3, 4, 5] rfl rfl rfl (by decide) (fun fn_8 H locs hw hP hD hS => ?_)
  have hP : va_P D vwCl [(ta, .inr (6, fl 14 (va_up (va_up (va_up (va_up (va_up (va_up (va_up gt 4 (.ref q_1)) 5 (.ref q_2)) 6 (.ref q_3)) 9 (.ref q_4)) 10 (.ref q_5)) 7 (.ref mo)) 8 (.ref q_6)))), (q_1, .inl (Y 0, 820, .inl (fun _ => 0))), (q_4, .inl (Y 0, 820, .inl (fun _ => 0))), (q_5, .inl (Y 2, 1000, .inl (fun _ => 0))), (mo, .inr (2, fl 7 gm)), (q_2, .inl (Y 0, 1000, .inl fn_8))] H := hP
  have hD : va_D A [(ta, .inr (6, fl 14 (va_up (va_up (va_up (va_up (va_up (va_up (va_up gt 4 (.ref q_1)) 5 (.ref q_2)) 6 (.ref q_3)) 9 (.ref q_4)) 10 (.ref q_5)) 7 (.ref mo)) 8 (.ref q_6)))), (q_1, .inl (Y 0, 820, .inl (fun _ => 0))), (q_4, .inl (Y 0, 820, .inl (fun _ => 0))), (q_5, .inl (Y 2, 1000, .inl (fun _ => 0))), (mo, .inr (2, fl 7 gm)), (q_2, .inl (Y 0, 1000, .inl fn_8))] := hD
  refine W.widen (k := 10) (n := 6295) (Nat.le_of_ble_eq_true rfl) (Nat.le_of_ble_eq_true rfl) ?_
  exact retV F hr hlocks hP hD hS (q_2, (va_up (va_up (va_up (va_up (va_up (va_up (va_up gt 4 (.ref q_1)) 5 (.ref q_2)) 6 (.ref q_3)) 9 (.ref q_4)) 10 (.ref q_5)) 7 (.ref mo)) 8 (.ref q_6)), fn_8) [0, 5, 4] rfl rfl (Nat.le_of_ble_eq_true rfl) (Nat.le_of_ble_eq_true rfl) dX6_init_76 ⟨gt_0, gt_1, gt_2, gt_3, rfl⟩
set_option maxRecDepth 100000 in
set_option maxHeartbeats 4000000 in
theorem c_iX (l : Launch) (D : va_G) (Y : Nat → ClassId) (h0 : Nat) (g : Nat → Value) (g_1 : g 1 = .int 0)  : cM l D Y yX9_init cX9_init 1 none 4 39 11388 [.ref h0] [(h0, .inr (8, fl 9 g))] (qV D (fun (u : (Nat) × (Nat) × (Nat) × (Nat) × (Nat) × (Nat) × (Nat) × (Nat) × (Nat) × (Nat) × (Nat) × (Nat) × (Nat → Value) × (Nat → Value) × (Nat → Value) × (Nat → Value) × (Nat → Value) × (Nat → Value) × (Nat → Int32)) => u.2.2.2.2.2.2.2.2.2.2.2.2.1 0 = .ref u.1 ∧ u.2.2.2.2.2.2.2.2.2.2.2.2.1 1 = .int 0 ∧ u.2.2.2.2.2.2.2.2.2.2.2.2.1 2 = .int (-1) ∧ u.2.2.2.2.2.2.2.2.2.2.2.2.1 3 = .ref u.2.1 ∧ u.2.2.2.2.2.2.2.2.2.2.2.2.1 4 = .ref u.2.2.1 ∧ u.2.2.2.2.2.2.2.2.2.2.2.2.1 5 = .ref u.2.2.2.1 ∧ u.2.2.2.2.2.2.2.2.2.2.2.2.1 6 = .ref u.2.2.2.2.1 ∧ u.2.2.2.2.2.2.2.2.2.2.2.2.1 8 = .ref u.2.2.2.2.2.1 ∧ u.2.2.2.2.2.2.2.2.2.2.2.2.2.1 0 = .int 0 ∧ u.2.2.2.2.2.2.2.2.2.2.2.2.2.1 1 = .int 0 ∧ u.2.2.2.2.2.2.2.2.2.2.2.2.2.1 2 = .int 0 ∧ u.2.2.2.2.2.2.2.2.2.2.2.2.2.2.1 0 = .int 0 ∧ u.2.2.2.2.2.2.2.2.2.2.2.2.2.2.2.1 0 = .int 0 ∧ u.2.2.2.2.2.2.2.2.2.2.2.2.2.2.2.1 2 = .ref u.2.2.2.2.2.2.2.1 ∧ u.2.2.2.2.2.2.2.2.2.2.2.2.2.2.2.1 3 = .ref u.2.2.2.2.2.2.2.2.1 ∧ u.2.2.2.2.2.2.2.2.2.2.2.2.2.2.2.1 4 = .ref u.2.2.2.2.2.2.2.2.2.2.1 ∧ u.2.2.2.2.2.2.2.2.2.2.2.2.2.2.2.1 5 = .ref u.2.2.2.2.2.2.2.2.2.1 ∧ u.2.2.2.2.2.2.2.2.2.2.2.2.2.2.2.1 6 = .ref u.2.2.2.2.2.2.2.2.2.2.2.1 ∧ u.2.2.2.2.2.2.2.2.2.2.2.2.2.2.2.2.1 0 = .int 0 ∧ u.2.2.2.2.2.2.2.2.2.2.2.2.2.2.2.2.1 1 = .int 0 ∧ u.2.2.2.2.2.2.2.2.2.2.2.2.2.2.2.2.1 2 = .int 0 ∧ u.2.2.2.2.2.2.2.2.2.2.2.2.2.2.2.2.1 3 = .int 0 ∧ u.2.2.2.2.2.2.2.2.2.2.2.2.2.2.2.2.1 5 = .ref u.2.2.2.2.2.2.1) (fun (u : (Nat) × (Nat) × (Nat) × (Nat) × (Nat) × (Nat) × (Nat) × (Nat) × (Nat) × (Nat) × (Nat) × (Nat) × (Nat → Value) × (Nat → Value) × (Nat → Value) × (Nat → Value) × (Nat → Value) × (Nat → Value) × (Nat → Int32)) => [(h0, .inr (8, fl 9 u.2.2.2.2.2.2.2.2.2.2.2.2.1)), (u.1, .inl (Y 0, 400, .inl (fun _ => 0))), (u.2.1, .inl (Y 0, 3, .inl (fun _ => 0))), (u.2.2.1, .inr (3, fl 9 u.2.2.2.2.2.2.2.2.2.2.2.2.2.1)), (u.2.2.2.1, .inr (3, fl 9 u.2.2.2.2.2.2.2.2.2.2.2.2.2.2.1)), (u.2.2.2.2.1, .inr (2, fl 7 u.2.2.2.2.2.2.2.2.2.2.2.2.2.2.2.1)), (u.2.2.2.2.2.2.2.1, .inl (Y 1, 10, .inr (.inl (fun _ => 0)))), (u.2.2.2.2.2.2.2.2.1, .inl (Y 1, 10, .inr (.inl (fun _ => 0)))), (u.2.2.2.2.2.2.2.2.2.1, .inl (Y 1, 10, .inr (.inl (fun _ => 0)))), (u.2.2.2.2.2.2.2.2.2.2.2.1, .inr (1, fl 7 u.2.2.2.2.2.2.2.2.2.2.2.2.2.2.2.2.2.1)), (u.2.2.2.2.2.2.2.2.2.2.1, .inl (Y 0, 640, .inl (fun _ => 0))), (u.2.2.2.2.2.1, .inr (6, fl 14 u.2.2.2.2.2.2.2.2.2.2.2.2.2.2.2.2.1)), (u.2.2.2.2.2.2.1, .inl (Y 0, 1000, .inl u.2.2.2.2.2.2.2.2.2.2.2.2.2.2.2.2.2.2))])) := by
  refine cM.mk RX9 rfl (by decide) (Nat.le_of_ble_eq_true rfl) ?_
  intro p e s m below meth c A F hr hlocks hin hK hZ hP hD hA hS ls hl
  have hx := F.1
  have hb := F.2.1
  have hl : lv_has ls 1 [(0, .ref h0)] := hl
  refine lv_aload_n hx hb dX9_init_0 rfl (lv_at hl 0 rfl) ?_
  refine oInit F m_333 m_111 m_112 hl.1 dX9_init_1 (Nat.le_of_ble_eq_true rfl) (Nat.le_of_ble_eq_true rfl) ?_
  refine lv_aload_n hx hb dX9_init_4 rfl (lv_at hl 0 rfl) ?_
  refine lv_sipush (v := 400) hx hb dX9_init_5 (by decide) ?_
  refine nA (atype := .int) (ty := .int) (a0 := (400, .inl (fun _ => 0))) (N' := 400) (cA0 := Y 0) F hK hP hD hS hA 0 rfl (fun _ h => h) m_114 rfl (fun _ => rfl) (by decide) (by decide) (Nat.le_of_ble_eq_true rfl) (Nat.le_of_ble_eq_true rfl) (Nat.le_of_ble_eq_true rfl) dX9_init_8 (fun q_1 H hP hD hS => ?_)
  have hP : va_P D vwCl [(h0, .inr (8, fl 9 g)), (q_1, .inl (Y 0, 400, .inl (fun _ => 0)))] H := hP
  have hD : va_D A [(h0, .inr (8, fl 9 g)), (q_1, .inl (Y 0, 400, .inl (fun _ => 0)))] := hD
  refine W.widen (k := 1) (n := 400) (Nat.le_of_ble_eq_true rfl) (Nat.le_of_ble_eq_true rfl) ?_
  refine pFF (C := RX9) (T := TX9) (ci := 8) F hin hK hP hD hS 0 rfl rfl iwX9 tyX9 tyX9_ok nmX9 0 (by decide) m_4 (fun _ h => h) rfl rfl rfl rfl dX9_init_10 (fun H locs hP hD hS => ?_)
  have hP : va_P D vwCl [(h0, .inr (8, fl 9 (va_up g 0 (.ref q_1)))), (q_1, .inl (Y 0, 400, .inl (fun _ => 0)))] H := hP
  have hD : va_D A [(h0, .inr (8, fl 9 (va_up g 0 (.ref q_1)))), (q_1, .inl (Y 0, 400, .inl (fun _ => 0)))] := hD
  refine lv_aload_n hx hb dX9_init_13 rfl (lv_at hl 0 rfl) ?_
  refine lv_iconst (v := (-1)) hx hb dX9_init_14 (by decide) ?_
  refine pF (C := RX9) (T := TX9) (ci := 8) F hK hP hD hS 0 rfl rfl iwX9 tyX9 tyX9_ok nmX9 2 (by decide) m_10 (fun _ h => h) rfl rfl rfl dX9_init_15 (fun H locs hP hD hS => ?_)
  have hP : va_P D vwCl [(h0, .inr (8, fl 9 (va_up (va_up g 0 (.ref q_1)) 2 (.int (-1))))), (q_1, .inl (Y 0, 400, .inl (fun _ => 0)))] H := hP
  have hD : va_D A [(h0, .inr (8, fl 9 (va_up (va_up g 0 (.ref q_1)) 2 (.int (-1))))), (q_1, .inl (Y 0, 400, .inl (fun _ => 0)))] := hD
  refine lv_aload_n hx hb dX9_init_18 rfl (lv_at hl 0 rfl) ?_
  refine lv_iconst (v := 3) hx hb dX9_init_19 (by decide) ?_
  refine nA (atype := .int) (ty := .int) (a0 := (3, .inl (fun _ => 0))) (N' := 3) (cA0 := Y 0) F hK hP hD hS hA 0 rfl (fun _ h => h) m_114 rfl (fun _ => rfl) (by decide) (by decide) (Nat.le_of_ble_eq_true rfl) (Nat.le_of_ble_eq_true rfl) (Nat.le_of_ble_eq_true rfl) dX9_init_20 (fun q_2 H hP hD hS => ?_)
  have hP : va_P D vwCl [(h0, .inr (8, fl 9 (va_up (va_up g 0 (.ref q_1)) 2 (.int (-1))))), (q_1, .inl (Y 0, 400, .inl (fun _ => 0))), (q_2, .inl (Y 0, 3, .inl (fun _ => 0)))] H := hP
  have hD : va_D A [(h0, .inr (8, fl 9 (va_up (va_up g 0 (.ref q_1)) 2 (.int (-1))))), (q_1, .inl (Y 0, 400, .inl (fun _ => 0))), (q_2, .inl (Y 0, 3, .inl (fun _ => 0)))] := hD
  refine W.widen (k := 2) (n := 403) (Nat.le_of_ble_eq_true rfl) (Nat.le_of_ble_eq_true rfl) ?_
  refine pFF (C := RX9) (T := TX9) (ci := 8) F hin hK hP hD hS 0 rfl rfl iwX9 tyX9 tyX9_ok nmX9 3 (by decide) m_11 (fun _ h => h) rfl rfl rfl rfl dX9_init_22 (fun H locs hP hD hS => ?_)
  have hP : va_P D vwCl [(h0, .inr (8, fl 9 (va_up (va_up (va_up g 0 (.ref q_1)) 2 (.int (-1))) 3 (.ref q_2)))), (q_1, .inl (Y 0, 400, .inl (fun _ => 0))), (q_2, .inl (Y 0, 3, .inl (fun _ => 0)))] H := hP
  have hD : va_D A [(h0, .inr (8, fl 9 (va_up (va_up (va_up g 0 (.ref q_1)) 2 (.int (-1))) 3 (.ref q_2)))), (q_1, .inl (Y 0, 400, .inl (fun _ => 0))), (q_2, .inl (Y 0, 3, .inl (fun _ => 0)))] := hD
  refine lv_aload_n hx hb dX9_init_25 rfl (lv_at hl 0 rfl) ?_
  refine nO (C := RX3) (T := TX3) (N := 9) (ci := 3) F hK hP hD hS hA rfl iwX3 tyX3 tyX3_ok m_334 m_335 m_126 (Nat.le_of_ble_eq_true rfl) (Nat.le_of_ble_eq_true rfl) dX9_init_26 (fun q_3 H hP hD hS => ?_)
  have hP : va_P D vwCl [(h0, .inr (8, fl 9 (va_up (va_up (va_up g 0 (.ref q_1)) 2 (.int (-1))) 3 (.ref q_2)))), (q_1, .inl (Y 0, 400, .inl (fun _ => 0))), (q_2, .inl (Y 0, 3, .inl (fun _ => 0))), (q_3, .inr (3, fl 9 (fun k => defaultValue (tyX3 k))))] H := hP
  have hD : va_D A [(h0, .inr (8, fl 9 (va_up (va_up (va_up g 0 (.ref q_1)) 2 (.int (-1))) 3 (.ref q_2)))), (q_1, .inl (Y 0, 400, .inl (fun _ => 0))), (q_2, .inl (Y 0, 3, .inl (fun _ => 0))), (q_3, .inr (3, fl 9 (fun k => defaultValue (tyX3 k))))] := hD
  refine W.widen (k := 3) (n := 412) (Nat.le_of_ble_eq_true rfl) (Nat.le_of_ble_eq_true rfl) ?_
  refine lv_dup hx hb dX9_init_29 rfl ?_
  refine goV (wr := [(h0, .inr (8, fl 9 (va_up (va_up (va_up g 0 (.ref q_1)) 2 (.int (-1))) 3 (.ref q_2)))), (q_1, .inl (Y 0, 400, .inl (fun _ => 0))), (q_2, .inl (Y 0, 3, .inl (fun _ => 0)))]) (runIN (n := 0) (As := []) (rest := [.ref q_3, .ref h0]) F hK hZ hP hD hS hA (c_iP l D Y q_3 (fun k => defaultValue (tyX3 k)) rfl rfl rfl ) [3] rfl rfl hK.2.2.2.1 m_337 m_126 m_336 rfl (by decide +kernel) rfl ⟨Nat.le_of_ble_eq_true rfl, Nat.le_of_ble_eq_true rfl⟩ hl.1 rfl (Nat.le_of_ble_eq_true rfl) dX9_init_30 ⟨Nat.le_of_ble_eq_true rfl, Nat.le_of_ble_eq_true rfl⟩) hP hD hS hA [3] [0, 1, 2] rfl rfl rfl (by decide) (fun gn_4 H locs hw hP hD hS => ?_)
  obtain ⟨o_5, o_6, o_7⟩ := hw
  have hP : va_P D vwCl [(h0, .inr (8, fl 9 (va_up (va_up (va_up g 0 (.ref q_1)) 2 (.int (-1))) 3 (.ref q_2)))), (q_1, .inl (Y 0, 400, .inl (fun _ => 0))), (q_2, .inl (Y 0, 3, .inl (fun _ => 0))), (q_3, .inr (3, fl 9 gn_4))] H := hP
  have hD : va_D A [(h0, .inr (8, fl 9 (va_up (va_up (va_up g 0 (.ref q_1)) 2 (.int (-1))) 3 (.ref q_2)))), (q_1, .inl (Y 0, 400, .inl (fun _ => 0))), (q_2, .inl (Y 0, 3, .inl (fun _ => 0))), (q_3, .inr (3, fl 9 gn_4))] := hD
  refine W.widen (k := 9) (n := 2384) (Nat.le_of_ble_eq_true rfl) (Nat.le_of_ble_eq_true rfl) ?_
  refine pF (C := RX9) (T := TX9) (ci := 8) F hK hP hD hS 0 rfl rfl iwX9 tyX9 tyX9_ok nmX9 4 (by decide) m_20 (fun _ h => h) rfl rfl rfl dX9_init_33 (fun H locs hP hD hS => ?_)
  have hP : va_P D vwCl [(h0, .inr (8, fl 9 (va_up (va_up (va_up (va_up g 0 (.ref q_1)) 2 (.int (-1))) 3 (.ref q_2)) 4 (.ref q_3)))), (q_1, .inl (Y 0, 400, .inl (fun _ => 0))), (q_2, .inl (Y 0, 3, .inl (fun _ => 0))), (q_3, .inr (3, fl 9 gn_4))] H := hP
  have hD : va_D A [(h0, .inr (8, fl 9 (va_up (va_up (va_up (va_up g 0 (.ref q_1)) 2 (.int (-1))) 3 (.ref q_2)) 4 (.ref q_3)))), (q_1, .inl (Y 0, 400, .inl (fun _ => 0))), (q_2, .inl (Y 0, 3, .inl (fun _ => 0))), (q_3, .inr (3, fl 9 gn_4))] := hD
  refine lv_aload_n hx hb dX9_init_36 rfl (lv_at hl 0 rfl) ?_
  refine nO (C := RX3) (T := TX3) (N := 9) (ci := 3) F hK hP hD hS hA rfl iwX3 tyX3 tyX3_ok m_334 m_335 m_126 (Nat.le_of_ble_eq_true rfl) (Nat.le_of_ble_eq_true rfl) dX9_init_37 (fun q_9 H hP hD hS => ?_)
  have hP : va_P D vwCl [(h0, .inr (8, fl 9 (va_up (va_up (va_up (va_up g 0 (.ref q_1)) 2 (.int (-1))) 3 (.ref q_2)) 4 (.ref q_3)))), (q_1, .inl (Y 0, 400, .inl (fun _ => 0))), (q_2, .inl (Y 0, 3, .inl (fun _ => 0))), (q_3, .inr (3, fl 9 gn_4)), (q_9, .inr (3, fl 9 (fun k => defaultValue (tyX3 k))))] H := hP
  have hD : va_D A [(h0, .inr (8, fl 9 (va_up (va_up (va_up (va_up g 0 (.ref q_1)) 2 (.int (-1))) 3 (.ref q_2)) 4 (.ref q_3)))), (q_1, .inl (Y 0, 400, .inl (fun _ => 0))), (q_2, .inl (Y 0, 3, .inl (fun _ => 0))), (q_3, .inr (3, fl 9 gn_4)), (q_9, .inr (3, fl 9 (fun k => defaultValue (tyX3 k))))] := hD
  refine W.widen (k := 10) (n := 2393) (Nat.le_of_ble_eq_true rfl) (Nat.le_of_ble_eq_true rfl) ?_
  refine lv_dup hx hb dX9_init_40 rfl ?_
  refine goV (wr := [(h0, .inr (8, fl 9 (va_up (va_up (va_up (va_up g 0 (.ref q_1)) 2 (.int (-1))) 3 (.ref q_2)) 4 (.ref q_3)))), (q_1, .inl (Y 0, 400, .inl (fun _ => 0))), (q_2, .inl (Y 0, 3, .inl (fun _ => 0))), (q_3, .inr (3, fl 9 gn_4))]) (runIN (n := 0) (As := []) (rest := [.ref q_9, .ref h0]) F hK hZ hP hD hS hA (c_iP l D Y q_9 (fun k => defaultValue (tyX3 k)) rfl rfl rfl ) [4] rfl rfl hK.2.2.2.1 m_337 m_126 m_336 rfl (by decide +kernel) rfl ⟨Nat.le_of_ble_eq_true rfl, Nat.le_of_ble_eq_true rfl⟩ hl.1 rfl (Nat.le_of_ble_eq_true rfl) dX9_init_41 ⟨Nat.le_of_ble_eq_true rfl, Nat.le_of_ble_eq_true rfl⟩) hP hD hS hA [4] [0, 1, 2, 3] rfl rfl rfl (by decide) (fun gn_10 H locs hw hP hD hS => ?_)
  obtain ⟨o_11, o_12, o_13⟩ := hw
  have hP : va_P D vwCl [(h0, .inr (8, fl 9 (va_up (va_up (va_up (va_up g 0 (.ref q_1)) 2 (.int (-1))) 3 (.ref q_2)) 4 (.ref q_3)))), (q_1, .inl (Y 0, 400, .inl (fun _ => 0))), (q_2, .inl (Y 0, 3, .inl (fun _ => 0))), (q_3, .inr (3, fl 9 gn_4)), (q_9, .inr (3, fl 9 gn_10))] H := hP
  have hD : va_D A [(h0, .inr (8, fl 9 (va_up (va_up (va_up (va_up g 0 (.ref q_1)) 2 (.int (-1))) 3 (.ref q_2)) 4 (.ref q_3)))), (q_1, .inl (Y 0, 400, .inl (fun _ => 0))), (q_2, .inl (Y 0, 3, .inl (fun _ => 0))), (q_3, .inr (3, fl 9 gn_4)), (q_9, .inr (3, fl 9 gn_10))] := hD
  refine W.widen (k := 16) (n := 4365) (Nat.le_of_ble_eq_true rfl) (Nat.le_of_ble_eq_true rfl) ?_
  refine pF (C := RX9) (T := TX9) (ci := 8) F hK hP hD hS 0 rfl rfl iwX9 tyX9 tyX9_ok nmX9 5 (by decide) m_137 (fun _ h => h) rfl rfl rfl dX9_init_44 (fun H locs hP hD hS => ?_)
  have hP : va_P D vwCl [(h0, .inr (8, fl 9 (va_up (va_up (va_up (va_up (va_up g 0 (.ref q_1)) 2 (.int (-1))) 3 (.ref q_2)) 4 (.ref q_3)) 5 (.ref q_9)))), (q_1, .inl (Y 0, 400, .inl (fun _ => 0))), (q_2, .inl (Y 0, 3, .inl (fun _ => 0))), (q_3, .inr (3, fl 9 gn_4)), (q_9, .inr (3, fl 9 gn_10))] H := hP
  have hD : va_D A [(h0, .inr (8, fl 9 (va_up (va_up (va_up (va_up (va_up g 0 (.ref q_1)) 2 (.int (-1))) 3 (.ref q_2)) 4 (.ref q_3)) 5 (.ref q_9)))), (q_1, .inl (Y 0, 400, .inl (fun _ => 0))), (q_2, .inl (Y 0, 3, .inl (fun _ => 0))), (q_3, .inr (3, fl 9 gn_4)), (q_9, .inr (3, fl 9 gn_10))] := hD
  refine lv_aload_n hx hb dX9_init_47 rfl (lv_at hl 0 rfl) ?_
  refine nO (C := RX2) (T := TX2) (N := 7) (ci := 2) F hK hP hD hS hA rfl iwX2 tyX2 tyX2_ok m_338 m_339 m_74 (Nat.le_of_ble_eq_true rfl) (Nat.le_of_ble_eq_true rfl) dX9_init_48 (fun q_15 H hP hD hS => ?_)
  have hP : va_P D vwCl [(h0, .inr (8, fl 9 (va_up (va_up (va_up (va_up (va_up g 0 (.ref q_1)) 2 (.int (-1))) 3 (.ref q_2)) 4 (.ref q_3)) 5 (.ref q_9)))), (q_1, .inl (Y 0, 400, .inl (fun _ => 0))), (q_2, .inl (Y 0, 3, .inl (fun _ => 0))), (q_3, .inr (3, fl 9 gn_4)), (q_9, .inr (3, fl 9 gn_10)), (q_15, .inr (2, fl 7 (fun k => defaultValue (tyX2 k))))] H := hP
  have hD : va_D A [(h0, .inr (8, fl 9 (va_up (va_up (va_up (va_up (va_up g 0 (.ref q_1)) 2 (.int (-1))) 3 (.ref q_2)) 4 (.ref q_3)) 5 (.ref q_9)))), (q_1, .inl (Y 0, 400, .inl (fun _ => 0))), (q_2, .inl (Y 0, 3, .inl (fun _ => 0))), (q_3, .inr (3, fl 9 gn_4)), (q_9, .inr (3, fl 9 gn_10)), (q_15, .inr (2, fl 7 (fun k => defaultValue (tyX2 k))))] := hD
  refine W.widen (k := 17) (n := 4372) (Nat.le_of_ble_eq_true rfl) (Nat.le_of_ble_eq_true rfl) ?_
  refine lv_dup hx hb dX9_init_51 rfl ?_
  refine lv_aload_n hx hb dX9_init_52 rfl (lv_at hl 0 rfl) ?_
  refine gF (C := RX9) (T := TX9) (ci := 8) (v := .ref q_3) F hK hP 0 rfl rfl iwX9 4 (by decide) m_20 (fun _ h => h) rfl dX9_init_53 ?_
  refine goV (wr := [(h0, .inr (8, fl 9 (va_up (va_up (va_up (va_up (va_up g 0 (.ref q_1)) 2 (.int (-1))) 3 (.ref q_2)) 4 (.ref q_3)) 5 (.ref q_9)))), (q_1, .inl (Y 0, 400, .inl (fun _ => 0))), (q_2, .inl (Y 0, 3, .inl (fun _ => 0))), (q_3, .inr (3, fl 9 gn_4)), (q_9, .inr (3, fl 9 gn_10))]) (runI (n := 1) (As := [.ref q_3]) (rest := [.ref q_15, .ref h0]) F hK hZ hP hD hS hA (c_iM l D Y q_15 q_3 (fun k => defaultValue (tyX2 k)) rfl rfl ) [5] rfl rfl m_342 m_341 m_74 m_340 rfl (by decide +kernel) rfl ⟨Nat.le_of_ble_eq_true rfl, Nat.le_of_ble_eq_true rfl⟩ hl.1 rfl (Nat.le_of_ble_eq_true rfl) dX9_init_56 ⟨Nat.le_of_ble_eq_true rfl, Nat.le_of_ble_eq_true rfl⟩) hP hD hS hA [5] [0, 1, 2, 3, 4] rfl rfl rfl (by decide) (fun u H locs hw hP hD hS => ?_)
  obtain ⟨trn_16, pon_17, son_18, grn_19, fon_20, gmn_21, gfn_22⟩ := u
  obtain ⟨o_23, o_24, o_25, o_26, o_27, o_28, o_29⟩ := hw
  have hP : va_P D vwCl [(h0, .inr (8, fl 9 (va_up (va_up (va_up (va_up (va_up g 0 (.ref q_1)) 2 (.int (-1))) 3 (.ref q_2)) 4 (.ref q_3)) 5 (.ref q_9)))), (q_1, .inl (Y 0, 400, .inl (fun _ => 0))), (q_2, .inl (Y 0, 3, .inl (fun _ => 0))), (q_3, .inr (3, fl 9 gn_4)), (q_9, .inr (3, fl 9 gn_10)), (q_15, .inr (2, fl 7 gmn_21)), (trn_16, .inl (Y 1, 10, .inr (.inl (fun _ => 0)))), (pon_17, .inl (Y 1, 10, .inr (.inl (fun _ => 0)))), (grn_19, .inl (Y 1, 10, .inr (.inl (fun _ => 0)))), (son_18, .inl (Y 0, 640, .inl (fun _ => 0))), (fon_20, .inr (1, fl 7 gfn_22))] H := hP
  have hD : va_D A [(h0, .inr (8, fl 9 (va_up (va_up (va_up (va_up (va_up g 0 (.ref q_1)) 2 (.int (-1))) 3 (.ref q_2)) 4 (.ref q_3)) 5 (.ref q_9)))), (q_1, .inl (Y 0, 400, .inl (fun _ => 0))), (q_2, .inl (Y 0, 3, .inl (fun _ => 0))), (q_3, .inr (3, fl 9 gn_4)), (q_9, .inr (3, fl 9 gn_10)), (q_15, .inr (2, fl 7 gmn_21)), (trn_16, .inl (Y 1, 10, .inr (.inl (fun _ => 0)))), (pon_17, .inl (Y 1, 10, .inr (.inl (fun _ => 0)))), (grn_19, .inl (Y 1, 10, .inr (.inl (fun _ => 0)))), (son_18, .inl (Y 0, 640, .inl (fun _ => 0))), (fon_20, .inr (1, fl 7 gfn_22))] := hD
  refine W.widen (k := 24) (n := 5055) (Nat.le_of_ble_eq_true rfl) (Nat.le_of_ble_eq_true rfl) ?_
  refine pFF (C := RX9) (T := TX9) (ci := 8) F hin hK hP hD hS 0 rfl rfl iwX9 tyX9 tyX9_ok nmX9 6 (by decide) m_146 (fun _ h => h) rfl rfl rfl rfl dX9_init_59 (fun H locs hP hD hS => ?_)
  have hP : va_P D vwCl [(h0, .inr (8, fl 9 (va_up (va_up (va_up (va_up (va_up (va_up g 0 (.ref q_1)) 2 (.int (-1))) 3 (.ref q_2)) 4 (.ref q_3)) 5 (.ref q_9)) 6 (.ref q_15)))), (q_1, .inl (Y 0, 400, .inl (fun _ => 0))), (q_2, .inl (Y 0, 3, .inl (fun _ => 0))), (q_3, .inr (3, fl 9 gn_4)), (q_9, .inr (3, fl 9 gn_10)), (q_15, .inr (2, fl 7 gmn_21)), (trn_16, .inl (Y 1, 10, .inr (.inl (fun _ => 0)))), (pon_17, .inl (Y 1, 10, .inr (.inl (fun _ => 0)))), (grn_19, .inl (Y 1, 10, .inr (.inl (fun _ => 0)))), (son_18, .inl (Y 0, 640, .inl (fun _ => 0))), (fon_20, .inr (1, fl 7 gfn_22))] H := hP
  have hD : va_D A [(h0, .inr (8, fl 9 (va_up (va_up (va_up (va_up (va_up (va_up g 0 (.ref q_1)) 2 (.int (-1))) 3 (.ref q_2)) 4 (.ref q_3)) 5 (.ref q_9)) 6 (.ref q_15)))), (q_1, .inl (Y 0, 400, .inl (fun _ => 0))), (q_2, .inl (Y 0, 3, .inl (fun _ => 0))), (q_3, .inr (3, fl 9 gn_4)), (q_9, .inr (3, fl 9 gn_10)), (q_15, .inr (2, fl 7 gmn_21)), (trn_16, .inl (Y 1, 10, .inr (.inl (fun _ => 0)))), (pon_17, .inl (Y 1, 10, .inr (.inl (fun _ => 0)))), (grn_19, .inl (Y 1, 10, .inr (.inl (fun _ => 0)))), (son_18, .inl (Y 0, 640, .inl (fun _ => 0))), (fon_20, .inr (1, fl 7 gfn_22))] := hD
  refine lv_aload_n hx hb dX9_init_62 rfl (lv_at hl 0 rfl) ?_
  refine nO (C := RX8) (T := TX8) (N := 12) (ci := 7) F hK hP hD hS hA rfl iwX8 tyX8 tyX8_ok m_343 m_344 m_345 (Nat.le_of_ble_eq_true rfl) (Nat.le_of_ble_eq_true rfl) dX9_init_63 (fun q_31 H hP hD hS => ?_)
  have hP : va_P D vwCl [(h0, .inr (8, fl 9 (va_up (va_up (va_up (va_up (va_up (va_up g 0 (.ref q_1)) 2 (.int (-1))) 3 (.ref q_2)) 4 (.ref q_3)) 5 (.ref q_9)) 6 (.ref q_15)))), (q_1, .inl (Y 0, 400, .inl (fun _ => 0))), (q_2, .inl (Y 0, 3, .inl (fun _ => 0))), (q_3, .inr (3, fl 9 gn_4)), (q_9, .inr (3, fl 9 gn_10)), (q_15, .inr (2, fl 7 gmn_21)), (trn_16, .inl (Y 1, 10, .inr (.inl (fun _ => 0)))), (pon_17, .inl (Y 1, 10, .inr (.inl (fun _ => 0)))), (grn_19, .inl (Y 1, 10, .inr (.inl (fun _ => 0)))), (son_18, .inl (Y 0, 640, .inl (fun _ => 0))), (fon_20, .inr (1, fl 7 gfn_22)), (q_31, .inr (7, fl 12 (fun k => defaultValue (tyX8 k))))] H := hP
  have hD : va_D A [(h0, .inr (8, fl 9 (va_up (va_up (va_up (va_up (va_up (va_up g 0 (.ref q_1)) 2 (.int (-1))) 3 (.ref q_2)) 4 (.ref q_3)) 5 (.ref q_9)) 6 (.ref q_15)))), (q_1, .inl (Y 0, 400, .inl (fun _ => 0))), (q_2, .inl (Y 0, 3, .inl (fun _ => 0))), (q_3, .inr (3, fl 9 gn_4)), (q_9, .inr (3, fl 9 gn_10)), (q_15, .inr (2, fl 7 gmn_21)), (trn_16, .inl (Y 1, 10, .inr (.inl (fun _ => 0)))), (pon_17, .inl (Y 1, 10, .inr (.inl (fun _ => 0)))), (grn_19, .inl (Y 1, 10, .inr (.inl (fun _ => 0)))), (son_18, .inl (Y 0, 640, .inl (fun _ => 0))), (fon_20, .inr (1, fl 7 gfn_22)), (q_31, .inr (7, fl 12 (fun k => defaultValue (tyX8 k))))] := hD
  refine W.widen (k := 25) (n := 5067) (Nat.le_of_ble_eq_true rfl) (Nat.le_of_ble_eq_true rfl) ?_
  refine lv_dup hx hb dX9_init_66 rfl ?_
  refine lv_aload_n hx hb dX9_init_67 rfl (lv_at hl 0 rfl) ?_
  refine gF (C := RX9) (T := TX9) (ci := 8) (v := .ref q_3) F hK hP 0 rfl rfl iwX9 4 (by decide) m_20 (fun _ h => h) rfl dX9_init_68 ?_
  refine lv_aload_n hx hb dX9_init_71 rfl (lv_at hl 0 rfl) ?_
  refine gF (C := RX9) (T := TX9) (ci := 8) (v := .ref q_15) F hK hP 0 rfl rfl iwX9 6 (by decide) m_146 (fun _ h => h) rfl dX9_init_72 ?_
  refine goV (wr := [(h0, .inr (8, fl 9 (va_up (va_up (va_up (va_up (va_up (va_up g 0 (.ref q_1)) 2 (.int (-1))) 3 (.ref q_2)) 4 (.ref q_3)) 5 (.ref q_9)) 6 (.ref q_15)))), (q_1, .inl (Y 0, 400, .inl (fun _ => 0))), (q_2, .inl (Y 0, 3, .inl (fun _ => 0))), (q_3, .inr (3, fl 9 gn_4)), (q_9, .inr (3, fl 9 gn_10)), (trn_16, .inl (Y 1, 10, .inr (.inl (fun _ => 0)))), (pon_17, .inl (Y 1, 10, .inr (.inl (fun _ => 0)))), (grn_19, .inl (Y 1, 10, .inr (.inl (fun _ => 0)))), (son_18, .inl (Y 0, 640, .inl (fun _ => 0))), (fon_20, .inr (1, fl 7 gfn_22))]) (runI (n := 2) (As := [.ref q_3, .ref q_15]) (rest := [.ref q_31, .ref h0]) F hK hZ hP hD hS hA (c_iWe l D Y q_31 q_3 q_15 trn_16 pon_17 (fun k => defaultValue (tyX8 k)) gmn_21 o_25 o_26 ) [11, 5] rfl rfl m_348 m_347 m_345 m_346 rfl (by decide +kernel) rfl ⟨Nat.le_of_ble_eq_true rfl, Nat.le_of_ble_eq_true rfl⟩ hl.1 rfl (Nat.le_of_ble_eq_true rfl) dX9_init_75 ⟨Nat.le_of_ble_eq_true rfl, Nat.le_of_ble_eq_true rfl⟩) hP hD hS hA [11, 5] [0, 1, 2, 3, 4, 6, 7, 8, 9, 10] rfl rfl rfl (by decide) (fun u H locs hw hP hD hS => ?_)
  have hP : va_P D vwCl [(h0, .inr (8, fl 9 (va_up (va_up (va_up (va_up (va_up (va_up g 0 (.ref q_1)) 2 (.int (-1))) 3 (.ref q_2)) 4 (.ref q_3)) 5 (.ref q_9)) 6 (.ref q_15)))), (q_1, .inl (Y 0, 400, .inl (fun _ => 0))), (q_2, .inl (Y 0, 3, .inl (fun _ => 0))), (q_3, .inr (3, fl 9 gn_4)), (q_9, .inr (3, fl 9 gn_10)), (trn_16, .inl (Y 1, 10, .inr (.inl (fun _ => 0)))), (pon_17, .inl (Y 1, 10, .inr (.inl (fun _ => 0)))), (grn_19, .inl (Y 1, 10, .inr (.inl (fun _ => 0)))), (son_18, .inl (Y 0, 640, .inl (fun _ => 0))), (fon_20, .inr (1, fl 7 gfn_22)), (q_15, .inr (2, fl 7 gmn_21))] H := hP
  have hD : va_D A [(h0, .inr (8, fl 9 (va_up (va_up (va_up (va_up (va_up (va_up g 0 (.ref q_1)) 2 (.int (-1))) 3 (.ref q_2)) 4 (.ref q_3)) 5 (.ref q_9)) 6 (.ref q_15)))), (q_1, .inl (Y 0, 400, .inl (fun _ => 0))), (q_2, .inl (Y 0, 3, .inl (fun _ => 0))), (q_3, .inr (3, fl 9 gn_4)), (q_9, .inr (3, fl 9 gn_10)), (trn_16, .inl (Y 1, 10, .inr (.inl (fun _ => 0)))), (pon_17, .inl (Y 1, 10, .inr (.inl (fun _ => 0)))), (grn_19, .inl (Y 1, 10, .inr (.inl (fun _ => 0)))), (son_18, .inl (Y 0, 640, .inl (fun _ => 0))), (fon_20, .inr (1, fl 7 gfn_22)), (q_15, .inr (2, fl 7 gmn_21))] := hD
  refine W.widen (k := 28) (n := 5079) (Nat.le_of_ble_eq_true rfl) (Nat.le_of_ble_eq_true rfl) ?_
  refine pFF (C := RX9) (T := TX9) (ci := 8) F hin hK hP hD hS 0 rfl rfl iwX9 tyX9 tyX9_ok nmX9 7 (by decide) m_349 (fun _ h => h) rfl rfl rfl rfl dX9_init_78 (fun H locs hP hD hS => ?_)
  have hP : va_P D vwCl [(h0, .inr (8, fl 9 (va_up (va_up (va_up (va_up (va_up (va_up (va_up g 0 (.ref q_1)) 2 (.int (-1))) 3 (.ref q_2)) 4 (.ref q_3)) 5 (.ref q_9)) 6 (.ref q_15)) 7 (.ref q_31)))), (q_1, .inl (Y 0, 400, .inl (fun _ => 0))), (q_2, .inl (Y 0, 3, .inl (fun _ => 0))), (q_3, .inr (3, fl 9 gn_4)), (q_9, .inr (3, fl 9 gn_10)), (trn_16, .inl (Y 1, 10, .inr (.inl (fun _ => 0)))), (pon_17, .inl (Y 1, 10, .inr (.inl (fun _ => 0)))), (grn_19, .inl (Y 1, 10, .inr (.inl (fun _ => 0)))), (son_18, .inl (Y 0, 640, .inl (fun _ => 0))), (fon_20, .inr (1, fl 7 gfn_22)), (q_15, .inr (2, fl 7 gmn_21))] H := hP
  have hD : va_D A [(h0, .inr (8, fl 9 (va_up (va_up (va_up (va_up (va_up (va_up (va_up g 0 (.ref q_1)) 2 (.int (-1))) 3 (.ref q_2)) 4 (.ref q_3)) 5 (.ref q_9)) 6 (.ref q_15)) 7 (.ref q_31)))), (q_1, .inl (Y 0, 400, .inl (fun _ => 0))), (q_2, .inl (Y 0, 3, .inl (fun _ => 0))), (q_3, .inr (3, fl 9 gn_4)), (q_9, .inr (3, fl 9 gn_10)), (trn_16, .inl (Y 1, 10, .inr (.inl (fun _ => 0)))), (pon_17, .inl (Y 1, 10, .inr (.inl (fun _ => 0)))), (grn_19, .inl (Y 1, 10, .inr (.inl (fun _ => 0)))), (son_18, .inl (Y 0, 640, .inl (fun _ => 0))), (fon_20, .inr (1, fl 7 gfn_22)), (q_15, .inr (2, fl 7 gmn_21))] := hD
  refine lv_aload_n hx hb dX9_init_81 rfl (lv_at hl 0 rfl) ?_
  refine nO (C := RX6) (T := TX6) (N := 14) (ci := 6) F hK hP hD hS hA rfl iwX6 tyX6 tyX6_ok m_350 m_351 m_102 (Nat.le_of_ble_eq_true rfl) (Nat.le_of_ble_eq_true rfl) dX9_init_82 (fun q_33 H hP hD hS => ?_)
  have hP : va_P D vwCl [(h0, .inr (8, fl 9 (va_up (va_up (va_up (va_up (va_up (va_up (va_up g 0 (.ref q_1)) 2 (.int (-1))) 3 (.ref q_2)) 4 (.ref q_3)) 5 (.ref q_9)) 6 (.ref q_15)) 7 (.ref q_31)))), (q_1, .inl (Y 0, 400, .inl (fun _ => 0))), (q_2, .inl (Y 0, 3, .inl (fun _ => 0))), (q_3, .inr (3, fl 9 gn_4)), (q_9, .inr (3, fl 9 gn_10)), (trn_16, .inl (Y 1, 10, .inr (.inl (fun _ => 0)))), (pon_17, .inl (Y 1, 10, .inr (.inl (fun _ => 0)))), (grn_19, .inl (Y 1, 10, .inr (.inl (fun _ => 0)))), (son_18, .inl (Y 0, 640, .inl (fun _ => 0))), (fon_20, .inr (1, fl 7 gfn_22)), (q_15, .inr (2, fl 7 gmn_21)), (q_33, .inr (6, fl 14 (fun k => defaultValue (tyX6 k))))] H := hP
  have hD : va_D A [(h0, .inr (8, fl 9 (va_up (va_up (va_up (va_up (va_up (va_up (va_up g 0 (.ref q_1)) 2 (.int (-1))) 3 (.ref q_2)) 4 (.ref q_3)) 5 (.ref q_9)) 6 (.ref q_15)) 7 (.ref q_31)))), (q_1, .inl (Y 0, 400, .inl (fun _ => 0))), (q_2, .inl (Y 0, 3, .inl (fun _ => 0))), (q_3, .inr (3, fl 9 gn_4)), (q_9, .inr (3, fl 9 gn_10)), (trn_16, .inl (Y 1, 10, .inr (.inl (fun _ => 0)))), (pon_17, .inl (Y 1, 10, .inr (.inl (fun _ => 0)))), (grn_19, .inl (Y 1, 10, .inr (.inl (fun _ => 0)))), (son_18, .inl (Y 0, 640, .inl (fun _ => 0))), (fon_20, .inr (1, fl 7 gfn_22)), (q_15, .inr (2, fl 7 gmn_21)), (q_33, .inr (6, fl 14 (fun k => defaultValue (tyX6 k))))] := hD
  refine W.widen (k := 29) (n := 5093) (Nat.le_of_ble_eq_true rfl) (Nat.le_of_ble_eq_true rfl) ?_
  refine lv_dup hx hb dX9_init_85 rfl ?_
  refine lv_aload_n hx hb dX9_init_86 rfl (lv_at hl 0 rfl) ?_
  refine gF (C := RX9) (T := TX9) (ci := 8) (v := .ref q_3) F hK hP 0 rfl rfl iwX9 4 (by decide) m_20 (fun _ h => h) rfl dX9_init_87 ?_
  refine lv_aload_n hx hb dX9_init_90 rfl (lv_at hl 0 rfl) ?_
  refine gF (C := RX9) (T := TX9) (ci := 8) (v := .ref q_15) F hK hP 0 rfl rfl iwX9 6 (by decide) m_146 (fun _ h => h) rfl dX9_init_91 ?_
  refine goV (wr := [(h0, .inr (8, fl 9 (va_up (va_up (va_up (va_up (va_up (va_up (va_up g 0 (.ref q_1)) 2 (.int (-1))) 3 (.ref q_2)) 4 (.ref q_3)) 5 (.ref q_9)) 6 (.ref q_15)) 7 (.ref q_31)))), (q_1, .inl (Y 0, 400, .inl (fun _ => 0))), (q_2, .inl (Y 0, 3, .inl (fun _ => 0))), (q_3, .inr (3, fl 9 gn_4)), (q_9, .inr (3, fl 9 gn_10)), (trn_16, .inl (Y 1, 10, .inr (.inl (fun _ => 0)))), (pon_17, .inl (Y 1, 10, .inr (.inl (fun _ => 0)))), (grn_19, .inl (Y 1, 10, .inr (.inl (fun _ => 0)))), (son_18, .inl (Y 0, 640, .inl (fun _ => 0))), (fon_20, .inr (1, fl 7 gfn_22))]) (runI (n := 2) (As := [.ref q_3, .ref q_15]) (rest := [.ref q_33, .ref h0]) F hK hZ hP hD hS hA (c_iT l D Y q_33 q_3 q_15 trn_16 pon_17 (fun k => defaultValue (tyX6 k)) gmn_21 rfl rfl rfl rfl o_25 o_26 ) [11, 10] rfl rfl m_354 m_353 m_102 m_352 rfl (by decide +kernel) rfl ⟨Nat.le_of_ble_eq_true rfl, Nat.le_of_ble_eq_true rfl⟩ hl.1 rfl (Nat.le_of_ble_eq_true rfl) dX9_init_94 ⟨Nat.le_of_ble_eq_true rfl, Nat.le_of_ble_eq_true rfl⟩) hP hD hS hA [11, 10] [0, 1, 2, 3, 4, 5, 6, 7, 8, 9] rfl rfl rfl (by decide) (fun u H locs hw hP hD hS => ?_)
  obtain ⟨nun_34, gtn_35, fnn_36⟩ := u
  obtain ⟨o_37, o_38, o_39, o_40, o_41⟩ := hw
  have hP : va_P D vwCl [(h0, .inr (8, fl 9 (va_up (va_up (va_up (va_up (va_up (va_up (va_up g 0 (.ref q_1)) 2 (.int (-1))) 3 (.ref q_2)) 4 (.ref q_3)) 5 (.ref q_9)) 6 (.ref q_15)) 7 (.ref q_31)))), (q_1, .inl (Y 0, 400, .inl (fun _ => 0))), (q_2, .inl (Y 0, 3, .inl (fun _ => 0))), (q_3, .inr (3, fl 9 gn_4)), (q_9, .inr (3, fl 9 gn_10)), (trn_16, .inl (Y 1, 10, .inr (.inl (fun _ => 0)))), (pon_17, .inl (Y 1, 10, .inr (.inl (fun _ => 0)))), (grn_19, .inl (Y 1, 10, .inr (.inl (fun _ => 0)))), (son_18, .inl (Y 0, 640, .inl (fun _ => 0))), (fon_20, .inr (1, fl 7 gfn_22)), (q_33, .inr (6, fl 14 gtn_35)), (nun_34, .inl (Y 0, 1000, .inl fnn_36)), (q_15, .inr (2, fl 7 gmn_21))] H := hP
  have hD : va_D A [(h0, .inr (8, fl 9 (va_up (va_up (va_up (va_up (va_up (va_up (va_up g 0 (.ref q_1)) 2 (.int (-1))) 3 (.ref q_2)) 4 (.ref q_3)) 5 (.ref q_9)) 6 (.ref q_15)) 7 (.ref q_31)))), (q_1, .inl (Y 0, 400, .inl (fun _ => 0))), (q_2, .inl (Y 0, 3, .inl (fun _ => 0))), (q_3, .inr (3, fl 9 gn_4)), (q_9, .inr (3, fl 9 gn_10)), (trn_16, .inl (Y 1, 10, .inr (.inl (fun _ => 0)))), (pon_17, .inl (Y 1, 10, .inr (.inl (fun _ => 0)))), (grn_19, .inl (Y 1, 10, .inr (.inl (fun _ => 0)))), (son_18, .inl (Y 0, 640, .inl (fun _ => 0))), (fon_20, .inr (1, fl 7 gfn_22)), (q_33, .inr (6, fl 14 gtn_35)), (nun_34, .inl (Y 0, 1000, .inl fnn_36)), (q_15, .inr (2, fl 7 gmn_21))] := hD
  refine W.widen (k := 39) (n := 11388) (Nat.le_of_ble_eq_true rfl) (Nat.le_of_ble_eq_true rfl) ?_
  refine pFF (C := RX9) (T := TX9) (ci := 8) F hin hK hP hD hS 0 rfl rfl iwX9 tyX9 tyX9_ok nmX9 8 (by decide) m_148 (fun _ h => h) rfl rfl rfl rfl dX9_init_97 (fun H locs hP hD hS => ?_)
  have hP : va_P D vwCl [(h0, .inr (8, fl 9 (va_up (va_up (va_up (va_up (va_up (va_up (va_up (va_up g 0 (.ref q_1)) 2 (.int (-1))) 3 (.ref q_2)) 4 (.ref q_3)) 5 (.ref q_9)) 6 (.ref q_15)) 7 (.ref q_31)) 8 (.ref q_33)))), (q_1, .inl (Y 0, 400, .inl (fun _ => 0))), (q_2, .inl (Y 0, 3, .inl (fun _ => 0))), (q_3, .inr (3, fl 9 gn_4)), (q_9, .inr (3, fl 9 gn_10)), (trn_16, .inl (Y 1, 10, .inr (.inl (fun _ => 0)))), (pon_17, .inl (Y 1, 10, .inr (.inl (fun _ => 0)))), (grn_19, .inl (Y 1, 10, .inr (.inl (fun _ => 0)))), (son_18, .inl (Y 0, 640, .inl (fun _ => 0))), (fon_20, .inr (1, fl 7 gfn_22)), (q_33, .inr (6, fl 14 gtn_35)), (nun_34, .inl (Y 0, 1000, .inl fnn_36)), (q_15, .inr (2, fl 7 gmn_21))] H := hP
  have hD : va_D A [(h0, .inr (8, fl 9 (va_up (va_up (va_up (va_up (va_up (va_up (va_up (va_up g 0 (.ref q_1)) 2 (.int (-1))) 3 (.ref q_2)) 4 (.ref q_3)) 5 (.ref q_9)) 6 (.ref q_15)) 7 (.ref q_31)) 8 (.ref q_33)))), (q_1, .inl (Y 0, 400, .inl (fun _ => 0))), (q_2, .inl (Y 0, 3, .inl (fun _ => 0))), (q_3, .inr (3, fl 9 gn_4)), (q_9, .inr (3, fl 9 gn_10)), (trn_16, .inl (Y 1, 10, .inr (.inl (fun _ => 0)))), (pon_17, .inl (Y 1, 10, .inr (.inl (fun _ => 0)))), (grn_19, .inl (Y 1, 10, .inr (.inl (fun _ => 0)))), (son_18, .inl (Y 0, 640, .inl (fun _ => 0))), (fon_20, .inr (1, fl 7 gfn_22)), (q_33, .inr (6, fl 14 gtn_35)), (nun_34, .inl (Y 0, 1000, .inl fnn_36)), (q_15, .inr (2, fl 7 gmn_21))] := hD
  exact retV F hr hlocks hP hD hS (q_1, q_2, q_3, q_9, q_15, q_33, nun_34, trn_16, pon_17, grn_19, son_18, fon_20, (va_up (va_up (va_up (va_up (va_up (va_up (va_up (va_up g 0 (.ref q_1)) 2 (.int (-1))) 3 (.ref q_2)) 4 (.ref q_3)) 5 (.ref q_9)) 6 (.ref q_15)) 7 (.ref q_31)) 8 (.ref q_33)), gn_4, gn_10, gmn_21, gtn_35, gfn_22, fnn_36) [0, 1, 2, 3, 4, 12, 5, 6, 7, 9, 8, 10, 11] rfl rfl (Nat.le_of_ble_eq_true rfl) (Nat.le_of_ble_eq_true rfl) dX9_init_100 ⟨rfl, g_1, rfl, rfl, rfl, rfl, rfl, rfl, o_5, o_6, o_7, o_11, o_23, o_25, o_26, o_27, o_28, o_29, o_37, o_38, o_39, o_40, o_41⟩
