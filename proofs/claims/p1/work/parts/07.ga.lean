theorem dJ7_fill_53178_0 : decode cJ7_fill_53178 0 = .ok (.iconst 0, 1) := by decide +kernel
theorem dJ7_fill_53178_1 : decode cJ7_fill_53178 1 = .ok (.istore_n 2, 1) := by decide +kernel
theorem dJ7_fill_53178_2 : decode cJ7_fill_53178 2 = .ok (.aload_n 0, 1) := by decide +kernel
theorem dJ7_fill_53178_3 : decode cJ7_fill_53178 3 = .ok (.arraylength, 1) := by decide +kernel
theorem dJ7_fill_53178_4 : decode cJ7_fill_53178 4 = .ok (.istore_n 3, 1) := by decide +kernel
theorem dJ7_fill_53178_5 : decode cJ7_fill_53178 5 = .ok (.iload_n 2, 1) := by decide +kernel
theorem dJ7_fill_53178_6 : decode cJ7_fill_53178 6 = .ok (.iload_n 3, 1) := by decide +kernel
theorem dJ7_fill_53178_7 : decode cJ7_fill_53178 7 = .ok (.if_icmp .ge 13, 3) := by decide +kernel
theorem dJ7_fill_53178_10 : decode cJ7_fill_53178 10 = .ok (.aload_n 0, 1) := by decide +kernel
theorem dJ7_fill_53178_11 : decode cJ7_fill_53178 11 = .ok (.iload_n 2, 1) := by decide +kernel
theorem dJ7_fill_53178_12 : decode cJ7_fill_53178 12 = .ok (.iload_n 1, 1) := by decide +kernel
theorem dJ7_fill_53178_13 : decode cJ7_fill_53178 13 = .ok (.iastore, 1) := by decide +kernel
theorem dJ7_fill_53178_14 : decode cJ7_fill_53178 14 = .ok (.iinc 2 1, 3) := by decide +kernel
theorem dJ7_fill_53178_17 : decode cJ7_fill_53178 17 = .ok (.goto (-12), 3) := by decide +kernel
theorem dJ7_fill_53178_20 : decode cJ7_fill_53178 20 = .ok (.return_, 1) := by decide +kernel
theorem dJ7_fill_d0a16_0 : decode cJ7_fill_d0a16 0 = .ok (.iconst 0, 1) := by decide +kernel
theorem dJ7_fill_d0a16_1 : decode cJ7_fill_d0a16 1 = .ok (.istore_n 3, 1) := by decide +kernel
theorem dJ7_fill_d0a16_2 : decode cJ7_fill_d0a16 2 = .ok (.aload_n 0, 1) := by decide +kernel
theorem dJ7_fill_d0a16_3 : decode cJ7_fill_d0a16 3 = .ok (.arraylength, 1) := by decide +kernel
theorem dJ7_fill_d0a16_4 : decode cJ7_fill_d0a16 4 = .ok (.istore 4, 2) := by decide +kernel
theorem dJ7_fill_d0a16_6 : decode cJ7_fill_d0a16 6 = .ok (.iload_n 3, 1) := by decide +kernel
theorem dJ7_fill_d0a16_7 : decode cJ7_fill_d0a16 7 = .ok (.iload 4, 2) := by decide +kernel
theorem dJ7_fill_d0a16_9 : decode cJ7_fill_d0a16 9 = .ok (.if_icmp .ge 13, 3) := by decide +kernel
theorem dJ7_fill_d0a16_12 : decode cJ7_fill_d0a16 12 = .ok (.aload_n 0, 1) := by decide +kernel
theorem dJ7_fill_d0a16_13 : decode cJ7_fill_d0a16 13 = .ok (.iload_n 3, 1) := by decide +kernel
theorem dJ7_fill_d0a16_14 : decode cJ7_fill_d0a16 14 = .ok (.lload_n 1, 1) := by decide +kernel
theorem dJ7_fill_d0a16_15 : decode cJ7_fill_d0a16 15 = .ok (.lastore, 1) := by decide +kernel
theorem dJ7_fill_d0a16_16 : decode cJ7_fill_d0a16 16 = .ok (.iinc 3 1, 3) := by decide +kernel
theorem dJ7_fill_d0a16_19 : decode cJ7_fill_d0a16 19 = .ok (.goto (-13), 3) := by decide +kernel
theorem dJ7_fill_d0a16_22 : decode cJ7_fill_d0a16 22 = .ok (.return_, 1) := by decide +kernel
theorem dJ13_bitCount_95d88_0 : decode cJ13_bitCount_95d88 0 = .ok (.lload_n 0, 1) := by decide +kernel
theorem dJ13_bitCount_95d88_1 : decode cJ13_bitCount_95d88 1 = .ok (.lload_n 0, 1) := by decide +kernel
theorem dJ13_bitCount_95d88_2 : decode cJ13_bitCount_95d88 2 = .ok (.iconst 1, 1) := by decide +kernel
theorem dJ13_bitCount_95d88_3 : decode cJ13_bitCount_95d88 3 = .ok (.lushr, 1) := by decide +kernel
theorem dJ13_bitCount_95d88_4 : decode cJ13_bitCount_95d88 4 = .ok (.ldc2_w 314, 3) := by decide +kernel
theorem dJ13_bitCount_95d88_7 : decode cJ13_bitCount_95d88 7 = .ok (.land, 1) := by decide +kernel
theorem dJ13_bitCount_95d88_8 : decode cJ13_bitCount_95d88 8 = .ok (.lsub, 1) := by decide +kernel
theorem dJ13_bitCount_95d88_9 : decode cJ13_bitCount_95d88 9 = .ok (.lstore_n 0, 1) := by decide +kernel
theorem dJ13_bitCount_95d88_10 : decode cJ13_bitCount_95d88 10 = .ok (.lload_n 0, 1) := by decide +kernel
theorem dJ13_bitCount_95d88_11 : decode cJ13_bitCount_95d88 11 = .ok (.ldc2_w 316, 3) := by decide +kernel
theorem dJ13_bitCount_95d88_14 : decode cJ13_bitCount_95d88 14 = .ok (.land, 1) := by decide +kernel
theorem dJ13_bitCount_95d88_15 : decode cJ13_bitCount_95d88 15 = .ok (.lload_n 0, 1) := by decide +kernel
theorem dJ13_bitCount_95d88_16 : decode cJ13_bitCount_95d88 16 = .ok (.iconst 2, 1) := by decide +kernel
theorem dJ13_bitCount_95d88_17 : decode cJ13_bitCount_95d88 17 = .ok (.lushr, 1) := by decide +kernel
theorem dJ13_bitCount_95d88_18 : decode cJ13_bitCount_95d88 18 = .ok (.ldc2_w 316, 3) := by decide +kernel
theorem dJ13_bitCount_95d88_21 : decode cJ13_bitCount_95d88 21 = .ok (.land, 1) := by decide +kernel
theorem dJ13_bitCount_95d88_22 : decode cJ13_bitCount_95d88 22 = .ok (.ladd, 1) := by decide +kernel
theorem dJ13_bitCount_95d88_23 : decode cJ13_bitCount_95d88 23 = .ok (.lstore_n 0, 1) := by decide +kernel
theorem dJ13_bitCount_95d88_24 : decode cJ13_bitCount_95d88 24 = .ok (.lload_n 0, 1) := by decide +kernel
theorem dJ13_bitCount_95d88_25 : decode cJ13_bitCount_95d88 25 = .ok (.lload_n 0, 1) := by decide +kernel
theorem dJ13_bitCount_95d88_26 : decode cJ13_bitCount_95d88 26 = .ok (.iconst 4, 1) := by decide +kernel
theorem dJ13_bitCount_95d88_27 : decode cJ13_bitCount_95d88 27 = .ok (.lushr, 1) := by decide +kernel
theorem dJ13_bitCount_95d88_28 : decode cJ13_bitCount_95d88 28 = .ok (.ladd, 1) := by decide +kernel
theorem dJ13_bitCount_95d88_29 : decode cJ13_bitCount_95d88 29 = .ok (.ldc2_w 318, 3) := by decide +kernel
theorem dJ13_bitCount_95d88_32 : decode cJ13_bitCount_95d88 32 = .ok (.land, 1) := by decide +kernel
theorem dJ13_bitCount_95d88_33 : decode cJ13_bitCount_95d88 33 = .ok (.lstore_n 0, 1) := by decide +kernel
theorem dJ13_bitCount_95d88_34 : decode cJ13_bitCount_95d88 34 = .ok (.lload_n 0, 1) := by decide +kernel
theorem dJ13_bitCount_95d88_35 : decode cJ13_bitCount_95d88 35 = .ok (.lload_n 0, 1) := by decide +kernel
theorem dJ13_bitCount_95d88_36 : decode cJ13_bitCount_95d88 36 = .ok (.bipush 8, 2) := by decide +kernel
theorem dJ13_bitCount_95d88_38 : decode cJ13_bitCount_95d88 38 = .ok (.lushr, 1) := by decide +kernel
theorem dJ13_bitCount_95d88_39 : decode cJ13_bitCount_95d88 39 = .ok (.ladd, 1) := by decide +kernel
theorem dJ13_bitCount_95d88_40 : decode cJ13_bitCount_95d88 40 = .ok (.lstore_n 0, 1) := by decide +kernel
theorem dJ13_bitCount_95d88_41 : decode cJ13_bitCount_95d88 41 = .ok (.lload_n 0, 1) := by decide +kernel
theorem dJ13_bitCount_95d88_42 : decode cJ13_bitCount_95d88 42 = .ok (.lload_n 0, 1) := by decide +kernel
theorem dJ13_bitCount_95d88_43 : decode cJ13_bitCount_95d88 43 = .ok (.bipush 16, 2) := by decide +kernel
theorem dJ13_bitCount_95d88_45 : decode cJ13_bitCount_95d88 45 = .ok (.lushr, 1) := by decide +kernel
theorem dJ13_bitCount_95d88_46 : decode cJ13_bitCount_95d88 46 = .ok (.ladd, 1) := by decide +kernel
theorem dJ13_bitCount_95d88_47 : decode cJ13_bitCount_95d88 47 = .ok (.lstore_n 0, 1) := by decide +kernel
theorem dJ13_bitCount_95d88_48 : decode cJ13_bitCount_95d88 48 = .ok (.lload_n 0, 1) := by decide +kernel
theorem dJ13_bitCount_95d88_49 : decode cJ13_bitCount_95d88 49 = .ok (.lload_n 0, 1) := by decide +kernel
theorem dJ13_bitCount_95d88_50 : decode cJ13_bitCount_95d88 50 = .ok (.bipush 32, 2) := by decide +kernel
theorem dJ13_bitCount_95d88_52 : decode cJ13_bitCount_95d88 52 = .ok (.lushr, 1) := by decide +kernel
theorem dJ13_bitCount_95d88_53 : decode cJ13_bitCount_95d88 53 = .ok (.ladd, 1) := by decide +kernel
theorem dJ13_bitCount_95d88_54 : decode cJ13_bitCount_95d88 54 = .ok (.lstore_n 0, 1) := by decide +kernel
theorem dJ13_bitCount_95d88_55 : decode cJ13_bitCount_95d88 55 = .ok (.lload_n 0, 1) := by decide +kernel
theorem dJ13_bitCount_95d88_56 : decode cJ13_bitCount_95d88 56 = .ok (.l2i, 1) := by decide +kernel
theorem dJ13_bitCount_95d88_57 : decode cJ13_bitCount_95d88 57 = .ok (.bipush 127, 2) := by decide +kernel
theorem dJ13_bitCount_95d88_59 : decode cJ13_bitCount_95d88 59 = .ok (.iand, 1) := by decide +kernel
theorem dJ13_bitCount_95d88_60 : decode cJ13_bitCount_95d88 60 = .ok (.ireturn, 1) := by decide +kernel
theorem dX9_putBytes_0 : decode cX9_putBytes 0 = .ok (.bipush 24, 2) := by decide +kernel
theorem dX9_putBytes_2 : decode cX9_putBytes 2 = .ok (.istore_n 2, 1) := by decide +kernel
theorem dX9_putBytes_3 : decode cX9_putBytes 3 = .ok (.iload_n 2, 1) := by decide +kernel
theorem dX9_putBytes_4 : decode cX9_putBytes 4 = .ok (.ifCond .lt 45, 3) := by decide +kernel
theorem dX9_putBytes_7 : decode cX9_putBytes 7 = .ok (.aload_n 0, 1) := by decide +kernel
theorem dX9_putBytes_8 : decode cX9_putBytes 8 = .ok (.getfield 55, 3) := by decide +kernel
theorem dX9_putBytes_11 : decode cX9_putBytes 11 = .ok (.sipush 400, 3) := by decide +kernel
theorem dX9_putBytes_14 : decode cX9_putBytes 14 = .ok (.if_icmp .ge 35, 3) := by decide +kernel
theorem dX9_putBytes_17 : decode cX9_putBytes 17 = .ok (.aload_n 0, 1) := by decide +kernel
theorem dX9_putBytes_18 : decode cX9_putBytes 18 = .ok (.getfield 9, 3) := by decide +kernel
theorem dX9_putBytes_21 : decode cX9_putBytes 21 = .ok (.aload_n 0, 1) := by decide +kernel
theorem dX9_putBytes_22 : decode cX9_putBytes 22 = .ok (.getfield 55, 3) := by decide +kernel
theorem dX9_putBytes_25 : decode cX9_putBytes 25 = .ok (.iload_n 1, 1) := by decide +kernel
theorem dX9_putBytes_26 : decode cX9_putBytes 26 = .ok (.iload_n 2, 1) := by decide +kernel
theorem dX9_putBytes_27 : decode cX9_putBytes 27 = .ok (.ishr, 1) := by decide +kernel
theorem dX9_putBytes_28 : decode cX9_putBytes 28 = .ok (.sipush 255, 3) := by decide +kernel
theorem dX9_putBytes_31 : decode cX9_putBytes 31 = .ok (.iand, 1) := by decide +kernel
theorem dX9_putBytes_32 : decode cX9_putBytes 32 = .ok (.iastore, 1) := by decide +kernel
theorem dX9_putBytes_33 : decode cX9_putBytes 33 = .ok (.aload_n 0, 1) := by decide +kernel
theorem dX9_putBytes_34 : decode cX9_putBytes 34 = .ok (.dup, 1) := by decide +kernel
theorem dX9_putBytes_35 : decode cX9_putBytes 35 = .ok (.getfield 55, 3) := by decide +kernel
theorem dX9_putBytes_38 : decode cX9_putBytes 38 = .ok (.iconst 1, 1) := by decide +kernel
theorem dX9_putBytes_39 : decode cX9_putBytes 39 = .ok (.iadd, 1) := by decide +kernel
theorem dX9_putBytes_40 : decode cX9_putBytes 40 = .ok (.putfield 55, 3) := by decide +kernel
theorem dX9_putBytes_43 : decode cX9_putBytes 43 = .ok (.iinc 2 (-8), 3) := by decide +kernel
theorem dX9_putBytes_46 : decode cX9_putBytes 46 = .ok (.goto (-43), 3) := by decide +kernel
theorem dX9_putBytes_49 : decode cX9_putBytes 49 = .ok (.return_, 1) := by decide +kernel
theorem dX9_feed_0 : decode cX9_feed 0 = .ok (.aload_n 0, 1) := by decide +kernel
theorem dX9_feed_1 : decode cX9_feed 1 = .ok (.getfield 55, 3) := by decide +kernel
theorem dX9_feed_4 : decode cX9_feed 4 = .ok (.bipush 20, 2) := by decide +kernel
theorem dX9_feed_6 : decode cX9_feed 6 = .ok (.iadd, 1) := by decide +kernel
theorem dX9_feed_7 : decode cX9_feed 7 = .ok (.sipush 400, 3) := by decide +kernel
theorem dX9_feed_10 : decode cX9_feed 10 = .ok (.if_icmp .le 5, 3) := by decide +kernel
theorem dX9_feed_15 : decode cX9_feed 15 = .ok (.aload_n 0, 1) := by decide +kernel
theorem dX9_feed_16 : decode cX9_feed 16 = .ok (.iload_n 1, 1) := by decide +kernel
theorem dX9_feed_17 : decode cX9_feed 17 = .ok (.invokevirtual 58, 3) := by decide +kernel
theorem dX9_feed_20 : decode cX9_feed 20 = .ok (.aload_n 0, 1) := by decide +kernel
theorem dX9_feed_21 : decode cX9_feed 21 = .ok (.iload_n 2, 1) := by decide +kernel
theorem dX9_feed_22 : decode cX9_feed 22 = .ok (.invokevirtual 58, 3) := by decide +kernel
theorem dX9_feed_25 : decode cX9_feed 25 = .ok (.aload_n 0, 1) := by decide +kernel
theorem dX9_feed_26 : decode cX9_feed 26 = .ok (.iload_n 3, 1) := by decide +kernel
theorem dX9_feed_27 : decode cX9_feed 27 = .ok (.invokevirtual 58, 3) := by decide +kernel
theorem dX9_feed_30 : decode cX9_feed 30 = .ok (.aload_n 0, 1) := by decide +kernel
theorem dX9_feed_31 : decode cX9_feed 31 = .ok (.iload 4, 2) := by decide +kernel
theorem dX9_feed_33 : decode cX9_feed 33 = .ok (.invokevirtual 58, 3) := by decide +kernel
theorem dX9_feed_36 : decode cX9_feed 36 = .ok (.aload_n 0, 1) := by decide +kernel
theorem dX9_feed_37 : decode cX9_feed 37 = .ok (.iload 5, 2) := by decide +kernel
theorem dX9_feed_39 : decode cX9_feed 39 = .ok (.invokevirtual 58, 3) := by decide +kernel
theorem dX9_feed_42 : decode cX9_feed 42 = .ok (.aload_n 0, 1) := by decide +kernel
theorem dX9_feed_43 : decode cX9_feed 43 = .ok (.getfield 55, 3) := by decide +kernel
theorem dX9_feed_46 : decode cX9_feed 46 = .ok (.ireturn, 1) := by decide +kernel
theorem dX9_fault_0 : decode cX9_fault 0 = .ok (.aload_n 0, 1) := by decide +kernel
theorem dX9_fault_1 : decode cX9_fault 1 = .ok (.getfield 13, 3) := by decide +kernel
theorem dX9_fault_4 : decode cX9_fault 4 = .ok (.ireturn, 1) := by decide +kernel
set_option maxRecDepth 100000 in
set_option maxHeartbeats 4000000 in
theorem c_fillI (l : Launch) (D : va_G) (Y : Nat → ClassId) (a : Nat) (v : Int32) (n : Nat) (f : Nat → Int32)  (hn : n < 2 ^ 31) : cM l D Y yJ7_fill_53178 cJ7_fill_53178 4 none 1 0 0 [.ref a, .int v] [(a, .inl (Y 0, n, .inl f))] (qV D (fun (u : Nat → Int32) => True) (fun (u : Nat → Int32) => [(a, .inl (Y 0, n, .inl u))])) := by
  refine cM.mk RJ7 rfl (by decide) (Nat.le_of_ble_eq_true rfl) ?_
  intro p e s m below meth c A F hr hlocks hin hK hZ hP hD hA hS ls hl
  have hx := F.1
  have hb := F.2.1
  have hl : lv_has ls 4 [(0, .ref a), (1, .int v)] := hl
  refine lv_iconst (v := 0) hx hb dJ7_fill_53178_0 (by decide) ?_
  refine lv_istore_n (lv' := [(2, .int 0), (0, .ref a), (1, .int v)]) hx hb dJ7_fill_53178_1 rfl hl (by decide) rfl (fun ls hl => ?_)
  refine lv_aload_n hx hb dJ7_fill_53178_2 rfl (lv_at hl 1 rfl) ?_
  refine va_alen (v := (nI n)) hx hb hK.1 hP 0 0 rfl rfl rfl dJ7_fill_53178_3 ?_
  refine lv_istore_n (lv' := [(3, .int (nI n)), (2, .int 0), (0, .ref a), (1, .int v)]) hx hb dJ7_fill_53178_4 rfl hl (by decide) rfl (fun ls hl => ?_)
  refine loopN (X := Nat → Int32) n (fun i x H locs ls => va_P D vwCl [(a, .inl (Y 0, n, .inl x))] H ∧ va_D A [(a, .inl (Y 0, n, .inl x))] ∧ va_S A s.heap H locs ∧ lv_has ls 4 [(0, .ref a), (1, .int v), (2, .int (nI i)), (3, .int (nI n))]) 5 ?_ ?_ 0 f (by omega) ⟨hP, hD, hS, lv_sub hl [2, 3, 1, 0] rfl⟩
  · rintro g H locs ls ⟨hP, hD, hS, hl⟩
    have hP : va_P D vwCl [(a, .inl (Y 0, n, .inl g))] H := hP
    have hD : va_D A [(a, .inl (Y 0, n, .inl g))] := hD
    have hl : lv_has ls 4 [(0, .ref a), (1, .int v), (2, .int (nI n)), (3, .int (nI n))] := hl
    refine lv_iload_n hx hb dJ7_fill_53178_5 rfl (lv_at hl 2 rfl) ?_
    refine lv_iload_n hx hb dJ7_fill_53178_6 rfl (lv_at hl 3 rfl) ?_
    refine lv_icmp_ge (tgt := 20) hx hb dJ7_fill_53178_7 (by decide) (fun _ => ?_) (fun c9 => absurd (nI_le (Nat.le_refl n) hn) c9)
    exact retV F hr hlocks hP hD hS g [0] rfl rfl (Nat.le_of_ble_eq_true rfl) (Nat.le_of_ble_eq_true rfl) dJ7_fill_53178_20 trivial
  · rintro i g H locs ls hi ⟨hP, hD, hS, hl⟩ ih
    have hP : va_P D vwCl [(a, .inl (Y 0, n, .inl g))] H := hP
    have hD : va_D A [(a, .inl (Y 0, n, .inl g))] := hD
    refine lv_iload_n hx hb dJ7_fill_53178_5 rfl (lv_at hl 2 rfl) ?_
    refine lv_iload_n hx hb dJ7_fill_53178_6 rfl (lv_at hl 3 rfl) ?_
    refine lv_icmp_ge (tgt := 20) hx hb dJ7_fill_53178_7 (by decide) (fun c9 => absurd c9 (nI_ge hi hn)) (fun _ => ?_)
    refine lv_aload_n hx hb dJ7_fill_53178_10 rfl (lv_at hl 0 rfl) ?_
    refine lv_iload_n hx hb dJ7_fill_53178_11 rfl (lv_at hl 2 rfl) ?_
    refine lv_iload_n hx hb dJ7_fill_53178_12 rfl (lv_at hl 1 rfl) ?_
    refine va_iast hx hb hK.1 hP hD hS 0 0 rfl rfl (vp_in_nI hi hn) dJ7_fill_53178_13 (fun H locs hP hD hS => ?_)
    have hP : va_P D vwCl [(a, .inl (Y 0, n, .inl (upd g (nI i).toNatClampNeg v)))] H := hP
    have hD : va_D A [(a, .inl (Y 0, n, .inl (upd g (nI i).toNatClampNeg v)))] := hD
    generalize (upd g (nI i).toNatClampNeg v) = f_1 at hP hD
    refine lv_iinc (v := (nI (i + 1))) (lv' := [(2, .int (nI (i + 1))), (0, .ref a), (1, .int v), (3, .int (nI n))]) hx hb dJ7_fill_53178_14 hl (k := 2) rfl (nI_1 i) (by decide) rfl (fun ls hl => ?_)
    refine lv_goto (tgt := 5) hx hb dJ7_fill_53178_17 (by decide) ?_
    exact ih f_1 _ _ _ ⟨hP, hD, hS, lv_sub hl [1, 2, 0, 3] rfl⟩
set_option maxRecDepth 100000 in
set_option maxHeartbeats 4000000 in
theorem c_fillL (l : Launch) (D : va_G) (Y : Nat → ClassId) (a : Nat)   : cM l D Y yJ7_fill_d0a16 cJ7_fill_d0a16 5 none 1 0 0 [.ref a, .long 0] [(a, .inl (Y 1, 10, .inr (.inl (fun _ => 0))))] (qV D (fun (u : Unit) => True) (fun (u : Unit) => [(a, .inl (Y 1, 10, .inr (.inl (fun _ => 0))))])) := by
  refine cM.mk RJ7 rfl (by decide) (Nat.le_of_ble_eq_true rfl) ?_
  intro p e s m below meth c A F hr hlocks hin hK hZ hP hD hA hS ls hl
  have hx := F.1
  have hb := F.2.1
  have hl : lv_has ls 5 [(0, .ref a), (1, .long 0)] := hl
  refine lv_iconst (v := 0) hx hb dJ7_fill_d0a16_0 (by decide) ?_
  refine lv_istore_n (lv' := [(3, .int 0), (0, .ref a), (1, .long 0)]) hx hb dJ7_fill_d0a16_1 rfl hl (by decide) rfl (fun ls hl => ?_)
  refine lv_aload_n hx hb dJ7_fill_d0a16_2 rfl (lv_at hl 1 rfl) ?_
  refine va_alen (v := 10) hx hb hK.1 hP 0 1 rfl rfl rfl dJ7_fill_d0a16_3 ?_
  refine lv_istore (lv' := [(4, .int 10), (3, .int 0), (0, .ref a), (1, .long 0)]) hx hb dJ7_fill_d0a16_4 hl (by decide) rfl (fun ls hl => ?_)
  refine loopN (X := Unit) 10 (fun i x H locs ls => va_P D vwCl [(a, .inl (Y 1, 10, .inr (.inl (fun _ => 0))))] H ∧ va_D A [(a, .inl (Y 1, 10, .inr (.inl (fun _ => 0))))] ∧ va_S A s.heap H locs ∧ lv_has ls 5 [(0, .ref a), (1, .long 0), (3, .int (nI i)), (4, .int 10)]) 6 ?_ ?_ 0 () (by omega) ⟨hP, hD, hS, lv_sub hl [2, 3, 1, 0] rfl⟩
  · rintro _ H locs ls ⟨hP, hD, hS, hl⟩
    have hP : va_P D vwCl [(a, .inl (Y 1, 10, .inr (.inl (fun _ => 0))))] H := hP
    have hD : va_D A [(a, .inl (Y 1, 10, .inr (.inl (fun _ => 0))))] := hD
    have hl : lv_has ls 5 [(0, .ref a), (1, .long 0), (3, .int 10), (4, .int 10)] := hl
    refine lv_iload_n hx hb dJ7_fill_d0a16_6 rfl (lv_at hl 2 rfl) ?_
    refine lv_iload hx hb dJ7_fill_d0a16_7 (lv_at hl 3 rfl) ?_
    refine lv_icmp_ge (tgt := 22) hx hb dJ7_fill_d0a16_9 (by decide) (fun _ => ?_) (fun c9 => absurd (by decide) c9)
    exact retV F hr hlocks hP hD hS () [0] rfl rfl (Nat.le_of_ble_eq_true rfl) (Nat.le_of_ble_eq_true rfl) dJ7_fill_d0a16_22 trivial
  · rintro i _ H locs ls hi ⟨hP, hD, hS, hl⟩ ih
    have hP : va_P D vwCl [(a, .inl (Y 1, 10, .inr (.inl (fun _ => 0))))] H := hP
    have hD : va_D A [(a, .inl (Y 1, 10, .inr (.inl (fun _ => 0))))] := hD
    refine lv_iload_n hx hb dJ7_fill_d0a16_6 rfl (lv_at hl 2 rfl) ?_
    refine lv_iload hx hb dJ7_fill_d0a16_7 (lv_at hl 3 rfl) ?_
    refine lv_icmp_ge (tgt := 22) hx hb dJ7_fill_d0a16_9 (by decide) (fun c9 => absurd c9 (nI_ge (b := 10) hi (by decide))) (fun _ => ?_)
    refine lv_aload_n hx hb dJ7_fill_d0a16_12 rfl (lv_at hl 0 rfl) ?_
    refine lv_iload_n hx hb dJ7_fill_d0a16_13 rfl (lv_at hl 2 rfl) ?_
    refine lv_lload_n hx hb dJ7_fill_d0a16_14 rfl (lv_at hl 1 rfl) ?_
    refine va_last hx hb hK.1 hP hD hS 0 1 rfl rfl (vp_in_nI hi (by decide)) dJ7_fill_d0a16_15 (fun H locs hP hD hS => ?_)
    have hP : va_P D vwCl [(a, .inl (Y 1, 10, .inr (.inl (vp_updL (fun _ => 0) (nI i).toNatClampNeg 0))))] H := hP
    have hD : va_D A [(a, .inl (Y 1, 10, .inr (.inl (vp_updL (fun _ => 0) (nI i).toNatClampNeg 0))))] := hD
    have e_f : (vp_updL (fun _ => 0) (nI i).toNatClampNeg 0) = (fun _ => 0) := updL0 _
    rw [e_f] at hP hD
    clear e_f
    refine lv_iinc (v := (nI (i + 1))) (lv' := [(3, .int (nI (i + 1))), (0, .ref a), (1, .long 0), (4, .int 10)]) hx hb dJ7_fill_d0a16_16 hl (k := 2) rfl (nI_1 i) (by decide) rfl (fun ls hl => ?_)
    refine lv_goto (tgt := 6) hx hb dJ7_fill_d0a16_19 (by decide) ?_
    exact ih () _ _ _ ⟨hP, hD, hS, lv_sub hl [1, 2, 0, 3] rfl⟩
set_option maxRecDepth 100000 in
set_option maxHeartbeats 4000000 in
theorem c_bit0 (l : Launch) (D : va_G) (Y : Nat → ClassId)    : cM l D Y yJ13_bitCount_95d88 cJ13_bitCount_95d88 2 (some .int) 1 0 0 [.long 0] [] (qI D (fun (r : Int32) (u : Unit) => r = 0) (fun (u : Unit) => [])) := by
  refine cM.mk RJ13 rfl (by decide) (Nat.le_of_ble_eq_true rfl) ?_
  intro p e s m below meth c A F hr hlocks hin hK hZ hP hD hA hS ls hl
  have hx := F.1
  have hb := F.2.1
  have hl : lv_has ls 2 [(0, .long 0)] := hl
  refine lv_lload_n hx hb dJ13_bitCount_95d88_0 rfl (lv_at hl 0 rfl) ?_
  refine lv_lload_n hx hb dJ13_bitCount_95d88_1 rfl (lv_at hl 0 rfl) ?_
  refine lv_iconst (v := 1) hx hb dJ13_bitCount_95d88_2 (by decide) ?_
  refine lv_lushr (v := 0) hx hb dJ13_bitCount_95d88_3 (by decide) ?_
  refine lv_ldc2 hx hb F.2.2.2.1 (F.2.2.2.2 _ m_0) dJ13_bitCount_95d88_4 ?_
  refine lv_land hx hb dJ13_bitCount_95d88_7 ?_
  refine lv_tol (v := 0) (by decide) ?_
  refine lv_lsub hx hb dJ13_bitCount_95d88_8 ?_
  refine lv_tol (v := 0) (by decide) ?_
  refine lv_lstore_n (lv' := [(0, .long 0)]) hx hb dJ13_bitCount_95d88_9 rfl hl (by decide) rfl (fun ls hl => ?_)
  refine lv_lload_n hx hb dJ13_bitCount_95d88_10 rfl (lv_at hl 0 rfl) ?_
  refine lv_ldc2 hx hb F.2.2.2.1 (F.2.2.2.2 _ m_1) dJ13_bitCount_95d88_11 ?_
  refine lv_land hx hb dJ13_bitCount_95d88_14 ?_
  refine lv_tol (v := 0) (by decide) ?_
  refine lv_lload_n hx hb dJ13_bitCount_95d88_15 rfl (lv_at hl 0 rfl) ?_
  refine lv_iconst (v := 2) hx hb dJ13_bitCount_95d88_16 (by decide) ?_
  refine lv_lushr (v := 0) hx hb dJ13_bitCount_95d88_17 (by decide) ?_
  refine lv_ldc2 hx hb F.2.2.2.1 (F.2.2.2.2 _ m_1) dJ13_bitCount_95d88_18 ?_
  refine lv_land hx hb dJ13_bitCount_95d88_21 ?_
  refine lv_tol (v := 0) (by decide) ?_
  refine lv_ladd hx hb dJ13_bitCount_95d88_22 ?_
  refine lv_tol (v := 0) (by decide) ?_
  refine lv_lstore_n (lv' := [(0, .long 0)]) hx hb dJ13_bitCount_95d88_23 rfl hl (by decide) rfl (fun ls hl => ?_)
  refine lv_lload_n hx hb dJ13_bitCount_95d88_24 rfl (lv_at hl 0 rfl) ?_
  refine lv_lload_n hx hb dJ13_bitCount_95d88_25 rfl (lv_at hl 0 rfl) ?_
  refine lv_iconst (v := 4) hx hb dJ13_bitCount_95d88_26 (by decide) ?_
  refine lv_lushr (v := 0) hx hb dJ13_bitCount_95d88_27 (by decide) ?_
  refine lv_ladd hx hb dJ13_bitCount_95d88_28 ?_
  refine lv_tol (v := 0) (by decide) ?_
  refine lv_ldc2 hx hb F.2.2.2.1 (F.2.2.2.2 _ m_2) dJ13_bitCount_95d88_29 ?_
  refine lv_land hx hb dJ13_bitCount_95d88_32 ?_
  refine lv_tol (v := 0) (by decide) ?_
  refine lv_lstore_n (lv' := [(0, .long 0)]) hx hb dJ13_bitCount_95d88_33 rfl hl (by decide) rfl (fun ls hl => ?_)
  refine lv_lload_n hx hb dJ13_bitCount_95d88_34 rfl (lv_at hl 0 rfl) ?_
  refine lv_lload_n hx hb dJ13_bitCount_95d88_35 rfl (lv_at hl 0 rfl) ?_
  refine lv_bipush (v := 8) hx hb dJ13_bitCount_95d88_36 (by decide) ?_
  refine lv_lushr (v := 0) hx hb dJ13_bitCount_95d88_38 (by decide) ?_
  refine lv_ladd hx hb dJ13_bitCount_95d88_39 ?_
  refine lv_tol (v := 0) (by decide) ?_
  refine lv_lstore_n (lv' := [(0, .long 0)]) hx hb dJ13_bitCount_95d88_40 rfl hl (by decide) rfl (fun ls hl => ?_)
  refine lv_lload_n hx hb dJ13_bitCount_95d88_41 rfl (lv_at hl 0 rfl) ?_
  refine lv_lload_n hx hb dJ13_bitCount_95d88_42 rfl (lv_at hl 0 rfl) ?_
  refine lv_bipush (v := 16) hx hb dJ13_bitCount_95d88_43 (by decide) ?_
  refine lv_lushr (v := 0) hx hb dJ13_bitCount_95d88_45 (by decide) ?_
  refine lv_ladd hx hb dJ13_bitCount_95d88_46 ?_
  refine lv_tol (v := 0) (by decide) ?_
  refine lv_lstore_n (lv' := [(0, .long 0)]) hx hb dJ13_bitCount_95d88_47 rfl hl (by decide) rfl (fun ls hl => ?_)
  refine lv_lload_n hx hb dJ13_bitCount_95d88_48 rfl (lv_at hl 0 rfl) ?_
  refine lv_lload_n hx hb dJ13_bitCount_95d88_49 rfl (lv_at hl 0 rfl) ?_
  refine lv_bipush (v := 32) hx hb dJ13_bitCount_95d88_50 (by decide) ?_
  refine lv_lushr (v := 0) hx hb dJ13_bitCount_95d88_52 (by decide) ?_
  refine lv_ladd hx hb dJ13_bitCount_95d88_53 ?_
  refine lv_tol (v := 0) (by decide) ?_
  refine lv_lstore_n (lv' := [(0, .long 0)]) hx hb dJ13_bitCount_95d88_54 rfl hl (by decide) rfl (fun ls hl => ?_)
  refine lv_lload_n hx hb dJ13_bitCount_95d88_55 rfl (lv_at hl 0 rfl) ?_
  refine lv_l2i (v := 0) hx hb dJ13_bitCount_95d88_56 (by decide) ?_
  refine lv_bipush (v := 127) hx hb dJ13_bitCount_95d88_57 (by decide) ?_
  refine lv_iand hx hb dJ13_bitCount_95d88_59 ?_
  refine lv_toc (v := 0) (by decide) ?_
  exact retI F hr hlocks rfl hP hD hS () [] rfl rfl (Nat.le_of_ble_eq_true rfl) (Nat.le_of_ble_eq_true rfl) dJ13_bitCount_95d88_60 rfl
set_option maxRecDepth 100000 in
set_option maxHeartbeats 4000000 in
theorem c_putBytes (l : Launch) (D : va_G) (Y : Nat → ClassId) (h0 : Nat) (tp : Nat) (t : Nat) (v : Int32) (g : Nat → Value) (f : Nat → Int32) (g_0 : g 0 = .ref tp) (g_1 : g 1 = .int (nI t)) (ht : t + 4 ≤ 400) : cM l D Y yX9_putBytes cX9_putBytes 3 none 1 0 0 [.ref h0, .int v] [(h0, .inr (8, fl 9 g)), (tp, .inl (Y 0, 400, .inl f))] (qV D (fun (u : (Nat → Value) × (Nat → Int32)) => u.1 0 = .ref tp ∧ u.1 1 = .int (nI (t + 1 + 1 + 1 + 1))) (fun (u : (Nat → Value) × (Nat → Int32)) => [(h0, .inr (8, fl 9 u.1)), (tp, .inl (Y 0, 400, .inl u.2))])) := by
  refine cM.mk RX9 rfl (by decide) (Nat.le_of_ble_eq_true rfl) ?_
  intro p e s m below meth c A F hr hlocks hin hK hZ hP hD hA hS ls hl
  have hx := F.1
  have hb := F.2.1
  have hl : lv_has ls 3 [(0, .ref h0), (1, .int v)] := hl
  refine lv_bipush (v := 24) hx hb dX9_putBytes_0 (by decide) ?_
  refine lv_istore_n (lv' := [(2, .int 24), (0, .ref h0), (1, .int v)]) hx hb dX9_putBytes_2 rfl hl (by decide) rfl (fun ls hl => ?_)
  refine lv_iload_n hx hb dX9_putBytes_3 rfl (lv_at hl 0 rfl) ?_
  refine lv_if_lt (tgt := 49) hx hb dX9_putBytes_4 (by decide) (fun c9 => absurd c9 (by decide)) (fun _ => ?_)
  refine lv_aload_n hx hb dX9_putBytes_7 rfl (lv_at hl 1 rfl) ?_
  refine gF (C := RX9) (T := TX9) (ci := 8) (v := .int (nI t)) F hK hP 0 rfl rfl iwX9 1 (by decide) m_3 (fun _ h => h) g_1 dX9_putBytes_8 ?_
  refine lv_sipush (v := 400) hx hb dX9_putBytes_11 (by decide) ?_
  refine lv_icmp_ge (tgt := 49) hx hb dX9_putBytes_14 (by decide) (fun c9 => absurd c9 (nI_ge (b := 400) (by omega) (by decide))) (fun _ => ?_)
  refine lv_aload_n hx hb dX9_putBytes_17 rfl (lv_at hl 1 rfl) ?_
  refine gF (C := RX9) (T := TX9) (ci := 8) (v := .ref tp) F hK hP 0 rfl rfl iwX9 0 (by decide) m_4 (fun _ h => h) g_0 dX9_putBytes_18 ?_
  refine lv_aload_n hx hb dX9_putBytes_21 rfl (lv_at hl 1 rfl) ?_
  refine gF (C := RX9) (T := TX9) (ci := 8) (v := .int (nI t)) F hK hP 0 rfl rfl iwX9 1 (by decide) m_3 (fun _ h => h) g_1 dX9_putBytes_22 ?_
  refine lv_iload_n hx hb dX9_putBytes_25 rfl (lv_at hl 2 rfl) ?_
  refine lv_iload_n hx hb dX9_putBytes_26 rfl (lv_at hl 0 rfl) ?_
  refine lv_ishr hx hb dX9_putBytes_27 ?_
  refine lv_topi (fun z_1 e_z_1 => ?_)
  refine lv_sipush (v := 255) hx hb dX9_putBytes_28 (by decide) ?_
  refine lv_iand hx hb dX9_putBytes_31 ?_
  refine lv_topi (fun z_2 e_z_2 => ?_)
  refine va_iast hx hb hK.1 hP hD hS 1 0 rfl rfl (vp_in_nI (by omega) (by decide)) dX9_putBytes_32 (fun H locs hP hD hS => ?_)
  have hP : va_P D vwCl [(h0, .inr (8, fl 9 g)), (tp, .inl (Y 0, 400, .inl (upd f (nI t).toNatClampNeg z_2)))] H := hP
  have hD : va_D A [(h0, .inr (8, fl 9 g)), (tp, .inl (Y 0, 400, .inl (upd f (nI t).toNatClampNeg z_2)))] := hD
  generalize (upd f (nI t).toNatClampNeg z_2) = f_3 at hP hD
  refine lv_aload_n hx hb dX9_putBytes_33 rfl (lv_at hl 1 rfl) ?_
  refine lv_dup hx hb dX9_putBytes_34 rfl ?_
  refine gF (C := RX9) (T := TX9) (ci := 8) (v := .int (nI t)) F hK hP 0 rfl rfl iwX9 1 (by decide) m_3 (fun _ h => h) g_1 dX9_putBytes_35 ?_
  refine lv_iconst (v := 1) hx hb dX9_putBytes_38 (by decide) ?_
  refine lv_iadd hx hb dX9_putBytes_39 ?_
  refine lv_toc (v := nI (t + 1)) (nI_1 _) ?_
  refine pF (C := RX9) (T := TX9) (ci := 8) F hK hP hD hS 0 rfl rfl iwX9 tyX9 tyX9_ok nmX9 1 (by decide) m_3 (fun _ h => h) rfl rfl rfl dX9_putBytes_40 (fun H locs hP hD hS => ?_)
  have hP : va_P D vwCl [(h0, .inr (8, fl 9 (va_up g 1 (.int (nI (t + 1)))))), (tp, .inl (Y 0, 400, .inl f_3))] H := hP
  have hD : va_D A [(h0, .inr (8, fl 9 (va_up g 1 (.int (nI (t + 1)))))), (tp, .inl (Y 0, 400, .inl f_3))] := hD
  refine lv_iinc (v := 16) (lv' := [(2, .int 16), (0, .ref h0), (1, .int v)]) hx hb dX9_putBytes_43 hl (k := 0) rfl (by decide) (by decide) rfl (fun ls hl => ?_)
  refine lv_goto (tgt := 3) hx hb dX9_putBytes_46 (by decide) ?_
  refine lv_iload_n hx hb dX9_putBytes_3 rfl (lv_at hl 0 rfl) ?_
  refine lv_if_lt (tgt := 49) hx hb dX9_putBytes_4 (by decide) (fun c9 => absurd c9 (by decide)) (fun _ => ?_)
  refine lv_aload_n hx hb dX9_putBytes_7 rfl (lv_at hl 1 rfl) ?_
  refine gF (C := RX9) (T := TX9) (ci := 8) (v := .int (nI (t + 1))) F hK hP 0 rfl rfl iwX9 1 (by decide) m_3 (fun _ h => h) rfl dX9_putBytes_8 ?_
  refine lv_sipush (v := 400) hx hb dX9_putBytes_11 (by decide) ?_
  refine lv_icmp_ge (tgt := 49) hx hb dX9_putBytes_14 (by decide) (fun c9 => absurd c9 (nI_ge (b := 400) (by omega) (by decide))) (fun _ => ?_)
  refine lv_aload_n hx hb dX9_putBytes_17 rfl (lv_at hl 1 rfl) ?_
  refine gF (C := RX9) (T := TX9) (ci := 8) (v := .ref tp) F hK hP 0 rfl rfl iwX9 0 (by decide) m_4 (fun _ h => h) g_0 dX9_putBytes_18 ?_
  refine lv_aload_n hx hb dX9_putBytes_21 rfl (lv_at hl 1 rfl) ?_
  refine gF (C := RX9) (T := TX9) (ci := 8) (v := .int (nI (t + 1))) F hK hP 0 rfl rfl iwX9 1 (by decide) m_3 (fun _ h => h) rfl dX9_putBytes_22 ?_
  refine lv_iload_n hx hb dX9_putBytes_25 rfl (lv_at hl 2 rfl) ?_
  refine lv_iload_n hx hb dX9_putBytes_26 rfl (lv_at hl 0 rfl) ?_
  refine lv_ishr hx hb dX9_putBytes_27 ?_
  refine lv_topi (fun z_4 e_z_4 => ?_)
  refine lv_sipush (v := 255) hx hb dX9_putBytes_28 (by decide) ?_
  refine lv_iand hx hb dX9_putBytes_31 ?_
  refine lv_topi (fun z_5 e_z_5 => ?_)
  refine va_iast hx hb hK.1 hP hD hS 1 0 rfl rfl (vp_in_nI (by omega) (by decide)) dX9_putBytes_32 (fun H locs hP hD hS => ?_)
  have hP : va_P D vwCl [(h0, .inr (8, fl 9 (va_up g 1 (.int (nI (t + 1)))))), (tp, .inl (Y 0, 400, .inl (upd f_3 (nI (t + 1)).toNatClampNeg z_5)))] H := hP
  have hD : va_D A [(h0, .inr (8, fl 9 (va_up g 1 (.int (nI (t + 1)))))), (tp, .inl (Y 0, 400, .inl (upd f_3 (nI (t + 1)).toNatClampNeg z_5)))] := hD
  generalize (upd f_3 (nI (t + 1)).toNatClampNeg z_5) = f_6 at hP hD
  refine lv_aload_n hx hb dX9_putBytes_33 rfl (lv_at hl 1 rfl) ?_
  refine lv_dup hx hb dX9_putBytes_34 rfl ?_
  refine gF (C := RX9) (T := TX9) (ci := 8) (v := .int (nI (t + 1))) F hK hP 0 rfl rfl iwX9 1 (by decide) m_3 (fun _ h => h) rfl dX9_putBytes_35 ?_
  refine lv_iconst (v := 1) hx hb dX9_putBytes_38 (by decide) ?_
  refine lv_iadd hx hb dX9_putBytes_39 ?_
  refine lv_toc (v := nI (t + 1 + 1)) (nI_1 _) ?_
  refine pF (C := RX9) (T := TX9) (ci := 8) F hK hP hD hS 0 rfl rfl iwX9 tyX9 tyX9_ok nmX9 1 (by decide) m_3 (fun _ h => h) rfl rfl rfl dX9_putBytes_40 (fun H locs hP hD hS => ?_)
  have hP : va_P D vwCl [(h0, .inr (8, fl 9 (va_up (va_up g 1 (.int (nI (t + 1)))) 1 (.int (nI (t + 1 + 1)))))), (tp, .inl (Y 0, 400, .inl f_6))] H := hP
  have hD : va_D A [(h0, .inr (8, fl 9 (va_up (va_up g 1 (.int (nI (t + 1)))) 1 (.int (nI (t + 1 + 1)))))), (tp, .inl (Y 0, 400, .inl f_6))] := hD
  refine lv_iinc (v := 8) (lv' := [(2, .int 8), (0, .ref h0), (1, .int v)]) hx hb dX9_putBytes_43 hl (k := 0) rfl (by decide) (by decide) rfl (fun ls hl => ?_)
  refine lv_goto (tgt := 3) hx hb dX9_putBytes_46 (by decide) ?_
  refine lv_iload_n hx hb dX9_putBytes_3 rfl (lv_at hl 0 rfl) ?_
  refine lv_if_lt (tgt := 49) hx hb dX9_putBytes_4 (by decide) (fun c9 => absurd c9 (by decide)) (fun _ => ?_)
  refine lv_aload_n hx hb dX9_putBytes_7 rfl (lv_at hl 1 rfl) ?_
  refine gF (C := RX9) (T := TX9) (ci := 8) (v := .int (nI (t + 1 + 1))) F hK hP 0 rfl rfl iwX9 1 (by decide) m_3 (fun _ h => h) rfl dX9_putBytes_8 ?_
  refine lv_sipush (v := 400) hx hb dX9_putBytes_11 (by decide) ?_
  refine lv_icmp_ge (tgt := 49) hx hb dX9_putBytes_14 (by decide) (fun c9 => absurd c9 (nI_ge (b := 400) (by omega) (by decide))) (fun _ => ?_)
  refine lv_aload_n hx hb dX9_putBytes_17 rfl (lv_at hl 1 rfl) ?_
  refine gF (C := RX9) (T := TX9) (ci := 8) (v := .ref tp) F hK hP 0 rfl rfl iwX9 0 (by decide) m_4 (fun _ h => h) g_0 dX9_putBytes_18 ?_
  refine lv_aload_n hx hb dX9_putBytes_21 rfl (lv_at hl 1 rfl) ?_
  refine gF (C := RX9) (T := TX9) (ci := 8) (v := .int (nI (t + 1 + 1))) F hK hP 0 rfl rfl iwX9 1 (by decide) m_3 (fun _ h => h) rfl dX9_putBytes_22 ?_
  refine lv_iload_n hx hb dX9_putBytes_25 rfl (lv_at hl 2 rfl) ?_
  refine lv_iload_n hx hb dX9_putBytes_26 rfl (lv_at hl 0 rfl) ?_
  refine lv_ishr hx hb dX9_putBytes_27 ?_
  refine lv_topi (fun z_7 e_z_7 => ?_)
  refine lv_sipush (v := 255) hx hb dX9_putBytes_28 (by decide) ?_
  refine lv_iand hx hb dX9_putBytes_31 ?_
  refine lv_topi (fun z_8 e_z_8 => ?_)
  refine va_iast hx hb hK.1 hP hD hS 1 0 rfl rfl (vp_in_nI (by omega) (by decide)) dX9_putBytes_32 (fun H locs hP hD hS => ?_)
  have hP : va_P D vwCl [(h0, .inr (8, fl 9 (va_up (va_up g 1 (.int (nI (t + 1)))) 1 (.int (nI (t + 1 + 1)))))), (tp, .inl (Y 0, 400, .inl (upd f_6 (nI (t + 1 + 1)).toNatClampNeg z_8)))] H := hP
  have hD : va_D A [(h0, .inr (8, fl 9 (va_up (va_up g 1 (.int (nI (t + 1)))) 1 (.int (nI (t + 1 + 1)))))), (tp, .inl (Y 0, 400, .inl (upd f_6 (nI (t + 1 + 1)).toNatClampNeg z_8)))] := hD
  generalize (upd f_6 (nI (t + 1 + 1)).toNatClampNeg z_8) = f_9 at hP hD
  refine lv_aload_n hx hb dX9_putBytes_33 rfl (lv_at hl 1 rfl) ?_
  refine lv_dup hx hb dX9_putBytes_34 rfl ?_
  refine gF (C := RX9) (T := TX9) (ci := 8) (v := .int (nI (t + 1 + 1))) F hK hP 0 rfl rfl iwX9 1 (by decide) m_3 (fun _ h => h) rfl dX9_putBytes_35 ?_
  refine lv_iconst (v := 1) hx hb dX9_putBytes_38 (by decide) ?_
  refine lv_iadd hx hb dX9_putBytes_39 ?_
  refine lv_toc (v := nI (t + 1 + 1 + 1)) (nI_1 _) ?_
  refine pF (C := RX9) (T := TX9) (ci := 8) F hK hP hD hS 0 rfl rfl iwX9 tyX9 tyX9_ok nmX9 1 (by decide) m_3 (fun _ h => h) rfl rfl rfl dX9_putBytes_40 (fun H locs hP hD hS => ?_)
  have hP : va_P D vwCl [(h0, .inr (8, fl 9 (va_up (va_up (va_up g 1 (.int (nI (t + 1)))) 1 (.int (nI (t + 1 + 1)))) 1 (.int (nI (t + 1 + 1 + 1)))))), (tp, .inl (Y 0, 400, .inl f_9))] H := hP
  have hD : va_D A [(h0, .inr (8, fl 9 (va_up (va_up (va_up g 1 (.int (nI (t + 1)))) 1 (.int (nI (t + 1 + 1)))) 1 (.int (nI (t + 1 + 1 + 1)))))), (tp, .inl (Y 0, 400, .inl f_9))] := hD
  refine lv_iinc (v := 0) (lv' := [(2, .int 0), (0, .ref h0), (1, .int v)]) hx hb dX9_putBytes_43 hl (k := 0) rfl (by decide) (by decide) rfl (fun ls hl => ?_)
  refine lv_goto (tgt := 3) hx hb dX9_putBytes_46 (by decide) ?_
  refine lv_iload_n hx hb dX9_putBytes_3 rfl (lv_at hl 0 rfl) ?_
  refine lv_if_lt (tgt := 49) hx hb dX9_putBytes_4 (by decide) (fun c9 => absurd c9 (by decide)) (fun _ => ?_)
  refine lv_aload_n hx hb dX9_putBytes_7 rfl (lv_at hl 1 rfl) ?_
  refine gF (C := RX9) (T := TX9) (ci := 8) (v := .int (nI (t + 1 + 1 + 1))) F hK hP 0 rfl rfl iwX9 1 (by decide) m_3 (fun _ h => h) rfl dX9_putBytes_8 ?_
  refine lv_sipush (v := 400) hx hb dX9_putBytes_11 (by decide) ?_
  refine lv_icmp_ge (tgt := 49) hx hb dX9_putBytes_14 (by decide) (fun c9 => absurd c9 (nI_ge (b := 400) (by omega) (by decide))) (fun _ => ?_)
  refine lv_aload_n hx hb dX9_putBytes_17 rfl (lv_at hl 1 rfl) ?_
  refine gF (C := RX9) (T := TX9) (ci := 8) (v := .ref tp) F hK hP 0 rfl rfl iwX9 0 (by decide) m_4 (fun _ h => h) g_0 dX9_putBytes_18 ?_
  refine lv_aload_n hx hb dX9_putBytes_21 rfl (lv_at hl 1 rfl) ?_
  refine gF (C := RX9) (T := TX9) (ci := 8) (v := .int (nI (t + 1 + 1 + 1))) F hK hP 0 rfl rfl iwX9 1 (by decide) m_3 (fun _ h => h) rfl dX9_putBytes_22 ?_
  refine lv_iload_n hx hb dX9_putBytes_25 rfl (lv_at hl 2 rfl) ?_
  refine lv_iload_n hx hb dX9_putBytes_26 rfl (lv_at hl 0 rfl) ?_
  refine lv_ishr hx hb dX9_putBytes_27 ?_
  refine lv_topi (fun z_10 e_z_10 => ?_)
  refine lv_sipush (v := 255) hx hb dX9_putBytes_28 (by decide) ?_
  refine lv_iand hx hb dX9_putBytes_31 ?_
  refine lv_topi (fun z_11 e_z_11 => ?_)
  refine va_iast hx hb hK.1 hP hD hS 1 0 rfl rfl (vp_in_nI (by omega) (by decide)) dX9_putBytes_32 (fun H locs hP hD hS => ?_)
  have hP : va_P D vwCl [(h0, .inr (8, fl 9 (va_up (va_up (va_up g 1 (.int (nI (t + 1)))) 1 (.int (nI (t + 1 + 1)))) 1 (.int (nI (t + 1 + 1 + 1)))))), (tp, .inl (Y 0, 400, .inl (upd f_9 (nI (t + 1 + 1 + 1)).toNatClampNeg z_11)))] H := hP
  have hD : va_D A [(h0, .inr (8, fl 9 (va_up (va_up (va_up g 1 (.int (nI (t + 1)))) 1 (.int (nI (t + 1 + 1)))) 1 (.int (nI (t + 1 + 1 + 1)))))), (tp, .inl (Y 0, 400, .inl (upd f_9 (nI (t + 1 + 1 + 1)).toNatClampNeg z_11)))] := hD
  generalize (upd f_9 (nI (t + 1 + 1 + 1)).toNatClampNeg z_11) = f_12 at hP hD
  refine lv_aload_n hx hb dX9_putBytes_33 rfl (lv_at hl 1 rfl) ?_
  refine lv_dup hx hb dX9_putBytes_34 rfl ?_
  refine gF (C := RX9) (T := TX9) (ci := 8) (v := .int (nI (t + 1 + 1 + 1))) F hK hP 0 rfl rfl iwX9 1 (by decide) m_3 (fun _ h => h) rfl dX9_putBytes_35 ?_
  refine lv_iconst (v := 1) hx hb dX9_putBytes_38 (by decide) ?_
  refine lv_iadd hx hb dX9_putBytes_39 ?_
  refine lv_toc (v := nI (t + 1 + 1 + 1 + 1)) (nI_1 _) ?_
  refine pF (C := RX9) (T := TX9) (ci := 8) F hK hP hD hS 0 rfl rfl iwX9 tyX9 tyX9_ok nmX9 1 (by decide) m_3 (fun _ h => h) rfl rfl rfl dX9_putBytes_40 (fun H locs hP hD hS => ?_)
  have hP : va_P D vwCl [(h0, .inr (8, fl 9 (va_up (va_up (va_up (va_up g 1 (.int (nI (t + 1)))) 1 (.int (nI (t + 1 + 1)))) 1 (.int (nI (t + 1 + 1 + 1)))) 1 (.int (nI (t + 1 + 1 + 1 + 1)))))), (tp, .inl (Y 0, 400, .inl f_12))] H := hP
  have hD : va_D A [(h0, .inr (8, fl 9 (va_up (va_up (va_up (va_up g 1 (.int (nI (t + 1)))) 1 (.int (nI (t + 1 + 1)))) 1 (.int (nI (t + 1 + 1 + 1)))) 1 (.int (nI (t + 1 + 1 + 1 + 1)))))), (tp, .inl (Y 0, 400, .inl f_12))] := hD
  refine lv_iinc (v := (-8)) (lv' := [(2, .int (-8)), (0, .ref h0), (1, .int v)]) hx hb dX9_putBytes_43 hl (k := 0) rfl (by decide) (by decide) rfl (fun ls hl => ?_)
  refine lv_goto (tgt := 3) hx hb dX9_putBytes_46 (by decide) ?_
  refine lv_iload_n hx hb dX9_putBytes_3 rfl (lv_at hl 0 rfl) ?_
  refine lv_if_lt (tgt := 49) hx hb dX9_putBytes_4 (by decide) (fun _ => ?_) (fun c9 => absurd (by decide) c9)
  exact retV F hr hlocks hP hD hS ((va_up (va_up (va_up (va_up g 1 (.int (nI (t + 1)))) 1 (.int (nI (t + 1 + 1)))) 1 (.int (nI (t + 1 + 1 + 1)))) 1 (.int (nI (t + 1 + 1 + 1 + 1)))), f_12) [0, 1] rfl rfl (Nat.le_of_ble_eq_true rfl) (Nat.le_of_ble_eq_true rfl) dX9_putBytes_49 ⟨g_0, rfl⟩
set_option maxRecDepth 100000 in
set_option maxHeartbeats 4000000 in
theorem c_feed (l : Launch) (D : va_G) (Y : Nat → ClassId) (h0 : Nat) (tp : Nat) (v1 : Int32) (v2 : Int32) (v3 : Int32) (v4 : Int32) (v5 : Int32) (g : Nat → Value) (f : Nat → Int32) (g_0 : g 0 = .ref tp) (g_1 : g 1 = .int 0)  : cM l D Y yX9_feed cX9_feed 6 (some .int) 2 0 0 [.ref h0, .int v1, .int v2, .int v3, .int v4, .int v5] [(h0, .inr (8, fl 9 g)), (tp, .inl (Y 0, 400, .inl f))] (qI D (fun (r : Int32) (u : Unit) => r = 20) (fun (u : Unit) => [])) := by
  refine cM.mk RX9 rfl (by decide) (Nat.le_of_ble_eq_true rfl) ?_
  intro p e s m below meth c A F hr hlocks hin hK hZ hP hD hA hS ls hl
  have hx := F.1
  have hb := F.2.1
  have hl : lv_has ls 6 [(0, .ref h0), (1, .int v1), (2, .int v2), (3, .int v3), (4, .int v4), (5, .int v5)] := hl
  refine lv_aload_n hx hb dX9_feed_0 rfl (lv_at hl 0 rfl) ?_
  refine gF (C := RX9) (T := TX9) (ci := 8) (v := .int 0) F hK hP 0 rfl rfl iwX9 1 (by decide) m_3 (fun _ h => h) g_1 dX9_feed_1 ?_
  refine lv_bipush (v := 20) hx hb dX9_feed_4 (by decide) ?_
  refine lv_iadd hx hb dX9_feed_6 ?_
  refine lv_toc (v := 20) (by decide) ?_
  refine lv_sipush (v := 400) hx hb dX9_feed_7 (by decide) ?_
  refine lv_icmp_le (tgt := 15) hx hb dX9_feed_10 (by decide) (fun _ => ?_) (fun c9 => absurd (by decide) c9)
  refine lv_aload_n hx hb dX9_feed_15 rfl (lv_at hl 0 rfl) ?_
  refine lv_iload_n hx hb dX9_feed_16 rfl (lv_at hl 1 rfl) ?_
  refine goV (wr := []) (runV (n := 1) (As := [.int v1]) (rest := []) (C := RX9) (T := TX9) (N := 9) (ci := 8) F hK hZ hP hD hS hA (c_putBytes l D Y h0 tp 0 v1 g f g_0 g_1 (by decide)) 0 rfl rfl [0, 1] rfl rfl m_7 m_8 m_9 m_6 m_5 (by decide +kernel) rfl ⟨Nat.le_of_ble_eq_true rfl, Nat.le_of_ble_eq_true rfl⟩ hl.1 rfl (Nat.le_of_ble_eq_true rfl) dX9_feed_17 ⟨Nat.le_of_ble_eq_true rfl, Nat.le_of_ble_eq_true rfl⟩) hP hD hS hA [0, 1] [] rfl rfl rfl (by decide) (fun u H locs hw hP hD hS => ?_)
  obtain ⟨gn_1, fn_2⟩ := u
  obtain ⟨o_3, o_4⟩ := hw
  have hP : va_P D vwCl [(h0, .inr (8, fl 9 gn_1)), (tp, .inl (Y 0, 400, .inl fn_2))] H := hP
  have hD : va_D A [(h0, .inr (8, fl 9 gn_1)), (tp, .inl (Y 0, 400, .inl fn_2))] := hD
  refine W.widen (k := 0) (n := 0) (Nat.le_of_ble_eq_true rfl) (Nat.le_of_ble_eq_true rfl) ?_
  refine lv_aload_n hx hb dX9_feed_20 rfl (lv_at hl 0 rfl) ?_
  refine lv_iload_n hx hb dX9_feed_21 rfl (lv_at hl 2 rfl) ?_
  refine goV (wr := []) (runV (n := 1) (As := [.int v2]) (rest := []) (C := RX9) (T := TX9) (N := 9) (ci := 8) F hK hZ hP hD hS hA (c_putBytes l D Y h0 tp (0 + 1 + 1 + 1 + 1) v2 gn_1 fn_2 o_3 o_4 (by decide)) 0 rfl rfl [0, 1] rfl rfl m_7 m_8 m_9 m_6 m_5 (by decide +kernel) rfl ⟨Nat.le_of_ble_eq_true rfl, Nat.le_of_ble_eq_true rfl⟩ hl.1 rfl (Nat.le_of_ble_eq_true rfl) dX9_feed_22 ⟨Nat.le_of_ble_eq_true rfl, Nat.le_of_ble_eq_true rfl⟩) hP hD hS hA [0, 1] [] rfl rfl rfl (by decide) (fun u H locs hw hP hD hS => ?_)
  obtain ⟨gn_6, fn_7⟩ := u
  obtain ⟨o_8, o_9⟩ := hw
  have hP : va_P D vwCl [(h0, .inr (8, fl 9 gn_6)), (tp, .inl (Y 0, 400, .inl fn_7))] H := hP
  have hD : va_D A [(h0, .inr (8, fl 9 gn_6)), (tp, .inl (Y 0, 400, .inl fn_7))] := hD
  refine W.widen (k := 0) (n := 0) (Nat.le_of_ble_eq_true rfl) (Nat.le_of_ble_eq_true rfl) ?_
  refine lv_aload_n hx hb dX9_feed_25 rfl (lv_at hl 0 rfl) ?_
  refine lv_iload_n hx hb dX9_feed_26 rfl (lv_at hl 3 rfl) ?_
  refine goV (wr := []) (runV (n := 1) (As := [.int v3]) (rest := []) (C := RX9) (T := TX9) (N := 9) (ci := 8) F hK hZ hP hD hS hA (c_putBytes l D Y h0 tp ((0 + 1 + 1 + 1 + 1) + 1 + 1 + 1 + 1) v3 gn_6 fn_7 o_8 o_9 (by decide)) 0 rfl rfl [0, 1] rfl rfl m_7 m_8 m_9 m_6 m_5 (by decide +kernel) rfl ⟨Nat.le_of_ble_eq_true rfl, Nat.le_of_ble_eq_true rfl⟩ hl.1 rfl (Nat.le_of_ble_eq_true rfl) dX9_feed_27 ⟨Nat.le_of_ble_eq_true rfl, Nat.le_of_ble_eq_true rfl⟩) hP hD hS hA [0, 1] [] rfl rfl rfl (by decide) (fun u H locs hw hP hD hS => ?_)
  obtain ⟨gn_11, fn_12⟩ := u
  obtain ⟨o_13, o_14⟩ := hw
  have hP : va_P D vwCl [(h0, .inr (8, fl 9 gn_11)), (tp, .inl (Y 0, 400, .inl fn_12))] H := hP
  have hD : va_D A [(h0, .inr (8, fl 9 gn_11)), (tp, .inl (Y 0, 400, .inl fn_12))] := hD
  refine W.widen (k := 0) (n := 0) (Nat.le_of_ble_eq_true rfl) (Nat.le_of_ble_eq_true rfl) ?_
  refine lv_aload_n hx hb dX9_feed_30 rfl (lv_at hl 0 rfl) ?_
  refine lv_iload hx hb dX9_feed_31 (lv_at hl 4 rfl) ?_
  refine goV (wr := []) (runV (n := 1) (As := [.int v4]) (rest := []) (C := RX9) (T := TX9) (N := 9) (ci := 8) F hK hZ hP hD hS hA (c_putBytes l D Y h0 tp (((0 + 1 + 1 + 1 + 1) + 1 + 1 + 1 + 1) + 1 + 1 + 1 + 1) v4 gn_11 fn_12 o_13 o_14 (by decide)) 0 rfl rfl [0, 1] rfl rfl m_7 m_8 m_9 m_6 m_5 (by decide +kernel) rfl ⟨Nat.le_of_ble_eq_true rfl, Nat.le_of_ble_eq_true rfl⟩ hl.1 rfl (Nat.le_of_ble_eq_true rfl) dX9_feed_33 ⟨Nat.le_of_ble_eq_true rfl, Nat.le_of_ble_eq_true rfl⟩) hP hD hS hA [0, 1] [] rfl rfl rfl (by decide) (fun u H locs hw hP hD hS => ?_)
  obtain ⟨gn_16, fn_17⟩ := u
  obtain ⟨o_18, o_19⟩ := hw
  have hP : va_P D vwCl [(h0, .inr (8, fl 9 gn_16)), (tp, .inl (Y 0, 400, .inl fn_17))] H := hP
  have hD : va_D A [(h0, .inr (8, fl 9 gn_16)), (tp, .inl (Y 0, 400, .inl fn_17))] := hD
  refine W.widen (k := 0) (n := 0) (Nat.le_of_ble_eq_true rfl) (Nat.le_of_ble_eq_true rfl) ?_
  refine lv_aload_n hx hb dX9_feed_36 rfl (lv_at hl 0 rfl) ?_
  refine lv_iload hx hb dX9_feed_37 (lv_at hl 5 rfl) ?_
  refine goV (wr := []) (runV (n := 1) (As := [.int v5]) (rest := []) (C := RX9) (T := TX9) (N := 9) (ci := 8) F hK hZ hP hD hS hA (c_putBytes l D Y h0 tp ((((0 + 1 + 1 + 1 + 1) + 1 + 1 + 1 + 1) + 1 + 1 + 1 + 1) + 1 + 1 + 1 + 1) v5 gn_16 fn_17 o_18 o_19 (by decide)) 0 rfl rfl [0, 1] rfl rfl m_7 m_8 m_9 m_6 m_5 (by decide +kernel) rfl ⟨Nat.le_of_ble_eq_true rfl, Nat.le_of_ble_eq_true rfl⟩ hl.1 rfl (Nat.le_of_ble_eq_true rfl) dX9_feed_39 ⟨Nat.le_of_ble_eq_true rfl, Nat.le_of_ble_eq_true rfl⟩) hP hD hS hA [0, 1] [] rfl rfl rfl (by decide) (fun u H locs hw hP hD hS => ?_)
  obtain ⟨gn_21, fn_22⟩ := u
  obtain ⟨o_23, o_24⟩ := hw
  have hP : va_P D vwCl [(h0, .inr (8, fl 9 gn_21)), (tp, .inl (Y 0, 400, .inl fn_22))] H := hP
  have hD : va_D A [(h0, .inr (8, fl 9 gn_21)), (tp, .inl (Y 0, 400, .inl fn_22))] := hD
  refine W.widen (k := 0) (n := 0) (Nat.le_of_ble_eq_true rfl) (Nat.le_of_ble_eq_true rfl) ?_
  refine lv_aload_n hx hb dX9_feed_42 rfl (lv_at hl 0 rfl) ?_
  refine gF (C := RX9) (T := TX9) (ci := 8) (v := .int (nI (((((0 + 1 + 1 + 1 + 1) + 1 + 1 + 1 + 1) + 1 + 1 + 1 + 1) + 1 + 1 + 1 + 1) + 1 + 1 + 1 + 1))) F hK hP 0 rfl rfl iwX9 1 (by decide) m_3 (fun _ h => h) o_24 dX9_feed_43 ?_
  exact retI F hr hlocks rfl hP hD hS () [] rfl rfl (Nat.le_of_ble_eq_true rfl) (Nat.le_of_ble_eq_true rfl) dX9_feed_46 rfl
set_option maxRecDepth 100000 in
set_option maxHeartbeats 4000000 in
theorem c_fault (l : Launch) (D : va_G) (Y : Nat → ClassId) (h0 : Nat) (g : Nat → Value) (g_2 : g 2 = .int (-1))  : cM l D Y yX9_fault cX9_fault 1 (some .int) 1 0 0 [.ref h0] [(h0, .inr (8, fl 9 g))] (qI D (fun (r : Int32) (u : Unit) => r = (-1)) (fun (u : Unit) => [])) := by
  refine cM.mk RX9 rfl (by decide) (Nat.le_of_ble_eq_true rfl) ?_
  intro p e s m below meth c A F hr hlocks hin hK hZ hP hD hA hS ls hl
  have hx := F.1
  have hb := F.2.1
  have hl : lv_has ls 1 [(0, .ref h0)] := hl
  refine lv_aload_n hx hb dX9_fault_0 rfl (lv_at hl 0 rfl) ?_
  refine gF (C := RX9) (T := TX9) (ci := 8) (v := .int (-1)) F hK hP 0 rfl rfl iwX9 2 (by decide) m_10 (fun _ h => h) g_2 dX9_fault_1 ?_
  exact retI F hr hlocks rfl hP hD hS () [] rfl rfl (Nat.le_of_ble_eq_true rfl) (Nat.le_of_ble_eq_true rfl) dX9_fault_4 rfl
