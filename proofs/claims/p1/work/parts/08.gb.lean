theorem dX9_refuseMissing_0 : decode cX9_refuseMissing 0 = .ok (.aload_n 0, 1) := by decide +kernel
theorem dX9_refuseMissing_1 : decode cX9_refuseMissing 1 = .ok (.getfield 17, 3) := by decide +kernel
theorem dX9_refuseMissing_4 : decode cX9_refuseMissing 4 = .ok (.iconst 0, 1) := by decide +kernel
theorem dX9_refuseMissing_5 : decode cX9_refuseMissing 5 = .ok (.dup2, 1) := by decide +kernel
theorem dX9_refuseMissing_6 : decode cX9_refuseMissing 6 = .ok (.iaload, 1) := by decide +kernel
theorem dX9_refuseMissing_7 : decode cX9_refuseMissing 7 = .ok (.iconst 1, 1) := by decide +kernel
theorem dX9_refuseMissing_8 : decode cX9_refuseMissing 8 = .ok (.iadd, 1) := by decide +kernel
theorem dX9_refuseMissing_9 : decode cX9_refuseMissing 9 = .ok (.iastore, 1) := by decide +kernel
theorem dX9_refuseMissing_10 : decode cX9_refuseMissing 10 = .ok (.new 285, 3) := by decide +kernel
theorem dX9_refuseMissing_13 : decode cX9_refuseMissing 13 = .ok (.dup, 1) := by decide +kernel
theorem dX9_refuseMissing_14 : decode cX9_refuseMissing 14 = .ok (.ldc_w 287, 3) := by decide +kernel
theorem dX9_refuseMissing_17 : decode cX9_refuseMissing 17 = .ok (.invokespecial 289, 3) := by decide +kernel
theorem dX9_refuseMissing_20 : decode cX9_refuseMissing 20 = .ok (.athrow, 1) := by decide +kernel
theorem dX9_refuseArgument_0 : decode cX9_refuseArgument 0 = .ok (.aload_n 0, 1) := by decide +kernel
theorem dX9_refuseArgument_1 : decode cX9_refuseArgument 1 = .ok (.getfield 17, 3) := by decide +kernel
theorem dX9_refuseArgument_4 : decode cX9_refuseArgument 4 = .ok (.iconst 1, 1) := by decide +kernel
theorem dX9_refuseArgument_5 : decode cX9_refuseArgument 5 = .ok (.dup2, 1) := by decide +kernel
theorem dX9_refuseArgument_6 : decode cX9_refuseArgument 6 = .ok (.iaload, 1) := by decide +kernel
theorem dX9_refuseArgument_7 : decode cX9_refuseArgument 7 = .ok (.iconst 1, 1) := by decide +kernel
theorem dX9_refuseArgument_8 : decode cX9_refuseArgument 8 = .ok (.iadd, 1) := by decide +kernel
theorem dX9_refuseArgument_9 : decode cX9_refuseArgument 9 = .ok (.iastore, 1) := by decide +kernel
theorem dX9_refuseArgument_10 : decode cX9_refuseArgument 10 = .ok (.new 292, 3) := by decide +kernel
theorem dX9_refuseArgument_13 : decode cX9_refuseArgument 13 = .ok (.dup, 1) := by decide +kernel
theorem dX9_refuseArgument_14 : decode cX9_refuseArgument 14 = .ok (.ldc_w 294, 3) := by decide +kernel
theorem dX9_refuseArgument_17 : decode cX9_refuseArgument 17 = .ok (.invokespecial 296, 3) := by decide +kernel
theorem dX9_refuseArgument_20 : decode cX9_refuseArgument 20 = .ok (.athrow, 1) := by decide +kernel
theorem dX9_needIndex_0 : decode cX9_needIndex 0 = .ok (.iload_n 1, 1) := by decide +kernel
theorem dX9_needIndex_1 : decode cX9_needIndex 1 = .ok (.ifCond .lt 8, 3) := by decide +kernel
theorem dX9_needIndex_4 : decode cX9_needIndex 4 = .ok (.iload_n 1, 1) := by decide +kernel
theorem dX9_needIndex_5 : decode cX9_needIndex 5 = .ok (.iload_n 2, 1) := by decide +kernel
theorem dX9_needIndex_6 : decode cX9_needIndex 6 = .ok (.if_icmp .lt 7, 3) := by decide +kernel
theorem dX9_needIndex_9 : decode cX9_needIndex 9 = .ok (.aload_n 0, 1) := by decide +kernel
theorem dX9_needIndex_10 : decode cX9_needIndex 10 = .ok (.invokevirtual 262, 3) := by decide +kernel
theorem dX9_needPredicate_0 : decode cX9_needPredicate 0 = .ok (.aload_n 0, 1) := by decide +kernel
theorem dX9_needPredicate_1 : decode cX9_needPredicate 1 = .ok (.iload_n 1, 1) := by decide +kernel
theorem dX9_needPredicate_2 : decode cX9_needPredicate 2 = .ok (.aload_n 0, 1) := by decide +kernel
theorem dX9_needPredicate_3 : decode cX9_needPredicate 3 = .ok (.getfield 23, 3) := by decide +kernel
theorem dX9_needPredicate_6 : decode cX9_needPredicate 6 = .ok (.getfield 138, 3) := by decide +kernel
theorem dX9_needPredicate_9 : decode cX9_needPredicate 9 = .ok (.invokevirtual 199, 3) := by decide +kernel
theorem dX9_needConstant_0 : decode cX9_needConstant 0 = .ok (.aload_n 0, 1) := by decide +kernel
theorem dX9_needConstant_1 : decode cX9_needConstant 1 = .ok (.iload_n 1, 1) := by decide +kernel
theorem dX9_needConstant_2 : decode cX9_needConstant 2 = .ok (.aload_n 0, 1) := by decide +kernel
theorem dX9_needConstant_3 : decode cX9_needConstant 3 = .ok (.getfield 23, 3) := by decide +kernel
theorem dX9_needConstant_6 : decode cX9_needConstant 6 = .ok (.getfield 141, 3) := by decide +kernel
theorem dX9_needConstant_9 : decode cX9_needConstant 9 = .ok (.invokevirtual 199, 3) := by decide +kernel
theorem dX9_needAtom_0 : decode cX9_needAtom 0 = .ok (.aload_n 0, 1) := by decide +kernel
theorem dX9_needAtom_1 : decode cX9_needAtom 1 = .ok (.iload_n 1, 1) := by decide +kernel
theorem dX9_needAtom_2 : decode cX9_needAtom 2 = .ok (.invokevirtual 166, 3) := by decide +kernel
theorem dX9_needGoal_0 : decode cX9_needGoal 0 = .ok (.aload_n 0, 1) := by decide +kernel
theorem dX9_needGoal_1 : decode cX9_needGoal 1 = .ok (.iload_n 1, 1) := by decide +kernel
theorem dX9_needGoal_2 : decode cX9_needGoal 2 = .ok (.invokevirtual 166, 3) := by decide +kernel
set_option maxRecDepth 100000 in
set_option maxHeartbeats 4000000 in
theorem c_refM (l : Launch) (hfl : l.stackTraces = false) (D : va_G) (Y : Nat → ClassId) (h0 : Nat) (rf : Nat) (g : Nat → Value) (f : Nat → Int32) (g_3 : g 3 = .ref rf)  : xM l D Y yX9_refuseMissing cX9_refuseMissing 1 none 1 1 6 [.ref h0] [(h0, .inr (8, fl 9 g)), (rf, .inl (Y 0, 3, .inl f))] (qV D (fun (u : Unit) => False) (fun (u : Unit) => [])) (fun E => E = nse) := by
  refine xM.mk RX9 rfl (by decide) (Nat.le_of_ble_eq_true rfl) ?_
  intro p e s m below meth c A F hr hlocks hno hK hZ hP hD hA hS ls hl
  have hx := F.1
  have hb := F.2.1
  have hl : lv_has ls 1 [(0, .ref h0)] := hl
  refine lv_aload_n hx hb dX9_refuseMissing_0 rfl (lv_at hl 0 rfl) ?_
  refine gF (C := RX9) (T := TX9) (ci := 8) (v := .ref rf) F hK hP 0 rfl rfl iwX9 3 (by decide) m_11 (fun _ h => h) g_3 dX9_refuseMissing_1 ?_
  refine lv_iconst (v := 0) hx hb dX9_refuseMissing_4 (by decide) ?_
  refine lv_dup2_11 hx hb dX9_refuseMissing_5 rfl rfl ?_
  refine va_iald hx hb hK.1 hP 1 0 rfl rfl (by unfold vp_in; decide) dX9_refuseMissing_6 ?_
  refine lv_topi (fun z_1 e_z_1 => ?_)
  refine lv_iconst (v := 1) hx hb dX9_refuseMissing_7 (by decide) ?_
  refine lv_iadd hx hb dX9_refuseMissing_8 ?_
  refine lv_topi (fun z_2 e_z_2 => ?_)
  refine va_iast hx hb hK.1 hP hD hS 1 0 rfl rfl (by unfold vp_in; decide) dX9_refuseMissing_9 (fun H locs hP hD hS => ?_)
  have hP : va_P D vwCl [(h0, .inr (8, fl 9 g)), (rf, .inl (Y 0, 3, .inl (upd f (0 : Int32).toNatClampNeg z_2)))] H := hP
  have hD : va_D A [(h0, .inr (8, fl 9 g)), (rf, .inl (Y 0, 3, .inl (upd f (0 : Int32).toNatClampNeg z_2)))] := hD
  generalize (upd f (0 : Int32).toNatClampNeg z_2) = f_3 at hP hD
  exact thrN F hfl hK hZ hS hno hlocks hl.1 m_12 m_13 dX9_refuseMissing_10 dX9_refuseMissing_13 dX9_refuseMissing_14 dX9_refuseMissing_17 dX9_refuseMissing_20 rfl (Nat.le_of_ble_eq_true rfl) (Nat.le_of_ble_eq_true rfl) (Nat.le_of_ble_eq_true rfl) (Nat.le_of_ble_eq_true rfl) (Nat.le_of_ble_eq_true rfl) (Nat.le_of_ble_eq_true rfl)
set_option maxRecDepth 100000 in
set_option maxHeartbeats 4000000 in
theorem c_refA (l : Launch) (hfl : l.stackTraces = false) (D : va_G) (Y : Nat → ClassId) (h0 : Nat) (rf : Nat) (g : Nat → Value) (f : Nat → Int32) (g_3 : g 3 = .ref rf)  : xM l D Y yX9_refuseArgument cX9_refuseArgument 1 none 1 1 6 [.ref h0] [(h0, .inr (8, fl 9 g)), (rf, .inl (Y 0, 3, .inl f))] (qV D (fun (u : Unit) => False) (fun (u : Unit) => [])) (fun E => E = iae) := by
  refine xM.mk RX9 rfl (by decide) (Nat.le_of_ble_eq_true rfl) ?_
  intro p e s m below meth c A F hr hlocks hno hK hZ hP hD hA hS ls hl
  have hx := F.1
  have hb := F.2.1
  have hl : lv_has ls 1 [(0, .ref h0)] := hl
  refine lv_aload_n hx hb dX9_refuseArgument_0 rfl (lv_at hl 0 rfl) ?_
  refine gF (C := RX9) (T := TX9) (ci := 8) (v := .ref rf) F hK hP 0 rfl rfl iwX9 3 (by decide) m_11 (fun _ h => h) g_3 dX9_refuseArgument_1 ?_
  refine lv_iconst (v := 1) hx hb dX9_refuseArgument_4 (by decide) ?_
  refine lv_dup2_11 hx hb dX9_refuseArgument_5 rfl rfl ?_
  refine va_iald hx hb hK.1 hP 1 0 rfl rfl (by unfold vp_in; decide) dX9_refuseArgument_6 ?_
  refine lv_topi (fun z_1 e_z_1 => ?_)
  refine lv_iconst (v := 1) hx hb dX9_refuseArgument_7 (by decide) ?_
  refine lv_iadd hx hb dX9_refuseArgument_8 ?_
  refine lv_topi (fun z_2 e_z_2 => ?_)
  refine va_iast hx hb hK.1 hP hD hS 1 0 rfl rfl (by unfold vp_in; decide) dX9_refuseArgument_9 (fun H locs hP hD hS => ?_)
  have hP : va_P D vwCl [(h0, .inr (8, fl 9 g)), (rf, .inl (Y 0, 3, .inl (upd f (1 : Int32).toNatClampNeg z_2)))] H := hP
  have hD : va_D A [(h0, .inr (8, fl 9 g)), (rf, .inl (Y 0, 3, .inl (upd f (1 : Int32).toNatClampNeg z_2)))] := hD
  generalize (upd f (1 : Int32).toNatClampNeg z_2) = f_3 at hP hD
  exact thrI F hfl hK hZ hS hno hlocks hl.1 m_14 m_15 dX9_refuseArgument_10 dX9_refuseArgument_13 dX9_refuseArgument_14 dX9_refuseArgument_17 dX9_refuseArgument_20 rfl (Nat.le_of_ble_eq_true rfl) (Nat.le_of_ble_eq_true rfl) (Nat.le_of_ble_eq_true rfl) (Nat.le_of_ble_eq_true rfl) (Nat.le_of_ble_eq_true rfl) (Nat.le_of_ble_eq_true rfl)
set_option maxRecDepth 100000 in
set_option maxHeartbeats 4000000 in
theorem c_needIx (l : Launch) (hfl : l.stackTraces = false) (D : va_G) (Y : Nat → ClassId) (h0 : Nat) (rf : Nat) (g : Nat → Value) (f : Nat → Int32) (j : Int32) (g_3 : g 3 = .ref rf)  : xM l D Y yX9_needIndex cX9_needIndex 3 none 2 1 6 [.ref h0, .int j, .int 0] [(h0, .inr (8, fl 9 g)), (rf, .inl (Y 0, 3, .inl f))] (qV D (fun (u : Unit) => False) (fun (u : Unit) => [])) (fun E => E = nse) := by
  refine xM.mk RX9 rfl (by decide) (Nat.le_of_ble_eq_true rfl) ?_
  intro p e s m below meth c A F hr hlocks hno hK hZ hP hD hA hS ls hl
  have hx := F.1
  have hb := F.2.1
  have hl : lv_has ls 3 [(0, .ref h0), (1, .int j), (2, .int 0)] := hl
  refine lv_iload_n hx hb dX9_needIndex_0 rfl (lv_at hl 1 rfl) ?_
  refine lv_if_lt (tgt := 9) hx hb dX9_needIndex_1 (by decide) (fun c9 => ?_) (fun c9 => ?_)
  · skip
    refine lv_aload_n hx hb dX9_needIndex_9 rfl (lv_at hl 0 rfl) ?_
    refine xgoV (wr := []) (xrunV (n := 0) (As := []) (rest := []) (C := RX9) (T := TX9) (N := 9) (ci := 8) F hK hZ hP hD hS hA (c_refM l hfl D Y h0 rf g f g_3 ) 0 rfl rfl [0, 1] rfl rfl m_17 m_18 m_19 m_6 m_16 (by decide +kernel) rfl ⟨Nat.le_of_ble_eq_true rfl, Nat.le_of_ble_eq_true rfl⟩ hl.1 rfl (Nat.le_of_ble_eq_true rfl) dX9_needIndex_10 ⟨Nat.le_of_ble_eq_true rfl, Nat.le_of_ble_eq_true rfl⟩) hP hD hS hA [0, 1] [] rfl rfl rfl (by decide) (fun E ce q9 H locs hE hP hD hS h1 h2 h3 => ?_) (fun u H locs hw hP hD hS => ?_)
    · skip
      exact xOut hno hlocks hE hS h1 h2 h3 (Nat.le_of_ble_eq_true rfl) (Nat.le_of_ble_eq_true rfl)
    · exact hw.elim
  · skip
    refine lv_iload_n hx hb dX9_needIndex_4 rfl (lv_at hl 1 rfl) ?_
    refine lv_iload_n hx hb dX9_needIndex_5 rfl (lv_at hl 2 rfl) ?_
    refine lv_icmp_lt (tgt := 13) hx hb dX9_needIndex_6 (by decide) (fun c8 => ?_) (fun c8 => ?_)
    · skip
      exact absurd c8 c9
    · skip
      refine lv_aload_n hx hb dX9_needIndex_9 rfl (lv_at hl 0 rfl) ?_
      refine xgoV (wr := []) (xrunV (n := 0) (As := []) (rest := []) (C := RX9) (T := TX9) (N := 9) (ci := 8) F hK hZ hP hD hS hA (c_refM l hfl D Y h0 rf g f g_3 ) 0 rfl rfl [0, 1] rfl rfl m_17 m_18 m_19 m_6 m_16 (by decide +kernel) rfl ⟨Nat.le_of_ble_eq_true rfl, Nat.le_of_ble_eq_true rfl⟩ hl.1 rfl (Nat.le_of_ble_eq_true rfl) dX9_needIndex_10 ⟨Nat.le_of_ble_eq_true rfl, Nat.le_of_ble_eq_true rfl⟩) hP hD hS hA [0, 1] [] rfl rfl rfl (by decide) (fun E ce q9 H locs hE hP hD hS h1 h2 h3 => ?_) (fun u H locs hw hP hD hS => ?_)
      · skip
        exact xOut hno hlocks hE hS h1 h2 h3 (Nat.le_of_ble_eq_true rfl) (Nat.le_of_ble_eq_true rfl)
      · exact hw.elim
set_option maxRecDepth 100000 in
set_option maxHeartbeats 4000000 in
theorem c_needP (l : Launch) (hfl : l.stackTraces = false) (D : va_G) (Y : Nat → ClassId) (h0 : Nat) (rf : Nat) (pr : Nat) (g : Nat → Value) (gp : Nat → Value) (f : Nat → Int32) (j : Int32) (g_3 : g 3 = .ref rf) (g_4 : g 4 = .ref pr) (gp_0 : gp 0 = .int 0) (gp_1 : gp 1 = .int 0) (gp_2 : gp 2 = .int 0)  : xM l D Y yX9_needPredicate cX9_needPredicate 2 none 3 1 6 [.ref h0, .int j] [(h0, .inr (8, fl 9 g)), (rf, .inl (Y 0, 3, .inl f)), (pr, .inr (3, fl 9 gp))] (qV D (fun (u : Unit) => False) (fun (u : Unit) => [])) (fun E => E = nse) := by
  refine xM.mk RX9 rfl (by decide) (Nat.le_of_ble_eq_true rfl) ?_
  intro p e s m below meth c A F hr hlocks hno hK hZ hP hD hA hS ls hl
  have hx := F.1
  have hb := F.2.1
  have hl : lv_has ls 2 [(0, .ref h0), (1, .int j)] := hl
  refine lv_aload_n hx hb dX9_needPredicate_0 rfl (lv_at hl 0 rfl) ?_
  refine lv_iload_n hx hb dX9_needPredicate_1 rfl (lv_at hl 1 rfl) ?_
  refine lv_aload_n hx hb dX9_needPredicate_2 rfl (lv_at hl 0 rfl) ?_
  refine gF (C := RX9) (T := TX9) (ci := 8) (v := .ref pr) F hK hP 0 rfl rfl iwX9 4 (by decide) m_20 (fun _ h => h) g_4 dX9_needPredicate_3 ?_
  refine gF (C := RX3) (T := TX3) (ci := 3) (v := .int 0) F hK hP 2 rfl rfl iwX3 0 (by decide) m_21 (fun _ h => h) gp_0 dX9_needPredicate_6 ?_
  refine xgoV (wr := [(pr, .inr (3, fl 9 gp))]) (xrunV (n := 2) (As := [.int j, .int 0]) (rest := []) (C := RX9) (T := TX9) (N := 9) (ci := 8) F hK hZ hP hD hS hA (c_needIx l hfl D Y h0 rf g f j g_3 ) 0 rfl rfl [0, 1] rfl rfl m_23 m_24 m_25 m_6 m_22 (by decide +kernel) rfl ⟨Nat.le_of_ble_eq_true rfl, Nat.le_of_ble_eq_true rfl⟩ hl.1 rfl (Nat.le_of_ble_eq_true rfl) dX9_needPredicate_9 ⟨Nat.le_of_ble_eq_true rfl, Nat.le_of_ble_eq_true rfl⟩) hP hD hS hA [0, 1] [2] rfl rfl rfl (by decide) (fun E ce q9 H locs hE hP hD hS h1 h2 h3 => ?_) (fun u H locs hw hP hD hS => ?_)
  · skip
    exact xOut hno hlocks hE hS h1 h2 h3 (Nat.le_of_ble_eq_true rfl) (Nat.le_of_ble_eq_true rfl)
  · exact hw.elim
set_option maxRecDepth 100000 in
set_option maxHeartbeats 4000000 in
theorem c_needC (l : Launch) (hfl : l.stackTraces = false) (D : va_G) (Y : Nat → ClassId) (h0 : Nat) (rf : Nat) (pr : Nat) (g : Nat → Value) (gp : Nat → Value) (f : Nat → Int32) (j : Int32) (g_3 : g 3 = .ref rf) (g_4 : g 4 = .ref pr) (gp_0 : gp 0 = .int 0) (gp_1 : gp 1 = .int 0) (gp_2 : gp 2 = .int 0)  : xM l D Y yX9_needConstant cX9_needConstant 2 none 3 1 6 [.ref h0, .int j] [(h0, .inr (8, fl 9 g)), (rf, .inl (Y 0, 3, .inl f)), (pr, .inr (3, fl 9 gp))] (qV D (fun (u : Unit) => False) (fun (u : Unit) => [])) (fun E => E = nse) := by
  refine xM.mk RX9 rfl (by decide) (Nat.le_of_ble_eq_true rfl) ?_
  intro p e s m below meth c A F hr hlocks hno hK hZ hP hD hA hS ls hl
  have hx := F.1
  have hb := F.2.1
  have hl : lv_has ls 2 [(0, .ref h0), (1, .int j)] := hl
  refine lv_aload_n hx hb dX9_needConstant_0 rfl (lv_at hl 0 rfl) ?_
  refine lv_iload_n hx hb dX9_needConstant_1 rfl (lv_at hl 1 rfl) ?_
  refine lv_aload_n hx hb dX9_needConstant_2 rfl (lv_at hl 0 rfl) ?_
  refine gF (C := RX9) (T := TX9) (ci := 8) (v := .ref pr) F hK hP 0 rfl rfl iwX9 4 (by decide) m_20 (fun _ h => h) g_4 dX9_needConstant_3 ?_
  refine gF (C := RX3) (T := TX3) (ci := 3) (v := .int 0) F hK hP 2 rfl rfl iwX3 1 (by decide) m_26 (fun _ h => h) gp_1 dX9_needConstant_6 ?_
  refine xgoV (wr := [(pr, .inr (3, fl 9 gp))]) (xrunV (n := 2) (As := [.int j, .int 0]) (rest := []) (C := RX9) (T := TX9) (N := 9) (ci := 8) F hK hZ hP hD hS hA (c_needIx l hfl D Y h0 rf g f j g_3 ) 0 rfl rfl [0, 1] rfl rfl m_23 m_24 m_25 m_6 m_22 (by decide +kernel) rfl ⟨Nat.le_of_ble_eq_true rfl, Nat.le_of_ble_eq_true rfl⟩ hl.1 rfl (Nat.le_of_ble_eq_true rfl) dX9_needConstant_9 ⟨Nat.le_of_ble_eq_true rfl, Nat.le_of_ble_eq_true rfl⟩) hP hD hS hA [0, 1] [2] rfl rfl rfl (by decide) (fun E ce q9 H locs hE hP hD hS h1 h2 h3 => ?_) (fun u H locs hw hP hD hS => ?_)
  · skip
    exact xOut hno hlocks hE hS h1 h2 h3 (Nat.le_of_ble_eq_true rfl) (Nat.le_of_ble_eq_true rfl)
  · exact hw.elim
set_option maxRecDepth 100000 in
set_option maxHeartbeats 4000000 in
theorem c_needAt (l : Launch) (hfl : l.stackTraces = false) (D : va_G) (Y : Nat → ClassId) (h0 : Nat) (rf : Nat) (pr : Nat) (g : Nat → Value) (gp : Nat → Value) (f : Nat → Int32) (j1 : Int32) (j2 : Int32) (j3 : Int32) (g_3 : g 3 = .ref rf) (g_4 : g 4 = .ref pr) (gp_0 : gp 0 = .int 0) (gp_1 : gp 1 = .int 0) (gp_2 : gp 2 = .int 0)  : xM l D Y yX9_needAtom cX9_needAtom 5 none 4 1 6 [.ref h0, .int j1, .int j2, .int j3] [(h0, .inr (8, fl 9 g)), (rf, .inl (Y 0, 3, .inl f)), (pr, .inr (3, fl 9 gp))] (qV D (fun (u : Unit) => False) (fun (u : Unit) => [])) (fun E => E = nse) := by
  refine xM.mk RX9 rfl (by decide) (Nat.le_of_ble_eq_true rfl) ?_
  intro p e s m below meth c A F hr hlocks hno hK hZ hP hD hA hS ls hl
  have hx := F.1
  have hb := F.2.1
  have hl : lv_has ls 5 [(0, .ref h0), (1, .int j1), (2, .int j2), (3, .int j3)] := hl
  refine lv_aload_n hx hb dX9_needAtom_0 rfl (lv_at hl 0 rfl) ?_
  refine lv_iload_n hx hb dX9_needAtom_1 rfl (lv_at hl 1 rfl) ?_
  refine xgoV (wr := []) (xrunV (n := 1) (As := [.int j1]) (rest := []) (C := RX9) (T := TX9) (N := 9) (ci := 8) F hK hZ hP hD hS hA (c_needP l hfl D Y h0 rf pr g gp f j1 g_3 g_4 gp_0 gp_1 gp_2 ) 0 rfl rfl [0, 1, 2] rfl rfl m_28 m_29 m_30 m_6 m_27 (by decide +kernel) rfl ⟨Nat.le_of_ble_eq_true rfl, Nat.le_of_ble_eq_true rfl⟩ hl.1 rfl (Nat.le_of_ble_eq_true rfl) dX9_needAtom_2 ⟨Nat.le_of_ble_eq_true rfl, Nat.le_of_ble_eq_true rfl⟩) hP hD hS hA [0, 1, 2] [] rfl rfl rfl (by decide) (fun E ce q9 H locs hE hP hD hS h1 h2 h3 => ?_) (fun u H locs hw hP hD hS => ?_)
  · skip
    exact xOut hno hlocks hE hS h1 h2 h3 (Nat.le_of_ble_eq_true rfl) (Nat.le_of_ble_eq_true rfl)
  · exact hw.elim
set_option maxRecDepth 100000 in
set_option maxHeartbeats 4000000 in
theorem c_needGo (l : Launch) (hfl : l.stackTraces = false) (D : va_G) (Y : Nat → ClassId) (h0 : Nat) (rf : Nat) (pr : Nat) (g : Nat → Value) (gp : Nat → Value) (f : Nat → Int32) (j1 : Int32) (j2 : Int32) (j3 : Int32) (g_3 : g 3 = .ref rf) (g_4 : g 4 = .ref pr) (gp_0 : gp 0 = .int 0) (gp_1 : gp 1 = .int 0) (gp_2 : gp 2 = .int 0)  : xM l D Y yX9_needGoal cX9_needGoal 5 none 4 1 6 [.ref h0, .int j1, .int j2, .int j3] [(h0, .inr (8, fl 9 g)), (rf, .inl (Y 0, 3, .inl f)), (pr, .inr (3, fl 9 gp))] (qV D (fun (u : Unit) => False) (fun (u : Unit) => [])) (fun E => E = nse) := by
  refine xM.mk RX9 rfl (by decide) (Nat.le_of_ble_eq_true rfl) ?_
  intro p e s m below meth c A F hr hlocks hno hK hZ hP hD hA hS ls hl
  have hx := F.1
  have hb := F.2.1
  have hl : lv_has ls 5 [(0, .ref h0), (1, .int j1), (2, .int j2), (3, .int j3)] := hl
  refine lv_aload_n hx hb dX9_needGoal_0 rfl (lv_at hl 0 rfl) ?_
  refine lv_iload_n hx hb dX9_needGoal_1 rfl (lv_at hl 1 rfl) ?_
  refine xgoV (wr := []) (xrunV (n := 1) (As := [.int j1]) (rest := []) (C := RX9) (T := TX9) (N := 9) (ci := 8) F hK hZ hP hD hS hA (c_needP l hfl D Y h0 rf pr g gp f j1 g_3 g_4 gp_0 gp_1 gp_2 ) 0 rfl rfl [0, 1, 2] rfl rfl m_28 m_29 m_30 m_6 m_27 (by decide +kernel) rfl ⟨Nat.le_of_ble_eq_true rfl, Nat.le_of_ble_eq_true rfl⟩ hl.1 rfl (Nat.le_of_ble_eq_true rfl) dX9_needGoal_2 ⟨Nat.le_of_ble_eq_true rfl, Nat.le_of_ble_eq_true rfl⟩) hP hD hS hA [0, 1, 2] [] rfl rfl rfl (by decide) (fun E ce q9 H locs hE hP hD hS h1 h2 h3 => ?_) (fun u H locs hw hP hD hS => ?_)
  · skip
    exact xOut hno hlocks hE hS h1 h2 h3 (Nat.le_of_ble_eq_true rfl) (Nat.le_of_ble_eq_true rfl)
  · exact hw.elim
