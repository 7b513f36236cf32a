theorem dX9_assume_0 : decode cX9_assume 0 = .ok (.aload_n 0, 1) := by decide +kernel
theorem dX9_assume_1 : decode cX9_assume 1 = .ok (.iload_n 1, 1) := by decide +kernel
theorem dX9_assume_2 : decode cX9_assume 2 = .ok (.iload_n 2, 1) := by decide +kernel
theorem dX9_assume_3 : decode cX9_assume 3 = .ok (.iload_n 3, 1) := by decide +kernel
theorem dX9_assume_4 : decode cX9_assume 4 = .ok (.invokevirtual 90, 3) := by decide +kernel
theorem dX9_retract_0 : decode cX9_retract 0 = .ok (.aload_n 0, 1) := by decide +kernel
theorem dX9_retract_1 : decode cX9_retract 1 = .ok (.iload_n 1, 1) := by decide +kernel
theorem dX9_retract_2 : decode cX9_retract 2 = .ok (.iload_n 2, 1) := by decide +kernel
theorem dX9_retract_3 : decode cX9_retract 3 = .ok (.iload_n 3, 1) := by decide +kernel
theorem dX9_retract_4 : decode cX9_retract 4 = .ok (.invokevirtual 90, 3) := by decide +kernel
theorem dX9_ask_0 : decode cX9_ask 0 = .ok (.aload_n 0, 1) := by decide +kernel
theorem dX9_ask_1 : decode cX9_ask 1 = .ok (.iload_n 1, 1) := by decide +kernel
theorem dX9_ask_2 : decode cX9_ask 2 = .ok (.iload_n 2, 1) := by decide +kernel
theorem dX9_ask_3 : decode cX9_ask 3 = .ok (.iload_n 3, 1) := by decide +kernel
theorem dX9_ask_4 : decode cX9_ask 4 = .ok (.invokevirtual 115, 3) := by decide +kernel
theorem dX9_value_0 : decode cX9_value 0 = .ok (.aload_n 0, 1) := by decide +kernel
theorem dX9_value_1 : decode cX9_value 1 = .ok (.iload_n 1, 1) := by decide +kernel
theorem dX9_value_2 : decode cX9_value 2 = .ok (.iload_n 2, 1) := by decide +kernel
theorem dX9_value_3 : decode cX9_value 3 = .ok (.iload_n 3, 1) := by decide +kernel
theorem dX9_value_4 : decode cX9_value 4 = .ok (.invokevirtual 90, 3) := by decide +kernel
theorem dX9_stage_0 : decode cX9_stage 0 = .ok (.aload_n 0, 1) := by decide +kernel
theorem dX9_stage_1 : decode cX9_stage 1 = .ok (.iload_n 1, 1) := by decide +kernel
theorem dX9_stage_2 : decode cX9_stage 2 = .ok (.iload_n 2, 1) := by decide +kernel
theorem dX9_stage_3 : decode cX9_stage 3 = .ok (.iload_n 3, 1) := by decide +kernel
theorem dX9_stage_4 : decode cX9_stage 4 = .ok (.invokevirtual 90, 3) := by decide +kernel
theorem dX9_find_0 : decode cX9_find 0 = .ok (.aload_n 0, 1) := by decide +kernel
theorem dX9_find_1 : decode cX9_find 1 = .ok (.iload_n 1, 1) := by decide +kernel
theorem dX9_find_2 : decode cX9_find 2 = .ok (.iload_n 2, 1) := by decide +kernel
theorem dX9_find_3 : decode cX9_find 3 = .ok (.iload_n 3, 1) := by decide +kernel
theorem dX9_find_4 : decode cX9_find 4 = .ok (.invokevirtual 115, 3) := by decide +kernel
theorem dX9_reach_0 : decode cX9_reach 0 = .ok (.aload_n 0, 1) := by decide +kernel
theorem dX9_reach_1 : decode cX9_reach 1 = .ok (.iload_n 1, 1) := by decide +kernel
theorem dX9_reach_2 : decode cX9_reach 2 = .ok (.iload_n 2, 1) := by decide +kernel
theorem dX9_reach_3 : decode cX9_reach 3 = .ok (.iload_n 3, 1) := by decide +kernel
theorem dX9_reach_4 : decode cX9_reach 4 = .ok (.invokevirtual 115, 3) := by decide +kernel
theorem dX9_condition_0 : decode cX9_condition 0 = .ok (.aload_n 0, 1) := by decide +kernel
theorem dX9_condition_1 : decode cX9_condition 1 = .ok (.iload_n 1, 1) := by decide +kernel
theorem dX9_condition_2 : decode cX9_condition 2 = .ok (.iload_n 2, 1) := by decide +kernel
theorem dX9_condition_3 : decode cX9_condition 3 = .ok (.iload_n 3, 1) := by decide +kernel
theorem dX9_condition_4 : decode cX9_condition 4 = .ok (.invokevirtual 90, 3) := by decide +kernel
theorem dX9_predicate_0 : decode cX9_predicate 0 = .ok (.aload_n 0, 1) := by decide +kernel
theorem dX9_predicate_1 : decode cX9_predicate 1 = .ok (.iload_n 1, 1) := by decide +kernel
theorem dX9_predicate_2 : decode cX9_predicate 2 = .ok (.invokevirtual 166, 3) := by decide +kernel
theorem dX9_clause_0 : decode cX9_clause 0 = .ok (.aload_n 0, 1) := by decide +kernel
theorem dX9_clause_1 : decode cX9_clause 1 = .ok (.iload_n 1, 1) := by decide +kernel
theorem dX9_clause_2 : decode cX9_clause 2 = .ok (.aload_n 0, 1) := by decide +kernel
theorem dX9_clause_3 : decode cX9_clause 3 = .ok (.getfield 23, 3) := by decide +kernel
theorem dX9_clause_6 : decode cX9_clause 6 = .ok (.getfield 87, 3) := by decide +kernel
theorem dX9_clause_9 : decode cX9_clause 9 = .ok (.invokevirtual 199, 3) := by decide +kernel
theorem dX9_literals_0 : decode cX9_literals 0 = .ok (.aload_n 0, 1) := by decide +kernel
theorem dX9_literals_1 : decode cX9_literals 1 = .ok (.iload_n 1, 1) := by decide +kernel
theorem dX9_literals_2 : decode cX9_literals 2 = .ok (.aload_n 0, 1) := by decide +kernel
theorem dX9_literals_3 : decode cX9_literals 3 = .ok (.getfield 23, 3) := by decide +kernel
theorem dX9_literals_6 : decode cX9_literals 6 = .ok (.getfield 87, 3) := by decide +kernel
theorem dX9_literals_9 : decode cX9_literals 9 = .ok (.invokevirtual 199, 3) := by decide +kernel
set_option maxRecDepth 100000 in
set_option maxHeartbeats 4000000 in
theorem c_xassume (l : Launch) (hfl : l.stackTraces = false) (D : va_G) (Y : Nat → ClassId) (h0 : Nat) (rf : Nat) (pr : Nat) (g : Nat → Value) (gp : Nat → Value) (f : Nat → Int32) (j1 : Int32) (j2 : Int32) (j3 : Int32) (g_3 : g 3 = .ref rf) (g_4 : g 4 = .ref pr) (gp_0 : gp 0 = .int 0) (gp_1 : gp 1 = .int 0) (gp_2 : gp 2 = .int 0)  : xM l D Y yX9_assume cX9_assume 4 (some .int) 5 1 6 [.ref h0, .int j1, .int j2, .int j3] [(h0, .inr (8, fl 9 g)), (rf, .inl (Y 0, 3, .inl f)), (pr, .inr (3, fl 9 gp))] (qI D (fun (r : Int32) (u : Unit) => False) (fun (u : Unit) => [])) (fun E => E = nse) := by
  refine xM.mk RX9 rfl (by decide) (Nat.le_of_ble_eq_true rfl) ?_
  intro p e s m below meth c A F hr hlocks hno hK hZ hP hD hA hS ls hl
  have hx := F.1
  have hb := F.2.1
  have hl : lv_has ls 4 [(0, .ref h0), (1, .int j1), (2, .int j2), (3, .int j3)] := hl
  refine lv_aload_n hx hb dX9_assume_0 rfl (lv_at hl 0 rfl) ?_
  refine lv_iload_n hx hb dX9_assume_1 rfl (lv_at hl 1 rfl) ?_
  refine lv_iload_n hx hb dX9_assume_2 rfl (lv_at hl 2 rfl) ?_
  refine lv_iload_n hx hb dX9_assume_3 rfl (lv_at hl 3 rfl) ?_
  refine xgoV (wr := []) (xrunV (n := 3) (As := [.int j1, .int j2, .int j3]) (rest := []) (C := RX9) (T := TX9) (N := 9) (ci := 8) F hK hZ hP hD hS hA (c_needAt l hfl D Y h0 rf pr g gp f j1 j2 j3 g_3 g_4 gp_0 gp_1 gp_2 ) 0 rfl rfl [0, 1, 2] rfl rfl m_32 m_33 m_34 m_6 m_31 (by decide +kernel) rfl ⟨Nat.le_of_ble_eq_true rfl, Nat.le_of_ble_eq_true rfl⟩ hl.1 rfl (Nat.le_of_ble_eq_true rfl) dX9_assume_4 ⟨Nat.le_of_ble_eq_true rfl, Nat.le_of_ble_eq_true rfl⟩) hP hD hS hA [0, 1, 2] [] rfl rfl rfl (by decide) (fun E ce q9 H locs hE hP hD hS h1 h2 h3 => ?_) (fun u H locs hw hP hD hS => ?_)
  · skip
    exact xOut hno hlocks hE hS h1 h2 h3 (Nat.le_of_ble_eq_true rfl) (Nat.le_of_ble_eq_true rfl)
  · exact hw.elim
set_option maxRecDepth 100000 in
set_option maxHeartbeats 4000000 in
theorem c_xretract (l : Launch) (hfl : l.stackTraces = false) (D : va_G) (Y : Nat → ClassId) (h0 : Nat) (rf : Nat) (pr : Nat) (g : Nat → Value) (gp : Nat → Value) (f : Nat → Int32) (j1 : Int32) (j2 : Int32) (j3 : Int32) (g_3 : g 3 = .ref rf) (g_4 : g 4 = .ref pr) (gp_0 : gp 0 = .int 0) (gp_1 : gp 1 = .int 0) (gp_2 : gp 2 = .int 0)  : xM l D Y yX9_retract cX9_retract 5 (some .int) 5 1 6 [.ref h0, .int j1, .int j2, .int j3] [(h0, .inr (8, fl 9 g)), (rf, .inl (Y 0, 3, .inl f)), (pr, .inr (3, fl 9 gp))] (qI D (fun (r : Int32) (u : Unit) => False) (fun (u : Unit) => [])) (fun E => E = nse) := by
  refine xM.mk RX9 rfl (by decide) (Nat.le_of_ble_eq_true rfl) ?_
  intro p e s m below meth c A F hr hlocks hno hK hZ hP hD hA hS ls hl
  have hx := F.1
  have hb := F.2.1
  have hl : lv_has ls 5 [(0, .ref h0), (1, .int j1), (2, .int j2), (3, .int j3)] := hl
  refine lv_aload_n hx hb dX9_retract_0 rfl (lv_at hl 0 rfl) ?_
  refine lv_iload_n hx hb dX9_retract_1 rfl (lv_at hl 1 rfl) ?_
  refine lv_iload_n hx hb dX9_retract_2 rfl (lv_at hl 2 rfl) ?_
  refine lv_iload_n hx hb dX9_retract_3 rfl (lv_at hl 3 rfl) ?_
  refine xgoV (wr := []) (xrunV (n := 3) (As := [.int j1, .int j2, .int j3]) (rest := []) (C := RX9) (T := TX9) (N := 9) (ci := 8) F hK hZ hP hD hS hA (c_needAt l hfl D Y h0 rf pr g gp f j1 j2 j3 g_3 g_4 gp_0 gp_1 gp_2 ) 0 rfl rfl [0, 1, 2] rfl rfl m_32 m_33 m_34 m_6 m_31 (by decide +kernel) rfl ⟨Nat.le_of_ble_eq_true rfl, Nat.le_of_ble_eq_true rfl⟩ hl.1 rfl (Nat.le_of_ble_eq_true rfl) dX9_retract_4 ⟨Nat.le_of_ble_eq_true rfl, Nat.le_of_ble_eq_true rfl⟩) hP hD hS hA [0, 1, 2] [] rfl rfl rfl (by decide) (fun E ce q9 H locs hE hP hD hS h1 h2 h3 => ?_) (fun u H locs hw hP hD hS => ?_)
  · skip
    exact xOut hno hlocks hE hS h1 h2 h3 (Nat.le_of_ble_eq_true rfl) (Nat.le_of_ble_eq_true rfl)
  · exact hw.elim
set_option maxRecDepth 100000 in
set_option maxHeartbeats 4000000 in
theorem c_xask (l : Launch) (hfl : l.stackTraces = false) (D : va_G) (Y : Nat → ClassId) (h0 : Nat) (rf : Nat) (pr : Nat) (g : Nat → Value) (gp : Nat → Value) (f : Nat → Int32) (j1 : Int32) (j2 : Int32) (j3 : Int32) (g_3 : g 3 = .ref rf) (g_4 : g 4 = .ref pr) (gp_0 : gp 0 = .int 0) (gp_1 : gp 1 = .int 0) (gp_2 : gp 2 = .int 0)  : xM l D Y yX9_ask cX9_ask 4 (some .int) 5 1 6 [.ref h0, .int j1, .int j2, .int j3] [(h0, .inr (8, fl 9 g)), (rf, .inl (Y 0, 3, .inl f)), (pr, .inr (3, fl 9 gp))] (qI D (fun (r : Int32) (u : Unit) => False) (fun (u : Unit) => [])) (fun E => E = nse) := by
  refine xM.mk RX9 rfl (by decide) (Nat.le_of_ble_eq_true rfl) ?_
  intro p e s m below meth c A F hr hlocks hno hK hZ hP hD hA hS ls hl
  have hx := F.1
  have hb := F.2.1
  have hl : lv_has ls 4 [(0, .ref h0), (1, .int j1), (2, .int j2), (3, .int j3)] := hl
  refine lv_aload_n hx hb dX9_ask_0 rfl (lv_at hl 0 rfl) ?_
  refine lv_iload_n hx hb dX9_ask_1 rfl (lv_at hl 1 rfl) ?_
  refine lv_iload_n hx hb dX9_ask_2 rfl (lv_at hl 2 rfl) ?_
  refine lv_iload_n hx hb dX9_ask_3 rfl (lv_at hl 3 rfl) ?_
  refine xgoV (wr := []) (xrunV (n := 3) (As := [.int j1, .int j2, .int j3]) (rest := []) (C := RX9) (T := TX9) (N := 9) (ci := 8) F hK hZ hP hD hS hA (c_needGo l hfl D Y h0 rf pr g gp f j1 j2 j3 g_3 g_4 gp_0 gp_1 gp_2 ) 0 rfl rfl [0, 1, 2] rfl rfl m_36 m_37 m_38 m_6 m_35 (by decide +kernel) rfl ⟨Nat.le_of_ble_eq_true rfl, Nat.le_of_ble_eq_true rfl⟩ hl.1 rfl (Nat.le_of_ble_eq_true rfl) dX9_ask_4 ⟨Nat.le_of_ble_eq_true rfl, Nat.le_of_ble_eq_true rfl⟩) hP hD hS hA [0, 1, 2] [] rfl rfl rfl (by decide) (fun E ce q9 H locs hE hP hD hS h1 h2 h3 => ?_) (fun u H locs hw hP hD hS => ?_)
  · skip
    exact xOut hno hlocks hE hS h1 h2 h3 (Nat.le_of_ble_eq_true rfl) (Nat.le_of_ble_eq_true rfl)
  · exact hw.elim
set_option maxRecDepth 100000 in
set_option maxHeartbeats 4000000 in
theorem c_xvalue (l : Launch) (hfl : l.stackTraces = false) (D : va_G) (Y : Nat → ClassId) (h0 : Nat) (rf : Nat) (pr : Nat) (g : Nat → Value) (gp : Nat → Value) (f : Nat → Int32) (j1 : Int32) (j2 : Int32) (j3 : Int32) (g_3 : g 3 = .ref rf) (g_4 : g 4 = .ref pr) (gp_0 : gp 0 = .int 0) (gp_1 : gp 1 = .int 0) (gp_2 : gp 2 = .int 0)  : xM l D Y yX9_value cX9_value 4 (some .int) 5 1 6 [.ref h0, .int j1, .int j2, .int j3] [(h0, .inr (8, fl 9 g)), (rf, .inl (Y 0, 3, .inl f)), (pr, .inr (3, fl 9 gp))] (qI D (fun (r : Int32) (u : Unit) => False) (fun (u : Unit) => [])) (fun E => E = nse) := by
  refine xM.mk RX9 rfl (by decide) (Nat.le_of_ble_eq_true rfl) ?_
  intro p e s m below meth c A F hr hlocks hno hK hZ hP hD hA hS ls hl
  have hx := F.1
  have hb := F.2.1
  have hl : lv_has ls 4 [(0, .ref h0), (1, .int j1), (2, .int j2), (3, .int j3)] := hl
  refine lv_aload_n hx hb dX9_value_0 rfl (lv_at hl 0 rfl) ?_
  refine lv_iload_n hx hb dX9_value_1 rfl (lv_at hl 1 rfl) ?_
  refine lv_iload_n hx hb dX9_value_2 rfl (lv_at hl 2 rfl) ?_
  refine lv_iload_n hx hb dX9_value_3 rfl (lv_at hl 3 rfl) ?_
  refine xgoV (wr := []) (xrunV (n := 3) (As := [.int j1, .int j2, .int j3]) (rest := []) (C := RX9) (T := TX9) (N := 9) (ci := 8) F hK hZ hP hD hS hA (c_needAt l hfl D Y h0 rf pr g gp f j1 j2 j3 g_3 g_4 gp_0 gp_1 gp_2 ) 0 rfl rfl [0, 1, 2] rfl rfl m_32 m_33 m_34 m_6 m_31 (by decide +kernel) rfl ⟨Nat.le_of_ble_eq_true rfl, Nat.le_of_ble_eq_true rfl⟩ hl.1 rfl (Nat.le_of_ble_eq_true rfl) dX9_value_4 ⟨Nat.le_of_ble_eq_true rfl, Nat.le_of_ble_eq_true rfl⟩) hP hD hS hA [0, 1, 2] [] rfl rfl rfl (by decide) (fun E ce q9 H locs hE hP hD hS h1 h2 h3 => ?_) (fun u H locs hw hP hD hS => ?_)
  · skip
    exact xOut hno hlocks hE hS h1 h2 h3 (Nat.le_of_ble_eq_true rfl) (Nat.le_of_ble_eq_true rfl)
  · exact hw.elim
set_option maxRecDepth 100000 in
set_option maxHeartbeats 4000000 in
theorem c_xstage (l : Launch) (hfl : l.stackTraces = false) (D : va_G) (Y : Nat → ClassId) (h0 : Nat) (rf : Nat) (pr : Nat) (g : Nat → Value) (gp : Nat → Value) (f : Nat → Int32) (j1 : Int32) (j2 : Int32) (j3 : Int32) (g_3 : g 3 = .ref rf) (g_4 : g 4 = .ref pr) (gp_0 : gp 0 = .int 0) (gp_1 : gp 1 = .int 0) (gp_2 : gp 2 = .int 0)  : xM l D Y yX9_stage cX9_stage 4 (some .int) 5 1 6 [.ref h0, .int j1, .int j2, .int j3] [(h0, .inr (8, fl 9 g)), (rf, .inl (Y 0, 3, .inl f)), (pr, .inr (3, fl 9 gp))] (qI D (fun (r : Int32) (u : Unit) => False) (fun (u : Unit) => [])) (fun E => E = nse) := by
  refine xM.mk RX9 rfl (by decide) (Nat.le_of_ble_eq_true rfl) ?_
  intro p e s m below meth c A F hr hlocks hno hK hZ hP hD hA hS ls hl
  have hx := F.1
  have hb := F.2.1
  have hl : lv_has ls 4 [(0, .ref h0), (1, .int j1), (2, .int j2), (3, .int j3)] := hl
  refine lv_aload_n hx hb dX9_stage_0 rfl (lv_at hl 0 rfl) ?_
  refine lv_iload_n hx hb dX9_stage_1 rfl (lv_at hl 1 rfl) ?_
  refine lv_iload_n hx hb dX9_stage_2 rfl (lv_at hl 2 rfl) ?_
  refine lv_iload_n hx hb dX9_stage_3 rfl (lv_at hl 3 rfl) ?_
  refine xgoV (wr := []) (xrunV (n := 3) (As := [.int j1, .int j2, .int j3]) (rest := []) (C := RX9) (T := TX9) (N := 9) (ci := 8) F hK hZ hP hD hS hA (c_needAt l hfl D Y h0 rf pr g gp f j1 j2 j3 g_3 g_4 gp_0 gp_1 gp_2 ) 0 rfl rfl [0, 1, 2] rfl rfl m_32 m_33 m_34 m_6 m_31 (by decide +kernel) rfl ⟨Nat.le_of_ble_eq_true rfl, Nat.le_of_ble_eq_true rfl⟩ hl.1 rfl (Nat.le_of_ble_eq_true rfl) dX9_stage_4 ⟨Nat.le_of_ble_eq_true rfl, Nat.le_of_ble_eq_true rfl⟩) hP hD hS hA [0, 1, 2] [] rfl rfl rfl (by decide) (fun E ce q9 H locs hE hP hD hS h1 h2 h3 => ?_) (fun u H locs hw hP hD hS => ?_)
  · skip
    exact xOut hno hlocks hE hS h1 h2 h3 (Nat.le_of_ble_eq_true rfl) (Nat.le_of_ble_eq_true rfl)
  · exact hw.elim
set_option maxRecDepth 100000 in
set_option maxHeartbeats 4000000 in
theorem c_xfind (l : Launch) (hfl : l.stackTraces = false) (D : va_G) (Y : Nat → ClassId) (h0 : Nat) (rf : Nat) (pr : Nat) (g : Nat → Value) (gp : Nat → Value) (f : Nat → Int32) (j1 : Int32) (j2 : Int32) (j3 : Int32) (g_3 : g 3 = .ref rf) (g_4 : g 4 = .ref pr) (gp_0 : gp 0 = .int 0) (gp_1 : gp 1 = .int 0) (gp_2 : gp 2 = .int 0)  : xM l D Y yX9_find cX9_find 4 (some .int) 5 1 6 [.ref h0, .int j1, .int j2, .int j3] [(h0, .inr (8, fl 9 g)), (rf, .inl (Y 0, 3, .inl f)), (pr, .inr (3, fl 9 gp))] (qI D (fun (r : Int32) (u : Unit) => False) (fun (u : Unit) => [])) (fun E => E = nse) := by
  refine xM.mk RX9 rfl (by decide) (Nat.le_of_ble_eq_true rfl) ?_
  intro p e s m below meth c A F hr hlocks hno hK hZ hP hD hA hS ls hl
  have hx := F.1
  have hb := F.2.1
  have hl : lv_has ls 4 [(0, .ref h0), (1, .int j1), (2, .int j2), (3, .int j3)] := hl
  refine lv_aload_n hx hb dX9_find_0 rfl (lv_at hl 0 rfl) ?_
  refine lv_iload_n hx hb dX9_find_1 rfl (lv_at hl 1 rfl) ?_
  refine lv_iload_n hx hb dX9_find_2 rfl (lv_at hl 2 rfl) ?_
  refine lv_iload_n hx hb dX9_find_3 rfl (lv_at hl 3 rfl) ?_
  refine xgoV (wr := []) (xrunV (n := 3) (As := [.int j1, .int j2, .int j3]) (rest := []) (C := RX9) (T := TX9) (N := 9) (ci := 8) F hK hZ hP hD hS hA (c_needGo l hfl D Y h0 rf pr g gp f j1 j2 j3 g_3 g_4 gp_0 gp_1 gp_2 ) 0 rfl rfl [0, 1, 2] rfl rfl m_36 m_37 m_38 m_6 m_35 (by decide +kernel) rfl ⟨Nat.le_of_ble_eq_true rfl, Nat.le_of_ble_eq_true rfl⟩ hl.1 rfl (Nat.le_of_ble_eq_true rfl) dX9_find_4 ⟨Nat.le_of_ble_eq_true rfl, Nat.le_of_ble_eq_true rfl⟩) hP hD hS hA [0, 1, 2] [] rfl rfl rfl (by decide) (fun E ce q9 H locs hE hP hD hS h1 h2 h3 => ?_) (fun u H locs hw hP hD hS => ?_)
  · skip
    exact xOut hno hlocks hE hS h1 h2 h3 (Nat.le_of_ble_eq_true rfl) (Nat.le_of_ble_eq_true rfl)
  · exact hw.elim
set_option maxRecDepth 100000 in
set_option maxHeartbeats 4000000 in
theorem c_xreach (l : Launch) (hfl : l.stackTraces = false) (D : va_G) (Y : Nat → ClassId) (h0 : Nat) (rf : Nat) (pr : Nat) (g : Nat → Value) (gp : Nat → Value) (f : Nat → Int32) (j1 : Int32) (j2 : Int32) (j3 : Int32) (g_3 : g 3 = .ref rf) (g_4 : g 4 = .ref pr) (gp_0 : gp 0 = .int 0) (gp_1 : gp 1 = .int 0) (gp_2 : gp 2 = .int 0)  : xM l D Y yX9_reach cX9_reach 4 (some .int) 5 1 6 [.ref h0, .int j1, .int j2, .int j3] [(h0, .inr (8, fl 9 g)), (rf, .inl (Y 0, 3, .inl f)), (pr, .inr (3, fl 9 gp))] (qI D (fun (r : Int32) (u : Unit) => False) (fun (u : Unit) => [])) (fun E => E = nse) := by
  refine xM.mk RX9 rfl (by decide) (Nat.le_of_ble_eq_true rfl) ?_
  intro p e s m below meth c A F hr hlocks hno hK hZ hP hD hA hS ls hl
  have hx := F.1
  have hb := F.2.1
  have hl : lv_has ls 4 [(0, .ref h0), (1, .int j1), (2, .int j2), (3, .int j3)] := hl
  refine lv_aload_n hx hb dX9_reach_0 rfl (lv_at hl 0 rfl) ?_
  refine lv_iload_n hx hb dX9_reach_1 rfl (lv_at hl 1 rfl) ?_
  refine lv_iload_n hx hb dX9_reach_2 rfl (lv_at hl 2 rfl) ?_
  refine lv_iload_n hx hb dX9_reach_3 rfl (lv_at hl 3 rfl) ?_
  refine xgoV (wr := []) (xrunV (n := 3) (As := [.int j1, .int j2, .int j3]) (rest := []) (C := RX9) (T := TX9) (N := 9) (ci := 8) F hK hZ hP hD hS hA (c_needGo l hfl D Y h0 rf pr g gp f j1 j2 j3 g_3 g_4 gp_0 gp_1 gp_2 ) 0 rfl rfl [0, 1, 2] rfl rfl m_36 m_37 m_38 m_6 m_35 (by decide +kernel) rfl ⟨Nat.le_of_ble_eq_true rfl, Nat.le_of_ble_eq_true rfl⟩ hl.1 rfl (Nat.le_of_ble_eq_true rfl) dX9_reach_4 ⟨Nat.le_of_ble_eq_true rfl, Nat.le_of_ble_eq_true rfl⟩) hP hD hS hA [0, 1, 2] [] rfl rfl rfl (by decide) (fun E ce q9 H locs hE hP hD hS h1 h2 h3 => ?_) (fun u H locs hw hP hD hS => ?_)
  · skip
    exact xOut hno hlocks hE hS h1 h2 h3 (Nat.le_of_ble_eq_true rfl) (Nat.le_of_ble_eq_true rfl)
  · exact hw.elim
set_option maxRecDepth 100000 in
set_option maxHeartbeats 4000000 in
theorem c_xcondition (l : Launch) (hfl : l.stackTraces = false) (D : va_G) (Y : Nat → ClassId) (h0 : Nat) (rf : Nat) (pr : Nat) (g : Nat → Value) (gp : Nat → Value) (f : Nat → Int32) (j1 : Int32) (j2 : Int32) (j3 : Int32) (j4 : Int32) (j5 : Int32) (g_3 : g 3 = .ref rf) (g_4 : g 4 = .ref pr) (gp_0 : gp 0 = .int 0) (gp_1 : gp 1 = .int 0) (gp_2 : gp 2 = .int 0)  : xM l D Y yX9_condition cX9_condition 6 (some .int) 5 1 6 [.ref h0, .int j1, .int j2, .int j3, .int j4, .int j5] [(h0, .inr (8, fl 9 g)), (rf, .inl (Y 0, 3, .inl f)), (pr, .inr (3, fl 9 gp))] (qI D (fun (r : Int32) (u : Unit) => False) (fun (u : Unit) => [])) (fun E => E = nse) := by
  refine xM.mk RX9 rfl (by decide) (Nat.le_of_ble_eq_true rfl) ?_
  intro p e s m below meth c A F hr hlocks hno hK hZ hP hD hA hS ls hl
  have hx := F.1
  have hb := F.2.1
  have hl : lv_has ls 6 [(0, .ref h0), (1, .int j1), (2, .int j2), (3, .int j3), (4, .int j4), (5, .int j5)] := hl
  refine lv_aload_n hx hb dX9_condition_0 rfl (lv_at hl 0 rfl) ?_
  refine lv_iload_n hx hb dX9_condition_1 rfl (lv_at hl 1 rfl) ?_
  refine lv_iload_n hx hb dX9_condition_2 rfl (lv_at hl 2 rfl) ?_
  refine lv_iload_n hx hb dX9_condition_3 rfl (lv_at hl 3 rfl) ?_
  refine xgoV (wr := []) (xrunV (n := 3) (As := [.int j1, .int j2, .int j3]) (rest := []) (C := RX9) (T := TX9) (N := 9) (ci := 8) F hK hZ hP hD hS hA (c_needAt l hfl D Y h0 rf pr g gp f j1 j2 j3 g_3 g_4 gp_0 gp_1 gp_2 ) 0 rfl rfl [0, 1, 2] rfl rfl m_32 m_33 m_34 m_6 m_31 (by decide +kernel) rfl ⟨Nat.le_of_ble_eq_true rfl, Nat.le_of_ble_eq_true rfl⟩ hl.1 rfl (Nat.le_of_ble_eq_true rfl) dX9_condition_4 ⟨Nat.le_of_ble_eq_true rfl, Nat.le_of_ble_eq_true rfl⟩) hP hD hS hA [0, 1, 2] [] rfl rfl rfl (by decide) (fun E ce q9 H locs hE hP hD hS h1 h2 h3 => ?_) (fun u H locs hw hP hD hS => ?_)
  · skip
    exact xOut hno hlocks hE hS h1 h2 h3 (Nat.le_of_ble_eq_true rfl) (Nat.le_of_ble_eq_true rfl)
  · exact hw.elim
set_option maxRecDepth 100000 in
set_option maxHeartbeats 4000000 in
theorem c_xpredicate (l : Launch) (hfl : l.stackTraces = false) (D : va_G) (Y : Nat → ClassId) (h0 : Nat) (rf : Nat) (pr : Nat) (g : Nat → Value) (gp : Nat → Value) (f : Nat → Int32) (j1 : Int32) (j2 : Int32) (g_3 : g 3 = .ref rf) (g_4 : g 4 = .ref pr) (gp_0 : gp 0 = .int 0) (gp_1 : gp 1 = .int 0) (gp_2 : gp 2 = .int 0)  : xM l D Y yX9_predicate cX9_predicate 3 (some .int) 4 1 6 [.ref h0, .int j1, .int j2] [(h0, .inr (8, fl 9 g)), (rf, .inl (Y 0, 3, .inl f)), (pr, .inr (3, fl 9 gp))] (qI D (fun (r : Int32) (u : Unit) => False) (fun (u : Unit) => [])) (fun E => E = nse) := by
  refine xM.mk RX9 rfl (by decide) (Nat.le_of_ble_eq_true rfl) ?_
  intro p e s m below meth c A F hr hlocks hno hK hZ hP hD hA hS ls hl
  have hx := F.1
  have hb := F.2.1
  have hl : lv_has ls 3 [(0, .ref h0), (1, .int j1), (2, .int j2)] := hl
  refine lv_aload_n hx hb dX9_predicate_0 rfl (lv_at hl 0 rfl) ?_
  refine lv_iload_n hx hb dX9_predicate_1 rfl (lv_at hl 1 rfl) ?_
  refine xgoV (wr := []) (xrunV (n := 1) (As := [.int j1]) (rest := []) (C := RX9) (T := TX9) (N := 9) (ci := 8) F hK hZ hP hD hS hA (c_needP l hfl D Y h0 rf pr g gp f j1 g_3 g_4 gp_0 gp_1 gp_2 ) 0 rfl rfl [0, 1, 2] rfl rfl m_28 m_29 m_30 m_6 m_27 (by decide +kernel) rfl ⟨Nat.le_of_ble_eq_true rfl, Nat.le_of_ble_eq_true rfl⟩ hl.1 rfl (Nat.le_of_ble_eq_true rfl) dX9_predicate_2 ⟨Nat.le_of_ble_eq_true rfl, Nat.le_of_ble_eq_true rfl⟩) hP hD hS hA [0, 1, 2] [] rfl rfl rfl (by decide) (fun E ce q9 H locs hE hP hD hS h1 h2 h3 => ?_) (fun u H locs hw hP hD hS => ?_)
  · skip
    exact xOut hno hlocks hE hS h1 h2 h3 (Nat.le_of_ble_eq_true rfl) (Nat.le_of_ble_eq_true rfl)
  · exact hw.elim
set_option maxRecDepth 100000 in
set_option maxHeartbeats 4000000 in
theorem c_xclause (l : Launch) (hfl : l.stackTraces = false) (D : va_G) (Y : Nat → ClassId) (h0 : Nat) (rf : Nat) (pr : Nat) (g : Nat → Value) (gp : Nat → Value) (f : Nat → Int32) (j1 : Int32) (j2 : Int32) (j3 : Int32) (g_3 : g 3 = .ref rf) (g_4 : g 4 = .ref pr) (gp_0 : gp 0 = .int 0) (gp_1 : gp 1 = .int 0) (gp_2 : gp 2 = .int 0)  : xM l D Y yX9_clause cX9_clause 4 (some .int) 4 1 6 [.ref h0, .int j1, .int j2, .int j3] [(h0, .inr (8, fl 9 g)), (rf, .inl (Y 0, 3, .inl f)), (pr, .inr (3, fl 9 gp))] (qI D (fun (r : Int32) (u : Unit) => False) (fun (u : Unit) => [])) (fun E => E = nse) := by
  refine xM.mk RX9 rfl (by decide) (Nat.le_of_ble_eq_true rfl) ?_
  intro p e s m below meth c A F hr hlocks hno hK hZ hP hD hA hS ls hl
  have hx := F.1
  have hb := F.2.1
  have hl : lv_has ls 4 [(0, .ref h0), (1, .int j1), (2, .int j2), (3, .int j3)] := hl
  refine lv_aload_n hx hb dX9_clause_0 rfl (lv_at hl 0 rfl) ?_
  refine lv_iload_n hx hb dX9_clause_1 rfl (lv_at hl 1 rfl) ?_
  refine lv_aload_n hx hb dX9_clause_2 rfl (lv_at hl 0 rfl) ?_
  refine gF (C := RX9) (T := TX9) (ci := 8) (v := .ref pr) F hK hP 0 rfl rfl iwX9 4 (by decide) m_20 (fun _ h => h) g_4 dX9_clause_3 ?_
  refine gF (C := RX3) (T := TX3) (ci := 3) (v := .int 0) F hK hP 2 rfl rfl iwX3 2 (by decide) m_39 (fun _ h => h) gp_2 dX9_clause_6 ?_
  refine xgoV (wr := [(pr, .inr (3, fl 9 gp))]) (xrunV (n := 2) (As := [.int j1, .int 0]) (rest := []) (C := RX9) (T := TX9) (N := 9) (ci := 8) F hK hZ hP hD hS hA (c_needIx l hfl D Y h0 rf g f j1 g_3 ) 0 rfl rfl [0, 1] rfl rfl m_23 m_24 m_25 m_6 m_22 (by decide +kernel) rfl ⟨Nat.le_of_ble_eq_true rfl, Nat.le_of_ble_eq_true rfl⟩ hl.1 rfl (Nat.le_of_ble_eq_true rfl) dX9_clause_9 ⟨Nat.le_of_ble_eq_true rfl, Nat.le_of_ble_eq_true rfl⟩) hP hD hS hA [0, 1] [2] rfl rfl rfl (by decide) (fun E ce q9 H locs hE hP hD hS h1 h2 h3 => ?_) (fun u H locs hw hP hD hS => ?_)
  · skip
    exact xOut hno hlocks hE hS h1 h2 h3 (Nat.le_of_ble_eq_true rfl) (Nat.le_of_ble_eq_true rfl)
  · exact hw.elim
set_option maxRecDepth 100000 in
set_option maxHeartbeats 4000000 in
theorem c_xliterals (l : Launch) (hfl : l.stackTraces = false) (D : va_G) (Y : Nat → ClassId) (h0 : Nat) (rf : Nat) (pr : Nat) (g : Nat → Value) (gp : Nat → Value) (f : Nat → Int32) (j1 : Int32) (g_3 : g 3 = .ref rf) (g_4 : g 4 = .ref pr) (gp_0 : gp 0 = .int 0) (gp_1 : gp 1 = .int 0) (gp_2 : gp 2 = .int 0)  : xM l D Y yX9_literals cX9_literals 2 (some .int) 4 1 6 [.ref h0, .int j1] [(h0, .inr (8, fl 9 g)), (rf, .inl (Y 0, 3, .inl f)), (pr, .inr (3, fl 9 gp))] (qI D (fun (r : Int32) (u : Unit) => False) (fun (u : Unit) => [])) (fun E => E = nse) := by
  refine xM.mk RX9 rfl (by decide) (Nat.le_of_ble_eq_true rfl) ?_
  intro p e s m below meth c A F hr hlocks hno hK hZ hP hD hA hS ls hl
  have hx := F.1
  have hb := F.2.1
  have hl : lv_has ls 2 [(0, .ref h0), (1, .int j1)] := hl
  refine lv_aload_n hx hb dX9_literals_0 rfl (lv_at hl 0 rfl) ?_
  refine lv_iload_n hx hb dX9_literals_1 rfl (lv_at hl 1 rfl) ?_
  refine lv_aload_n hx hb dX9_literals_2 rfl (lv_at hl 0 rfl) ?_
  refine gF (C := RX9) (T := TX9) (ci := 8) (v := .ref pr) F hK hP 0 rfl rfl iwX9 4 (by decide) m_20 (fun _ h => h) g_4 dX9_literals_3 ?_
  refine gF (C := RX3) (T := TX3) (ci := 3) (v := .int 0) F hK hP 2 rfl rfl iwX3 2 (by decide) m_39 (fun _ h => h) gp_2 dX9_literals_6 ?_
  refine xgoV (wr := [(pr, .inr (3, fl 9 gp))]) (xrunV (n := 2) (As := [.int j1, .int 0]) (rest := []) (C := RX9) (T := TX9) (N := 9) (ci := 8) F hK hZ hP hD hS hA (c_needIx l hfl D Y h0 rf g f j1 g_3 ) 0 rfl rfl [0, 1] rfl rfl m_23 m_24 m_25 m_6 m_22 (by decide +kernel) rfl ⟨Nat.le_of_ble_eq_true rfl, Nat.le_of_ble_eq_true rfl⟩ hl.1 rfl (Nat.le_of_ble_eq_true rfl) dX9_literals_9 ⟨Nat.le_of_ble_eq_true rfl, Nat.le_of_ble_eq_true rfl⟩) hP hD hS hA [0, 1] [2] rfl rfl rfl (by decide) (fun E ce q9 H locs hE hP hD hS h1 h2 h3 => ?_) (fun u H locs hw hP hD hS => ?_)
  · skip
    exact xOut hno hlocks hE hS h1 h2 h3 (Nat.le_of_ble_eq_true rfl) (Nat.le_of_ble_eq_true rfl)
  · exact hw.elim
