set_option maxRecDepth 100000 in
set_option maxHeartbeats 8000000 in
theorem whole_start {p : Program} {e : Env} {s : State} {m : MethodId} {below : List Frame} {meth : Method} {c : Code} (l : Launch) (hflags : l.flags = flags0) {b L : Nat} {xs : Nat → Int32} (hL : L ≤ 6) (C0 : lw_At p s m meth c b L xs) : W p l e room_1 s m #[Value.ref b] below meth c s.heap [] 0 0 (lw_Z below #[Value.ref b] s) (entryFrame m ([Value.ref b] : List Value).toArray 7) := by
  have hfl : l.stackTraces = false := by unfold Launch.stackTraces; rw [hflags]; decide +kernel
  obtain ⟨hx, hb, hr, hml, hown, hts, hX, hbl, hlocks, hgv⟩ := C0
  have hWS : ∀ w ∈ WS, w.before #[Value.ref b] s = true := fun w h => hts w (WS_in w h)
  have F : CallFix p m c code 7 s #[Value.ref b] WS RL := ⟨hx, hb, hml, hown, hWS⟩
  obtain ⟨A, hAe⟩ : ∃ A : Nat → Prop, A = fun q => s.heap.size ≤ q := ⟨_, rfl⟩
  have hA : ∀ q, s.heap.size ≤ q → A q := fun q h => by rw [hAe]; exact h
  have hAA : ∀ q, A q → s.heap.size ≤ q := fun q h => by rw [hAe] at h; exact h
  have hnA : ∀ a : Nat, a < s.heap.size → ¬ A a := fun a h h2 => absurd (hAA a h2) (Nat.not_le.mpr h)
  have hbA : ¬ A b := hnA b hbl
  obtain ⟨D, Y, hK⟩ := kv_start hts hWS hgv
  have hZ : ZZ A s s.heap := zz_start hts hgv hnA
  have hS : va_S A s.heap s.heap [] := va_S.rf
  have hP : va_P D vwCl [] s.heap := fun k q h => by simp at h
  have hD : va_D A [] := ⟨fun i j p q h => by simp at h, fun k q h => by simp at h⟩
  have hl := lv_entry ([.ref b]) (n := 7) (Nat.le_of_ble_eq_true rfl)
  rw [lg_entry_eq]
  generalize (lg_sl ([.ref b]) ++ List.replicate (7 - (lg_sl ([.ref b])).length) Slot.unset).toArray = ls at hl ⊢
  have hl : lv_has ls 7 [(0, .ref b)] := hl
  refine nO (C := RX9) (T := TX9) (N := 9) (ci := 8) F hK hP hD hS hA rfl iwX9 tyX9 tyX9_ok m_634 m_635 m_6 (Nat.le_of_ble_eq_true rfl) (Nat.le_of_ble_eq_true rfl) dL_law_0 (fun q_1 H hP hD hS => ?_)
  have hP : va_P D vwCl [(q_1, .inr (8, fl 9 (fun k => defaultValue (tyX9 k))))] H := hP
  have hD : va_D A [(q_1, .inr (8, fl 9 (fun k => defaultValue (tyX9 k))))] := hD
  refine W.widen (k := 1) (n := 9) (Nat.le_of_ble_eq_true rfl) (Nat.le_of_ble_eq_true rfl) ?_
  refine lv_dup hx hb dL_law_3 rfl ?_
  refine goV (wr := []) (runI (n := 0) (As := []) (rest := [.ref q_1]) F hK hZ hP hD hS hA (c_iX l D Y q_1 (fun k => defaultValue (tyX9 k)) rfl ) [0] rfl rfl m_638 m_637 m_6 m_636 rfl (by decide +kernel) rfl ⟨Nat.le_of_ble_eq_true rfl, Nat.le_of_ble_eq_true rfl⟩ hl.1 rfl (Nat.le_of_ble_eq_true rfl) dL_law_4 ⟨Nat.le_of_ble_eq_true rfl, Nat.le_of_ble_eq_true rfl⟩) hP hD hS hA [0] [] rfl rfl rfl (by decide) (fun u H locs hw hP hD hS => ?_)
  obtain ⟨tpn_2, rfn_3, prn_4, spn_5, mon_6, tan_7, nun_8, trn_9, pon_10, grn_11, son_12, fon_13, gn_14, gpn_15, gsn_16, gmn_17, gtn_18, gfn_19, fnn_20⟩ := u
  obtain ⟨o_21, o_22, o_23, o_24, o_25, o_26, o_27, o_28, o_29, o_30, o_31, o_32, o_33, o_34, o_35, o_36, o_37, o_38, o_39, o_40, o_41, o_42, o_43⟩ := hw
  have hP : va_P D vwCl [(q_1, .inr (8, fl 9 gn_14)), (tpn_2, .inl (Y 0, 400, .inl (fun _ => 0))), (rfn_3, .inl (Y 0, 3, .inl (fun _ => 0))), (prn_4, .inr (3, fl 9 gpn_15)), (spn_5, .inr (3, fl 9 gsn_16)), (mon_6, .inr (2, fl 7 gmn_17)), (trn_9, .inl (Y 1, 10, .inr (.inl (fun _ => 0)))), (pon_10, .inl (Y 1, 10, .inr (.inl (fun _ => 0)))), (grn_11, .inl (Y 1, 10, .inr (.inl (fun _ => 0)))), (fon_13, .inr (1, fl 7 gfn_19)), (son_12, .inl (Y 0, 640, .inl (fun _ => 0))), (tan_7, .inr (6, fl 14 gtn_18)), (nun_8, .inl (Y 0, 1000, .inl fnn_20))] H := hP
  have hD : va_D A [(q_1, .inr (8, fl 9 gn_14)), (tpn_2, .inl (Y 0, 400, .inl (fun _ => 0))), (rfn_3, .inl (Y 0, 3, .inl (fun _ => 0))), (prn_4, .inr (3, fl 9 gpn_15)), (spn_5, .inr (3, fl 9 gsn_16)), (mon_6, .inr (2, fl 7 gmn_17)), (trn_9, .inl (Y 1, 10, .inr (.inl (fun _ => 0)))), (pon_10, .inl (Y 1, 10, .inr (.inl (fun _ => 0)))), (grn_11, .inl (Y 1, 10, .inr (.inl (fun _ => 0)))), (fon_13, .inr (1, fl 7 gfn_19)), (son_12, .inl (Y 0, 640, .inl (fun _ => 0))), (tan_7, .inr (6, fl 14 gtn_18)), (nun_8, .inl (Y 0, 1000, .inl fnn_20))] := hD
  refine W.widen (k := 40) (n := 11397) (Nat.le_of_ble_eq_true rfl) (Nat.le_of_ble_eq_true rfl) ?_
  refine lv_astore_n (lv' := [(1, .ref q_1), (0, .ref b)]) hx hb dL_law_7 rfl hl (by decide) rfl (fun ls hl => ?_)
  refine nO (C := RX10) (T := TX10) (N := 77) (ci := 9) F hK hP hD hS hA rfl iwX10 tyX10 tyX10_ok m_639 m_640 m_196 (Nat.le_of_ble_eq_true rfl) (Nat.le_of_ble_eq_true rfl) dL_law_8 (fun q_45 H hP hD hS => ?_)
  have hP : va_P D vwCl [(q_1, .inr (8, fl 9 gn_14)), (tpn_2, .inl (Y 0, 400, .inl (fun _ => 0))), (rfn_3, .inl (Y 0, 3, .inl (fun _ => 0))), (prn_4, .inr (3, fl 9 gpn_15)), (spn_5, .inr (3, fl 9 gsn_16)), (mon_6, .inr (2, fl 7 gmn_17)), (trn_9, .inl (Y 1, 10, .inr (.inl (fun _ => 0)))), (pon_10, .inl (Y 1, 10, .inr (.inl (fun _ => 0)))), (grn_11, .inl (Y 1, 10, .inr (.inl (fun _ => 0)))), (fon_13, .inr (1, fl 7 gfn_19)), (son_12, .inl (Y 0, 640, .inl (fun _ => 0))), (tan_7, .inr (6, fl 14 gtn_18)), (nun_8, .inl (Y 0, 1000, .inl fnn_20)), (q_45, .inr (9, fl 77 (fun k => defaultValue (tyX10 k))))] H := hP
  have hD : va_D A [(q_1, .inr (8, fl 9 gn_14)), (tpn_2, .inl (Y 0, 400, .inl (fun _ => 0))), (rfn_3, .inl (Y 0, 3, .inl (fun _ => 0))), (prn_4, .inr (3, fl 9 gpn_15)), (spn_5, .inr (3, fl 9 gsn_16)), (mon_6, .inr (2, fl 7 gmn_17)), (trn_9, .inl (Y 1, 10, .inr (.inl (fun _ => 0)))), (pon_10, .inl (Y 1, 10, .inr (.inl (fun _ => 0)))), (grn_11, .inl (Y 1, 10, .inr (.inl (fun _ => 0)))), (fon_13, .inr (1, fl 7 gfn_19)), (son_12, .inl (Y 0, 640, .inl (fun _ => 0))), (tan_7, .inr (6, fl 14 gtn_18)), (nun_8, .inl (Y 0, 1000, .inl fnn_20)), (q_45, .inr (9, fl 77 (fun k => defaultValue (tyX10 k))))] := hD
  refine W.widen (k := 41) (n := 11474) (Nat.le_of_ble_eq_true rfl) (Nat.le_of_ble_eq_true rfl) ?_
  refine lv_dup hx hb dL_law_11 rfl ?_
  refine goV (wr := [(q_1, .inr (8, fl 9 gn_14)), (tpn_2, .inl (Y 0, 400, .inl (fun _ => 0))), (rfn_3, .inl (Y 0, 3, .inl (fun _ => 0))), (prn_4, .inr (3, fl 9 gpn_15)), (spn_5, .inr (3, fl 9 gsn_16)), (mon_6, .inr (2, fl 7 gmn_17)), (trn_9, .inl (Y 1, 10, .inr (.inl (fun _ => 0)))), (pon_10, .inl (Y 1, 10, .inr (.inl (fun _ => 0)))), (grn_11, .inl (Y 1, 10, .inr (.inl (fun _ => 0)))), (fon_13, .inr (1, fl 7 gfn_19)), (son_12, .inl (Y 0, 640, .inl (fun _ => 0))), (tan_7, .inr (6, fl 14 gtn_18)), (nun_8, .inl (Y 0, 1000, .inl fnn_20))]) (runI (n := 0) (As := []) (rest := [.ref q_45]) F hK hZ hP hD hS hA (c_iR l D Y q_45 (fun k => defaultValue (tyX10 k)) rfl rfl rfl rfl rfl rfl rfl rfl rfl rfl rfl ) [13] rfl rfl m_643 m_642 m_196 m_641 rfl (by decide +kernel) rfl ⟨Nat.le_of_ble_eq_true rfl, Nat.le_of_ble_eq_true rfl⟩ hl.1 rfl (Nat.le_of_ble_eq_true rfl) dL_law_12 ⟨Nat.le_of_ble_eq_true rfl, Nat.le_of_ble_eq_true rfl⟩) hP hD hS hA [13] [0, 1, 2, 3, 4, 5, 6, 7, 8, 9, 10, 11, 12] rfl rfl rfl (by decide) (fun u H locs hw hP hD hS => ?_)
  obtain ⟨rfn_46, knn_47, psn_48, nxn_49, t1n_50, fan_51, tbn_52, run_53, rrn_54, arn_55, ran_56, pnn_57, rpn_58, cnn_59, rcn_60, ton_61, gn_62⟩ := u
  obtain ⟨o_63, o_64, o_65, o_66, o_67, o_68, o_69, o_70, o_71, o_72, o_73, o_74, o_75, o_76, o_77, o_78, o_79, o_80, o_81, o_82, o_83, o_84, o_85, o_86, o_87, o_88, o_89, o_90⟩ := hw
  have hP : va_P D vwCl [(q_1, .inr (8, fl 9 gn_14)), (tpn_2, .inl (Y 0, 400, .inl (fun _ => 0))), (rfn_3, .inl (Y 0, 3, .inl (fun _ => 0))), (prn_4, .inr (3, fl 9 gpn_15)), (spn_5, .inr (3, fl 9 gsn_16)), (mon_6, .inr (2, fl 7 gmn_17)), (trn_9, .inl (Y 1, 10, .inr (.inl (fun _ => 0)))), (pon_10, .inl (Y 1, 10, .inr (.inl (fun _ => 0)))), (grn_11, .inl (Y 1, 10, .inr (.inl (fun _ => 0)))), (fon_13, .inr (1, fl 7 gfn_19)), (son_12, .inl (Y 0, 640, .inl (fun _ => 0))), (tan_7, .inr (6, fl 14 gtn_18)), (nun_8, .inl (Y 0, 1000, .inl fnn_20)), (q_45, .inr (9, fl 77 gn_62)), (rfn_46, .inl (Y 0, 3, .inl (fun _ => 0))), (knn_47, .inl (Y 2, 640, .inl (fun _ => 0))), (psn_48, .inl (Y 2, 640, .inl (fun _ => 0))), (nxn_49, .inl (Y 2, 640, .inl (fun _ => 0))), (t1n_50, .inl (Y 0, 640, .inl (fun _ => 0))), (fan_51, .inl (Y 0, 640, .inl (fun _ => 0))), (tbn_52, .inl (Y 3, 400, .inl (fun _ => 0))), (run_53, .inl (Y 0, 1800, .inl (fun _ => 0))), (rrn_54, .inl (Y 0, 1800, .inl (fun _ => 0))), (arn_55, .inl (Y 0, 10, .inl (fun _ => 0))), (ran_56, .inl (Y 0, 10, .inl (fun _ => 0))), (pnn_57, .inl (Y 1, 10, .inr (.inl (fun _ => 0)))), (rpn_58, .inl (Y 1, 10, .inr (.inl (fun _ => 0)))), (cnn_59, .inl (Y 1, 8, .inr (.inl (fun _ => 0)))), (rcn_60, .inl (Y 1, 8, .inr (.inl (fun _ => 0)))), (ton_61, .inl (Y 0, 1000, .inl (fun _ => 0)))] H := hP
  have hD : va_D A [(q_1, .inr (8, fl 9 gn_14)), (tpn_2, .inl (Y 0, 400, .inl (fun _ => 0))), (rfn_3, .inl (Y 0, 3, .inl (fun _ => 0))), (prn_4, .inr (3, fl 9 gpn_15)), (spn_5, .inr (3, fl 9 gsn_16)), (mon_6, .inr (2, fl 7 gmn_17)), (trn_9, .inl (Y 1, 10, .inr (.inl (fun _ => 0)))), (pon_10, .inl (Y 1, 10, .inr (.inl (fun _ => 0)))), (grn_11, .inl (Y 1, 10, .inr (.inl (fun _ => 0)))), (fon_13, .inr (1, fl 7 gfn_19)), (son_12, .inl (Y 0, 640, .inl (fun _ => 0))), (tan_7, .inr (6, fl 14 gtn_18)), (nun_8, .inl (Y 0, 1000, .inl fnn_20)), (q_45, .inr (9, fl 77 gn_62)), (rfn_46, .inl (Y 0, 3, .inl (fun _ => 0))), (knn_47, .inl (Y 2, 640, .inl (fun _ => 0))), (psn_48, .inl (Y 2, 640, .inl (fun _ => 0))), (nxn_49, .inl (Y 2, 640, .inl (fun _ => 0))), (t1n_50, .inl (Y 0, 640, .inl (fun _ => 0))), (fan_51, .inl (Y 0, 640, .inl (fun _ => 0))), (tbn_52, .inl (Y 3, 400, .inl (fun _ => 0))), (run_53, .inl (Y 0, 1800, .inl (fun _ => 0))), (rrn_54, .inl (Y 0, 1800, .inl (fun _ => 0))), (arn_55, .inl (Y 0, 10, .inl (fun _ => 0))), (ran_56, .inl (Y 0, 10, .inl (fun _ => 0))), (pnn_57, .inl (Y 1, 10, .inr (.inl (fun _ => 0)))), (rpn_58, .inl (Y 1, 10, .inr (.inl (fun _ => 0)))), (cnn_59, .inl (Y 1, 8, .inr (.inl (fun _ => 0)))), (rcn_60, .inl (Y 1, 8, .inr (.inl (fun _ => 0)))), (ton_61, .inl (Y 0, 1000, .inl (fun _ => 0)))] := hD
  refine W.widen (k := 89) (n := 2106326) (Nat.le_of_ble_eq_true rfl) (Nat.le_of_ble_eq_true rfl) ?_
  refine lv_astore_n (lv' := [(2, .ref q_45), (1, .ref q_1), (0, .ref b)]) hx hb dL_law_15 rfl hl (by decide) rfl (fun ls hl => ?_)
  refine lv_iconst (v := 1) hx hb dL_law_16 (by decide) ?_
  refine nA (atype := .long) (ty := .long) (a0 := (1, .inr (.inl (fun _ => 0)))) (N' := 1) (cA0 := Y 1) F hK hP hD hS hA 1 rfl (fun _ h => h) m_302 rfl (fun _ => rfl) (by decide) (by decide) (Nat.le_of_ble_eq_true rfl) (Nat.le_of_ble_eq_true rfl) (Nat.le_of_ble_eq_true rfl) dL_law_17 (fun q_92 H hP hD hS => ?_)
  have hP : va_P D vwCl [(q_1, .inr (8, fl 9 gn_14)), (tpn_2, .inl (Y 0, 400, .inl (fun _ => 0))), (rfn_3, .inl (Y 0, 3, .inl (fun _ => 0))), (prn_4, .inr (3, fl 9 gpn_15)), (spn_5, .inr (3, fl 9 gsn_16)), (mon_6, .inr (2, fl 7 gmn_17)), (trn_9, .inl (Y 1, 10, .inr (.inl (fun _ => 0)))), (pon_10, .inl (Y 1, 10, .inr (.inl (fun _ => 0)))), (grn_11, .inl (Y 1, 10, .inr (.inl (fun _ => 0)))), (fon_13, .inr (1, fl 7 gfn_19)), (son_12, .inl (Y 0, 640, .inl (fun _ => 0))), (tan_7, .inr (6, fl 14 gtn_18)), (nun_8, .inl (Y 0, 1000, .inl fnn_20)), (q_45, .inr (9, fl 77 gn_62)), (rfn_46, .inl (Y 0, 3, .inl (fun _ => 0))), (knn_47, .inl (Y 2, 640, .inl (fun _ => 0))), (psn_48, .inl (Y 2, 640, .inl (fun _ => 0))), (nxn_49, .inl (Y 2, 640, .inl (fun _ => 0))), (t1n_50, .inl (Y 0, 640, .inl (fun _ => 0))), (fan_51, .inl (Y 0, 640, .inl (fun _ => 0))), (tbn_52, .inl (Y 3, 400, .inl (fun _ => 0))), (run_53, .inl (Y 0, 1800, .inl (fun _ => 0))), (rrn_54, .inl (Y 0, 1800, .inl (fun _ => 0))), (arn_55, .inl (Y 0, 10, .inl (fun _ => 0))), (ran_56, .inl (Y 0, 10, .inl (fun _ => 0))), (pnn_57, .inl (Y 1, 10, .inr (.inl (fun _ => 0)))), (rpn_58, .inl (Y 1, 10, .inr (.inl (fun _ => 0)))), (cnn_59, .inl (Y 1, 8, .inr (.inl (fun _ => 0)))), (rcn_60, .inl (Y 1, 8, .inr (.inl (fun _ => 0)))), (ton_61, .inl (Y 0, 1000, .inl (fun _ => 0))), (q_92, .inl (Y 1, 1, .inr (.inl (fun _ => 0))))] H := hP
  have hD : va_D A [(q_1, .inr (8, fl 9 gn_14)), (tpn_2, .inl (Y 0, 400, .inl (fun _ => 0))), (rfn_3, .inl (Y 0, 3, .inl (fun _ => 0))), (prn_4, .inr (3, fl 9 gpn_15)), (spn_5, .inr (3, fl 9 gsn_16)), (mon_6, .inr (2, fl 7 gmn_17)), (trn_9, .inl (Y 1, 10, .inr (.inl (fun _ => 0)))), (pon_10, .inl (Y 1, 10, .inr (.inl (fun _ => 0)))), (grn_11, .inl (Y 1, 10, .inr (.inl (fun _ => 0)))), (fon_13, .inr (1, fl 7 gfn_19)), (son_12, .inl (Y 0, 640, .inl (fun _ => 0))), (tan_7, .inr (6, fl 14 gtn_18)), (nun_8, .inl (Y 0, 1000, .inl fnn_20)), (q_45, .inr (9, fl 77 gn_62)), (rfn_46, .inl (Y 0, 3, .inl (fun _ => 0))), (knn_47, .inl (Y 2, 640, .inl (fun _ => 0))), (psn_48, .inl (Y 2, 640, .inl (fun _ => 0))), (nxn_49, .inl (Y 2, 640, .inl (fun _ => 0))), (t1n_50, .inl (Y 0, 640, .inl (fun _ => 0))), (fan_51, .inl (Y 0, 640, .inl (fun _ => 0))), (tbn_52, .inl (Y 3, 400, .inl (fun _ => 0))), (run_53, .inl (Y 0, 1800, .inl (fun _ => 0))), (rrn_54, .inl (Y 0, 1800, .inl (fun _ => 0))), (arn_55, .inl (Y 0, 10, .inl (fun _ => 0))), (ran_56, .inl (Y 0, 10, .inl (fun _ => 0))), (pnn_57, .inl (Y 1, 10, .inr (.inl (fun _ => 0)))), (rpn_58, .inl (Y 1, 10, .inr (.inl (fun _ => 0)))), (cnn_59, .inl (Y 1, 8, .inr (.inl (fun _ => 0)))), (rcn_60, .inl (Y 1, 8, .inr (.inl (fun _ => 0)))), (ton_61, .inl (Y 0, 1000, .inl (fun _ => 0))), (q_92, .inl (Y 1, 1, .inr (.inl (fun _ => 0))))] := hD
  refine W.widen (k := 90) (n := 2106327) (Nat.le_of_ble_eq_true rfl) (Nat.le_of_ble_eq_true rfl) ?_
  refine lv_astore_n (lv' := [(3, .ref q_92), (2, .ref q_45), (1, .ref q_1), (0, .ref b)]) hx hb dL_law_19 rfl hl (by decide) rfl (fun ls hl => ?_)
  refine lv_iconst (v := 0) hx hb dL_law_20 (by decide) ?_
  refine lv_istore (lv' := [(4, .int 0), (3, .ref q_92), (2, .ref q_45), (1, .ref q_1), (0, .ref b)]) hx hb dL_law_21 hl (by decide) rfl (fun ls hl => ?_)
  have hl : lv_has ls 7 [(4, .int 0), (3, .ref q_92), (2, .ref q_45), (1, .ref q_1), (0, .ref b)] := lv_sub hl [0, 1, 2, 3, 4] rfl
  rcases (show L = 0 ∨ L = 1 ∨ L = 2 ∨ L = 3 ∨ L = 4 ∨ L = 5 ∨ L = 6 by omega) with rfl | rfl | rfl | rfl | rfl | rfl | rfl
  · skip
    refine lv_iload hx hb dL_law_23 (lv_at hl 0 rfl) ?_
    refine lv_aload_n hx hb dL_law_25 rfl (lv_at hl 4 rfl) ?_
    refine va_slen hx hb hX hbl hbA hS dL_law_26 ?_
    refine lv_toc (v := 0) rfl ?_
    refine lv_bipush (v := 6) hx hb dL_law_27 (by decide) ?_
    refine lv_isub hx hb dL_law_29 ?_
    refine lv_toc (v := (-6)) (by decide) ?_
    refine lv_icmp_gt (tgt := 1605) hx hb dL_law_30 (by decide) (fun _ => ?_) (fun c9 => absurd (by decide) c9)
    refine lv_iconst (v := 1) hx hb dL_law_1605 (by decide) ?_
    refine va_forget (fun q hq => hAA _ (hS.2.2 q hq)) ?_
    refine W.widen (k := 600002) (n := 7302232) (Nat.le_of_ble_eq_true rfl) (Nat.le_of_ble_eq_true rfl) ?_
    exact lw_ret hx hb hr hlocks dL_law_1606
  · skip
    refine lv_iload hx hb dL_law_23 (lv_at hl 0 rfl) ?_
    refine lv_aload_n hx hb dL_law_25 rfl (lv_at hl 4 rfl) ?_
    refine va_slen hx hb hX hbl hbA hS dL_law_26 ?_
    refine lv_toc (v := 1) rfl ?_
    refine lv_bipush (v := 6) hx hb dL_law_27 (by decide) ?_
    refine lv_isub hx hb dL_law_29 ?_
    refine lv_toc (v := (-5)) (by decide) ?_
    refine lv_icmp_gt (tgt := 1605) hx hb dL_law_30 (by decide) (fun _ => ?_) (fun c9 => absurd (by decide) c9)
    refine lv_iconst (v := 1) hx hb dL_law_1605 (by decide) ?_
    refine va_forget (fun q hq => hAA _ (hS.2.2 q hq)) ?_
    refine W.widen (k := 600002) (n := 7302232) (Nat.le_of_ble_eq_true rfl) (Nat.le_of_ble_eq_true rfl) ?_
    exact lw_ret hx hb hr hlocks dL_law_1606
  · skip
    refine lv_iload hx hb dL_law_23 (lv_at hl 0 rfl) ?_
    refine lv_aload_n hx hb dL_law_25 rfl (lv_at hl 4 rfl) ?_
    refine va_slen hx hb hX hbl hbA hS dL_law_26 ?_
    refine lv_toc (v := 2) rfl ?_
    refine lv_bipush (v := 6) hx hb dL_law_27 (by decide) ?_
    refine lv_isub hx hb dL_law_29 ?_
    refine lv_toc (v := (-4)) (by decide) ?_
    refine lv_icmp_gt (tgt := 1605) hx hb dL_law_30 (by decide) (fun _ => ?_) (fun c9 => absurd (by decide) c9)
    refine lv_iconst (v := 1) hx hb dL_law_1605 (by decide) ?_
    refine va_forget (fun q hq => hAA _ (hS.2.2 q hq)) ?_
    refine W.widen (k := 600002) (n := 7302232) (Nat.le_of_ble_eq_true rfl) (Nat.le_of_ble_eq_true rfl) ?_
    exact lw_ret hx hb hr hlocks dL_law_1606
  · skip
    refine lv_iload hx hb dL_law_23 (lv_at hl 0 rfl) ?_
    refine lv_aload_n hx hb dL_law_25 rfl (lv_at hl 4 rfl) ?_
    refine va_slen hx hb hX hbl hbA hS dL_law_26 ?_
    refine lv_toc (v := 3) rfl ?_
    refine lv_bipush (v := 6) hx hb dL_law_27 (by decide) ?_
    refine lv_isub hx hb dL_law_29 ?_
    refine lv_toc (v := (-3)) (by decide) ?_
    refine lv_icmp_gt (tgt := 1605) hx hb dL_law_30 (by decide) (fun _ => ?_) (fun c9 => absurd (by decide) c9)
    refine lv_iconst (v := 1) hx hb dL_law_1605 (by decide) ?_
    refine va_forget (fun q hq => hAA _ (hS.2.2 q hq)) ?_
    refine W.widen (k := 600002) (n := 7302232) (Nat.le_of_ble_eq_true rfl) (Nat.le_of_ble_eq_true rfl) ?_
    exact lw_ret hx hb hr hlocks dL_law_1606
  · skip
    refine lv_iload hx hb dL_law_23 (lv_at hl 0 rfl) ?_
    refine lv_aload_n hx hb dL_law_25 rfl (lv_at hl 4 rfl) ?_
    refine va_slen hx hb hX hbl hbA hS dL_law_26 ?_
    refine lv_toc (v := 4) rfl ?_
    refine lv_bipush (v := 6) hx hb dL_law_27 (by decide) ?_
    refine lv_isub hx hb dL_law_29 ?_
    refine lv_toc (v := (-2)) (by decide) ?_
    refine lv_icmp_gt (tgt := 1605) hx hb dL_law_30 (by decide) (fun _ => ?_) (fun c9 => absurd (by decide) c9)
    refine lv_iconst (v := 1) hx hb dL_law_1605 (by decide) ?_
    refine va_forget (fun q hq => hAA _ (hS.2.2 q hq)) ?_
    refine W.widen (k := 600002) (n := 7302232) (Nat.le_of_ble_eq_true rfl) (Nat.le_of_ble_eq_true rfl) ?_
    exact lw_ret hx hb hr hlocks dL_law_1606
  · skip
    refine lv_iload hx hb dL_law_23 (lv_at hl 0 rfl) ?_
    refine lv_aload_n hx hb dL_law_25 rfl (lv_at hl 4 rfl) ?_
    refine va_slen hx hb hX hbl hbA hS dL_law_26 ?_
    refine lv_toc (v := 5) rfl ?_
    refine lv_bipush (v := 6) hx hb dL_law_27 (by decide) ?_
    refine lv_isub hx hb dL_law_29 ?_
    refine lv_toc (v := (-1)) (by decide) ?_
    refine lv_icmp_gt (tgt := 1605) hx hb dL_law_30 (by decide) (fun _ => ?_) (fun c9 => absurd (by decide) c9)
    refine lv_iconst (v := 1) hx hb dL_law_1605 (by decide) ?_
    refine va_forget (fun q hq => hAA _ (hS.2.2 q hq)) ?_
    refine W.widen (k := 600002) (n := 7302232) (Nat.le_of_ble_eq_true rfl) (Nat.le_of_ble_eq_true rfl) ?_
    exact lw_ret hx hb hr hlocks dL_law_1606
  · skip
    refine lv_iload hx hb dL_law_23 (lv_at hl 0 rfl) ?_
    refine lv_aload_n hx hb dL_law_25 rfl (lv_at hl 4 rfl) ?_
    refine va_slen hx hb hX hbl hbA hS dL_law_26 ?_
    refine lv_toc (v := 6) rfl ?_
    refine lv_bipush (v := 6) hx hb dL_law_27 (by decide) ?_
    refine lv_isub hx hb dL_law_29 ?_
    refine lv_toc (v := 0) (by decide) ?_
    refine lv_icmp_gt (tgt := 1605) hx hb dL_law_30 (by decide) (fun c9 => absurd c9 (by decide)) (fun _ => ?_)
    refine lv_aload_n hx hb dL_law_33 rfl (lv_at hl 4 rfl) ?_
    refine lv_iload hx hb dL_law_34 (lv_at hl 0 rfl) ?_
    refine va_sld hx hb hX hbl hbA hS (by unfold vp_in; decide) dL_law_36 ?_
    refine lv_toc (v := (xs 0)) rfl ?_
    refine lv_bipush (v := 31) hx hb dL_law_37 (by decide) ?_
    refine lv_iand hx hb dL_law_39 ?_
    obtain ⟨j, hj, ej⟩ := pk_andE (xs 0) (m := 31) 5 (by decide)
    refine lv_toc (v := nI j) ej ?_
    rcases in32 hj with rfl | rfl | rfl | rfl | rfl | rfl | rfl | rfl | rfl | rfl | rfl | rfl | rfl | rfl | rfl | rfl | rfl | rfl | rfl | rfl | rfl | rfl | rfl | rfl | rfl | rfl | rfl | rfl | rfl | rfl | rfl | rfl
    · skip
      refine lv_tableIn (off := 108) (tgt := 148) hx hb dL_law_40 (by decide) (by decide) (by decide) (by decide) ?_
      exact law_c0 (fn := fnn_20) hfl F hr hlocks hX hbl hbA hAA hK hZ hA o_21 o_22 o_23 o_24 o_25 o_26 o_27 o_28 o_29 o_30 o_31 o_32 o_33 o_34 o_35 o_36 o_37 o_38 o_39 o_40 o_41 o_42 o_43 o_63 o_64 o_65 o_66 o_67 o_68 o_69 o_70 o_71 o_72 o_73 o_74 o_75 o_76 o_77 o_78 o_79 o_80 o_81 o_82 o_83 o_84 o_85 o_86 o_87 o_88 o_89 o_90 (dropW hP hD [0, 1, 2, 3, 4, 5, 6, 7, 8, 9, 10, 11, 12, 13, 14, 15, 16, 17, 18, 19, 20, 21, 22, 23, 24, 25, 26, 27, 28, 29, 30] rfl rfl).1 (dropW hP hD [0, 1, 2, 3, 4, 5, 6, 7, 8, 9, 10, 11, 12, 13, 14, 15, 16, 17, 18, 19, 20, 21, 22, 23, 24, 25, 26, 27, 28, 29, 30] rfl rfl).2 hS hl
    · skip
      refine lv_tableIn (off := 181) (tgt := 221) hx hb dL_law_40 (by decide) (by decide) (by decide) (by decide) ?_
      exact law_c1 (fn := fnn_20) hfl F hr hlocks hX hbl hbA hAA hK hZ hA o_21 o_22 o_23 o_24 o_25 o_26 o_27 o_28 o_29 o_30 o_31 o_32 o_33 o_34 o_35 o_36 o_37 o_38 o_39 o_40 o_41 o_42 o_43 o_63 o_64 o_65 o_66 o_67 o_68 o_69 o_70 o_71 o_72 o_73 o_74 o_75 o_76 o_77 o_78 o_79 o_80 o_81 o_82 o_83 o_84 o_85 o_86 o_87 o_88 o_89 o_90 (dropW hP hD [0, 1, 2, 3, 4, 5, 6, 7, 8, 9, 10, 11, 12, 13, 14, 15, 16, 17, 18, 19, 20, 21, 22, 23, 24, 25, 26, 27, 28, 29, 30] rfl rfl).1 (dropW hP hD [0, 1, 2, 3, 4, 5, 6, 7, 8, 9, 10, 11, 12, 13, 14, 15, 16, 17, 18, 19, 20, 21, 22, 23, 24, 25, 26, 27, 28, 29, 30] rfl rfl).2 hS hl
    · skip
      refine lv_tableIn (off := 237) (tgt := 277) hx hb dL_law_40 (by decide) (by decide) (by decide) (by decide) ?_
      exact law_c2 (fn := fnn_20) hfl F hr hlocks hX hbl hbA hAA hK hZ hA o_21 o_22 o_23 o_24 o_25 o_26 o_27 o_28 o_29 o_30 o_31 o_32 o_33 o_34 o_35 o_36 o_37 o_38 o_39 o_40 o_41 o_42 o_43 o_63 o_64 o_65 o_66 o_67 o_68 o_69 o_70 o_71 o_72 o_73 o_74 o_75 o_76 o_77 o_78 o_79 o_80 o_81 o_82 o_83 o_84 o_85 o_86 o_87 o_88 o_89 o_90 (dropW hP hD [0, 1, 2, 3, 4, 5, 6, 7, 8, 9, 10, 11, 12, 13, 14, 15, 16, 17, 18, 19, 20, 21, 22, 23, 24, 25, 26, 27, 28, 29, 30] rfl rfl).1 (dropW hP hD [0, 1, 2, 3, 4, 5, 6, 7, 8, 9, 10, 11, 12, 13, 14, 15, 16, 17, 18, 19, 20, 21, 22, 23, 24, 25, 26, 27, 28, 29, 30] rfl rfl).2 hS hl
    · skip
      refine lv_tableIn (off := 250) (tgt := 290) hx hb dL_law_40 (by decide) (by decide) (by decide) (by decide) ?_
      exact law_c3 (fn := fnn_20) hfl F hr hlocks hX hbl hbA hAA hK hZ hA o_21 o_22 o_23 o_24 o_25 o_26 o_27 o_28 o_29 o_30 o_31 o_32 o_33 o_34 o_35 o_36 o_37 o_38 o_39 o_40 o_41 o_42 o_43 o_63 o_64 o_65 o_66 o_67 o_68 o_69 o_70 o_71 o_72 o_73 o_74 o_75 o_76 o_77 o_78 o_79 o_80 o_81 o_82 o_83 o_84 o_85 o_86 o_87 o_88 o_89 o_90 (dropW hP hD [0, 1, 2, 3, 4, 5, 6, 7, 8, 9, 10, 11, 12, 13, 14, 15, 16, 17, 18, 19, 20, 21, 22, 23, 24, 25, 26, 27, 28, 29, 30] rfl rfl).1 (dropW hP hD [0, 1, 2, 3, 4, 5, 6, 7, 8, 9, 10, 11, 12, 13, 14, 15, 16, 17, 18, 19, 20, 21, 22, 23, 24, 25, 26, 27, 28, 29, 30] rfl rfl).2 hS hl
    · skip
      refine lv_tableIn (off := 330) (tgt := 370) hx hb dL_law_40 (by decide) (by decide) (by decide) (by decide) ?_
      exact law_c4 (fn := fnn_20) hfl F hr hlocks hX hbl hbA hAA hK hZ hA o_21 o_22 o_23 o_24 o_25 o_26 o_27 o_28 o_29 o_30 o_31 o_32 o_33 o_34 o_35 o_36 o_37 o_38 o_39 o_40 o_41 o_42 o_43 o_63 o_64 o_65 o_66 o_67 o_68 o_69 o_70 o_71 o_72 o_73 o_74 o_75 o_76 o_77 o_78 o_79 o_80 o_81 o_82 o_83 o_84 o_85 o_86 o_87 o_88 o_89 o_90 (dropW hP hD [0, 1, 2, 3, 4, 5, 6, 7, 8, 9, 10, 11, 12, 13, 14, 15, 16, 17, 18, 19, 20, 21, 22, 23, 24, 25, 26, 27, 28, 29, 30] rfl rfl).1 (dropW hP hD [0, 1, 2, 3, 4, 5, 6, 7, 8, 9, 10, 11, 12, 13, 14, 15, 16, 17, 18, 19, 20, 21, 22, 23, 24, 25, 26, 27, 28, 29, 30] rfl rfl).2 hS hl
    · skip
      refine lv_tableIn (off := 410) (tgt := 450) hx hb dL_law_40 (by decide) (by decide) (by decide) (by decide) ?_
      exact law_c5 (fn := fnn_20) hfl F hr hlocks hX hbl hbA hAA hK hZ hA o_21 o_22 o_23 o_24 o_25 o_26 o_27 o_28 o_29 o_30 o_31 o_32 o_33 o_34 o_35 o_36 o_37 o_38 o_39 o_40 o_41 o_42 o_43 o_63 o_64 o_65 o_66 o_67 o_68 o_69 o_70 o_71 o_72 o_73 o_74 o_75 o_76 o_77 o_78 o_79 o_80 o_81 o_82 o_83 o_84 o_85 o_86 o_87 o_88 o_89 o_90 (dropW hP hD [0, 1, 2, 3, 4, 5, 6, 7, 8, 9, 10, 11, 12, 13, 14, 15, 16, 17, 18, 19, 20, 21, 22, 23, 24, 25, 26, 27, 28, 29, 30] rfl rfl).1 (dropW hP hD [0, 1, 2, 3, 4, 5, 6, 7, 8, 9, 10, 11, 12, 13, 14, 15, 16, 17, 18, 19, 20, 21, 22, 23, 24, 25, 26, 27, 28, 29, 30] rfl rfl).2 hS hl
    · skip
      refine lv_tableIn (off := 490) (tgt := 530) hx hb dL_law_40 (by decide) (by decide) (by decide) (by decide) ?_
      exact law_c6 (fn := fnn_20) hfl F hr hlocks hX hbl hbA hAA hK hZ hA o_21 o_22 o_23 o_24 o_25 o_26 o_27 o_28 o_29 o_30 o_31 o_32 o_33 o_34 o_35 o_36 o_37 o_38 o_39 o_40 o_41 o_42 o_43 o_63 o_64 o_65 o_66 o_67 o_68 o_69 o_70 o_71 o_72 o_73 o_74 o_75 o_76 o_77 o_78 o_79 o_80 o_81 o_82 o_83 o_84 o_85 o_86 o_87 o_88 o_89 o_90 (dropW hP hD [0, 1, 2, 3, 4, 5, 6, 7, 8, 9, 10, 11, 12, 13, 14, 15, 16, 17, 18, 19, 20, 21, 22, 23, 24, 25, 26, 27, 28, 29, 30] rfl rfl).1 (dropW hP hD [0, 1, 2, 3, 4, 5, 6, 7, 8, 9, 10, 11, 12, 13, 14, 15, 16, 17, 18, 19, 20, 21, 22, 23, 24, 25, 26, 27, 28, 29, 30] rfl rfl).2 hS hl
    · skip
      refine lv_tableIn (off := 503) (tgt := 543) hx hb dL_law_40 (by decide) (by decide) (by decide) (by decide) ?_
      exact law_c7 (fn := fnn_20) hfl F hr hlocks hX hbl hbA hAA hK hZ hA o_21 o_22 o_23 o_24 o_25 o_26 o_27 o_28 o_29 o_30 o_31 o_32 o_33 o_34 o_35 o_36 o_37 o_38 o_39 o_40 o_41 o_42 o_43 o_63 o_64 o_65 o_66 o_67 o_68 o_69 o_70 o_71 o_72 o_73 o_74 o_75 o_76 o_77 o_78 o_79 o_80 o_81 o_82 o_83 o_84 o_85 o_86 o_87 o_88 o_89 o_90 (dropW hP hD [0, 1, 2, 3, 4, 5, 6, 7, 8, 9, 10, 11, 12, 13, 14, 15, 16, 17, 18, 19, 20, 21, 22, 23, 24, 25, 26, 27, 28, 29, 30] rfl rfl).1 (dropW hP hD [0, 1, 2, 3, 4, 5, 6, 7, 8, 9, 10, 11, 12, 13, 14, 15, 16, 17, 18, 19, 20, 21, 22, 23, 24, 25, 26, 27, 28, 29, 30] rfl rfl).2 hS hl
    · skip
      refine lv_tableIn (off := 559) (tgt := 599) hx hb dL_law_40 (by decide) (by decide) (by decide) (by decide) ?_
      exact law_c8 (fn := fnn_20) hfl F hr hlocks hX hbl hbA hAA hK hZ hA o_21 o_22 o_23 o_24 o_25 o_26 o_27 o_28 o_29 o_30 o_31 o_32 o_33 o_34 o_35 o_36 o_37 o_38 o_39 o_40 o_41 o_42 o_43 o_63 o_64 o_65 o_66 o_67 o_68 o_69 o_70 o_71 o_72 o_73 o_74 o_75 o_76 o_77 o_78 o_79 o_80 o_81 o_82 o_83 o_84 o_85 o_86 o_87 o_88 o_89 o_90 (dropW hP hD [0, 1, 2, 3, 4, 5, 6, 7, 8, 9, 10, 11, 12, 13, 14, 15, 16, 17, 18, 19, 20, 21, 22, 23, 24, 25, 26, 27, 28, 29, 30] rfl rfl).1 (dropW hP hD [0, 1, 2, 3, 4, 5, 6, 7, 8, 9, 10, 11, 12, 13, 14, 15, 16, 17, 18, 19, 20, 21, 22, 23, 24, 25, 26, 27, 28, 29, 30] rfl rfl).2 hS hl
    · skip
      refine lv_tableIn (off := 627) (tgt := 667) hx hb dL_law_40 (by decide) (by decide) (by decide) (by decide) ?_
      exact law_c9 (fn := fnn_20) hfl F hr hlocks hX hbl hbA hAA hK hZ hA o_21 o_22 o_23 o_24 o_25 o_26 o_27 o_28 o_29 o_30 o_31 o_32 o_33 o_34 o_35 o_36 o_37 o_38 o_39 o_40 o_41 o_42 o_43 o_63 o_64 o_65 o_66 o_67 o_68 o_69 o_70 o_71 o_72 o_73 o_74 o_75 o_76 o_77 o_78 o_79 o_80 o_81 o_82 o_83 o_84 o_85 o_86 o_87 o_88 o_89 o_90 (dropW hP hD [0, 1, 2, 3, 4, 5, 6, 7, 8, 9, 10, 11, 12, 13, 14, 15, 16, 17, 18, 19, 20, 21, 22, 23, 24, 25, 26, 27, 28, 29, 30] rfl rfl).1 (dropW hP hD [0, 1, 2, 3, 4, 5, 6, 7, 8, 9, 10, 11, 12, 13, 14, 15, 16, 17, 18, 19, 20, 21, 22, 23, 24, 25, 26, 27, 28, 29, 30] rfl rfl).2 hS hl
    · skip
      refine lv_tableIn (off := 707) (tgt := 747) hx hb dL_law_40 (by decide) (by decide) (by decide) (by decide) ?_
      exact law_c10 (fn := fnn_20) hfl F hr hlocks hX hbl hbA hAA hK hZ hA o_21 o_22 o_23 o_24 o_25 o_26 o_27 o_28 o_29 o_30 o_31 o_32 o_33 o_34 o_35 o_36 o_37 o_38 o_39 o_40 o_41 o_42 o_43 o_63 o_64 o_65 o_66 o_67 o_68 o_69 o_70 o_71 o_72 o_73 o_74 o_75 o_76 o_77 o_78 o_79 o_80 o_81 o_82 o_83 o_84 o_85 o_86 o_87 o_88 o_89 o_90 (dropW hP hD [0, 1, 2, 3, 4, 5, 6, 7, 8, 9, 10, 11, 12, 13, 14, 15, 16, 17, 18, 19, 20, 21, 22, 23, 24, 25, 26, 27, 28, 29, 30] rfl rfl).1 (dropW hP hD [0, 1, 2, 3, 4, 5, 6, 7, 8, 9, 10, 11, 12, 13, 14, 15, 16, 17, 18, 19, 20, 21, 22, 23, 24, 25, 26, 27, 28, 29, 30] rfl rfl).2 hS hl
    · skip
      refine lv_tableIn (off := 787) (tgt := 827) hx hb dL_law_40 (by decide) (by decide) (by decide) (by decide) ?_
      exact law_c11 (fn := fnn_20) hfl F hr hlocks hX hbl hbA hAA hK hZ hA o_21 o_22 o_23 o_24 o_25 o_26 o_27 o_28 o_29 o_30 o_31 o_32 o_33 o_34 o_35 o_36 o_37 o_38 o_39 o_40 o_41 o_42 o_43 o_63 o_64 o_65 o_66 o_67 o_68 o_69 o_70 o_71 o_72 o_73 o_74 o_75 o_76 o_77 o_78 o_79 o_80 o_81 o_82 o_83 o_84 o_85 o_86 o_87 o_88 o_89 o_90 (dropW hP hD [0, 1, 2, 3, 4, 5, 6, 7, 8, 9, 10, 11, 12, 13, 14, 15, 16, 17, 18, 19, 20, 21, 22, 23, 24, 25, 26, 27, 28, 29, 30] rfl rfl).1 (dropW hP hD [0, 1, 2, 3, 4, 5, 6, 7, 8, 9, 10, 11, 12, 13, 14, 15, 16, 17, 18, 19, 20, 21, 22, 23, 24, 25, 26, 27, 28, 29, 30] rfl rfl).2 hS hl
    · skip
      refine lv_tableIn (off := 843) (tgt := 883) hx hb dL_law_40 (by decide) (by decide) (by decide) (by decide) ?_
      exact law_c12 (fn := fnn_20) hfl F hr hlocks hX hbl hbA hAA hK hZ hA o_21 o_22 o_23 o_24 o_25 o_26 o_27 o_28 o_29 o_30 o_31 o_32 o_33 o_34 o_35 o_36 o_37 o_38 o_39 o_40 o_41 o_42 o_43 o_63 o_64 o_65 o_66 o_67 o_68 o_69 o_70 o_71 o_72 o_73 o_74 o_75 o_76 o_77 o_78 o_79 o_80 o_81 o_82 o_83 o_84 o_85 o_86 o_87 o_88 o_89 o_90 (dropW hP hD [0, 1, 2, 3, 4, 5, 6, 7, 8, 9, 10, 11, 12, 13, 14, 15, 16, 17, 18, 19, 20, 21, 22, 23, 24, 25, 26, 27, 28, 29, 30] rfl rfl).1 (dropW hP hD [0, 1, 2, 3, 4, 5, 6, 7, 8, 9, 10, 11, 12, 13, 14, 15, 16, 17, 18, 19, 20, 21, 22, 23, 24, 25, 26, 27, 28, 29, 30] rfl rfl).2 hS hl
    · skip
      refine lv_tableIn (off := 923) (tgt := 963) hx hb dL_law_40 (by decide) (by decide) (by decide) (by decide) ?_
      exact law_c13 (fn := fnn_20) hfl F hr hlocks hX hbl hbA hAA hK hZ hA o_21 o_22 o_23 o_24 o_25 o_26 o_27 o_28 o_29 o_30 o_31 o_32 o_33 o_34 o_35 o_36 o_37 o_38 o_39 o_40 o_41 o_42 o_43 o_63 o_64 o_65 o_66 o_67 o_68 o_69 o_70 o_71 o_72 o_73 o_74 o_75 o_76 o_77 o_78 o_79 o_80 o_81 o_82 o_83 o_84 o_85 o_86 o_87 o_88 o_89 o_90 (dropW hP hD [0, 1, 2, 3, 4, 5, 6, 7, 8, 9, 10, 11, 12, 13, 14, 15, 16, 17, 18, 19, 20, 21, 22, 23, 24, 25, 26, 27, 28, 29, 30] rfl rfl).1 (dropW hP hD [0, 1, 2, 3, 4, 5, 6, 7, 8, 9, 10, 11, 12, 13, 14, 15, 16, 17, 18, 19, 20, 21, 22, 23, 24, 25, 26, 27, 28, 29, 30] rfl rfl).2 hS hl
    · skip
      refine lv_tableIn (off := 1003) (tgt := 1043) hx hb dL_law_40 (by decide) (by decide) (by decide) (by decide) ?_
      exact law_c14 (fn := fnn_20) hfl F hr hlocks hX hbl hbA hAA hK hZ hA o_21 o_22 o_23 o_24 o_25 o_26 o_27 o_28 o_29 o_30 o_31 o_32 o_33 o_34 o_35 o_36 o_37 o_38 o_39 o_40 o_41 o_42 o_43 o_63 o_64 o_65 o_66 o_67 o_68 o_69 o_70 o_71 o_72 o_73 o_74 o_75 o_76 o_77 o_78 o_79 o_80 o_81 o_82 o_83 o_84 o_85 o_86 o_87 o_88 o_89 o_90 (dropW hP hD [0, 1, 2, 3, 4, 5, 6, 7, 8, 9, 10, 11, 12, 13, 14, 15, 16, 17, 18, 19, 20, 21, 22, 23, 24, 25, 26, 27, 28, 29, 30] rfl rfl).1 (dropW hP hD [0, 1, 2, 3, 4, 5, 6, 7, 8, 9, 10, 11, 12, 13, 14, 15, 16, 17, 18, 19, 20, 21, 22, 23, 24, 25, 26, 27, 28, 29, 30] rfl rfl).2 hS hl
    · skip
      refine lv_tableIn (off := 1083) (tgt := 1123) hx hb dL_law_40 (by decide) (by decide) (by decide) (by decide) ?_
      exact law_c15 (fn := fnn_20) hfl F hr hlocks hX hbl hbA hAA hK hZ hA o_21 o_22 o_23 o_24 o_25 o_26 o_27 o_28 o_29 o_30 o_31 o_32 o_33 o_34 o_35 o_36 o_37 o_38 o_39 o_40 o_41 o_42 o_43 o_63 o_64 o_65 o_66 o_67 o_68 o_69 o_70 o_71 o_72 o_73 o_74 o_75 o_76 o_77 o_78 o_79 o_80 o_81 o_82 o_83 o_84 o_85 o_86 o_87 o_88 o_89 o_90 (dropW hP hD [0, 1, 2, 3, 4, 5, 6, 7, 8, 9, 10, 11, 12, 13, 14, 15, 16, 17, 18, 19, 20, 21, 22, 23, 24, 25, 26, 27, 28, 29, 30] rfl rfl).1 (dropW hP hD [0, 1, 2, 3, 4, 5, 6, 7, 8, 9, 10, 11, 12, 13, 14, 15, 16, 17, 18, 19, 20, 21, 22, 23, 24, 25, 26, 27, 28, 29, 30] rfl rfl).2 hS hl
    · skip
      refine lv_tableIn (off := 1151) (tgt := 1191) hx hb dL_law_40 (by decide) (by decide) (by decide) (by decide) ?_
      exact law_c16 (fn := fnn_20) hfl F hr hlocks hX hbl hbA hAA hK hZ hA o_21 o_22 o_23 o_24 o_25 o_26 o_27 o_28 o_29 o_30 o_31 o_32 o_33 o_34 o_35 o_36 o_37 o_38 o_39 o_40 o_41 o_42 o_43 o_63 o_64 o_65 o_66 o_67 o_68 o_69 o_70 o_71 o_72 o_73 o_74 o_75 o_76 o_77 o_78 o_79 o_80 o_81 o_82 o_83 o_84 o_85 o_86 o_87 o_88 o_89 o_90 (dropW hP hD [0, 1, 2, 3, 4, 5, 6, 7, 8, 9, 10, 11, 12, 13, 14, 15, 16, 17, 18, 19, 20, 21, 22, 23, 24, 25, 26, 27, 28, 29, 30] rfl rfl).1 (dropW hP hD [0, 1, 2, 3, 4, 5, 6, 7, 8, 9, 10, 11, 12, 13, 14, 15, 16, 17, 18, 19, 20, 21, 22, 23, 24, 25, 26, 27, 28, 29, 30] rfl rfl).2 hS hl
    · skip
      refine lv_tableIn (off := 1231) (tgt := 1271) hx hb dL_law_40 (by decide) (by decide) (by decide) (by decide) ?_
      exact law_c17 (fn := fnn_20) hfl F hr hlocks hX hbl hbA hAA hK hZ hA o_21 o_22 o_23 o_24 o_25 o_26 o_27 o_28 o_29 o_30 o_31 o_32 o_33 o_34 o_35 o_36 o_37 o_38 o_39 o_40 o_41 o_42 o_43 o_63 o_64 o_65 o_66 o_67 o_68 o_69 o_70 o_71 o_72 o_73 o_74 o_75 o_76 o_77 o_78 o_79 o_80 o_81 o_82 o_83 o_84 o_85 o_86 o_87 o_88 o_89 o_90 (dropW hP hD [0, 1, 2, 3, 4, 5, 6, 7, 8, 9, 10, 11, 12, 13, 14, 15, 16, 17, 18, 19, 20, 21, 22, 23, 24, 25, 26, 27, 28, 29, 30] rfl rfl).1 (dropW hP hD [0, 1, 2, 3, 4, 5, 6, 7, 8, 9, 10, 11, 12, 13, 14, 15, 16, 17, 18, 19, 20, 21, 22, 23, 24, 25, 26, 27, 28, 29, 30] rfl rfl).2 hS hl
    · skip
      refine lv_tableIn (off := 1311) (tgt := 1351) hx hb dL_law_40 (by decide) (by decide) (by decide) (by decide) ?_
      exact law_c18 (fn := fnn_20) hfl F hr hlocks hX hbl hbA hAA hK hZ hA o_21 o_22 o_23 o_24 o_25 o_26 o_27 o_28 o_29 o_30 o_31 o_32 o_33 o_34 o_35 o_36 o_37 o_38 o_39 o_40 o_41 o_42 o_43 o_63 o_64 o_65 o_66 o_67 o_68 o_69 o_70 o_71 o_72 o_73 o_74 o_75 o_76 o_77 o_78 o_79 o_80 o_81 o_82 o_83 o_84 o_85 o_86 o_87 o_88 o_89 o_90 (dropW hP hD [0, 1, 2, 3, 4, 5, 6, 7, 8, 9, 10, 11, 12, 13, 14, 15, 16, 17, 18, 19, 20, 21, 22, 23, 24, 25, 26, 27, 28, 29, 30] rfl rfl).1 (dropW hP hD [0, 1, 2, 3, 4, 5, 6, 7, 8, 9, 10, 11, 12, 13, 14, 15, 16, 17, 18, 19, 20, 21, 22, 23, 24, 25, 26, 27, 28, 29, 30] rfl rfl).2 hS hl
    · skip
      refine lv_tableIn (off := 1336) (tgt := 1376) hx hb dL_law_40 (by decide) (by decide) (by decide) (by decide) ?_
      exact law_c19 (fn := fnn_20) hfl F hr hlocks hX hbl hbA hAA hK hZ hA o_21 o_22 o_23 o_24 o_25 o_26 o_27 o_28 o_29 o_30 o_31 o_32 o_33 o_34 o_35 o_36 o_37 o_38 o_39 o_40 o_41 o_42 o_43 o_63 o_64 o_65 o_66 o_67 o_68 o_69 o_70 o_71 o_72 o_73 o_74 o_75 o_76 o_77 o_78 o_79 o_80 o_81 o_82 o_83 o_84 o_85 o_86 o_87 o_88 o_89 o_90 (dropW hP hD [0, 1, 2, 3, 4, 5, 6, 7, 8, 9, 10, 11, 12, 13, 14, 15, 16, 17, 18, 19, 20, 21, 22, 23, 24, 25, 26, 27, 28, 29, 30] rfl rfl).1 (dropW hP hD [0, 1, 2, 3, 4, 5, 6, 7, 8, 9, 10, 11, 12, 13, 14, 15, 16, 17, 18, 19, 20, 21, 22, 23, 24, 25, 26, 27, 28, 29, 30] rfl rfl).2 hS hl
    · skip
      refine lv_tableIn (off := 1440) (tgt := 1480) hx hb dL_law_40 (by decide) (by decide) (by decide) (by decide) ?_
      exact law_c20 (fn := fnn_20) hfl F hr hlocks hX hbl hbA hAA hK hZ hA o_21 o_22 o_23 o_24 o_25 o_26 o_27 o_28 o_29 o_30 o_31 o_32 o_33 o_34 o_35 o_36 o_37 o_38 o_39 o_40 o_41 o_42 o_43 o_63 o_64 o_65 o_66 o_67 o_68 o_69 o_70 o_71 o_72 o_73 o_74 o_75 o_76 o_77 o_78 o_79 o_80 o_81 o_82 o_83 o_84 o_85 o_86 o_87 o_88 o_89 o_90 (dropW hP hD [0, 1, 2, 3, 4, 5, 6, 7, 8, 9, 10, 11, 12, 13, 14, 15, 16, 17, 18, 19, 20, 21, 22, 23, 24, 25, 26, 27, 28, 29, 30] rfl rfl).1 (dropW hP hD [0, 1, 2, 3, 4, 5, 6, 7, 8, 9, 10, 11, 12, 13, 14, 15, 16, 17, 18, 19, 20, 21, 22, 23, 24, 25, 26, 27, 28, 29, 30] rfl rfl).2 hS hl
    · skip
      refine lv_tableIn (off := 1520) (tgt := 1560) hx hb dL_law_40 (by decide) (by decide) (by decide) (by decide) ?_
      exact law_c21 (fn := fnn_20) hfl F hr hlocks hX hbl hbA hAA hK hZ hA o_21 o_22 o_23 o_24 o_25 o_26 o_27 o_28 o_29 o_30 o_31 o_32 o_33 o_34 o_35 o_36 o_37 o_38 o_39 o_40 o_41 o_42 o_43 o_63 o_64 o_65 o_66 o_67 o_68 o_69 o_70 o_71 o_72 o_73 o_74 o_75 o_76 o_77 o_78 o_79 o_80 o_81 o_82 o_83 o_84 o_85 o_86 o_87 o_88 o_89 o_90 (dropW hP hD [0, 1, 2, 3, 4, 5, 6, 7, 8, 9, 10, 11, 12, 13, 14, 15, 16, 17, 18, 19, 20, 21, 22, 23, 24, 25, 26, 27, 28, 29, 30] rfl rfl).1 (dropW hP hD [0, 1, 2, 3, 4, 5, 6, 7, 8, 9, 10, 11, 12, 13, 14, 15, 16, 17, 18, 19, 20, 21, 22, 23, 24, 25, 26, 27, 28, 29, 30] rfl rfl).2 hS hl
    · skip
      refine lv_tableIn (off := 1534) (tgt := 1574) hx hb dL_law_40 (by decide) (by decide) (by decide) (by decide) ?_
      exact law_c22 (fn := fnn_20) hfl F hr hlocks hX hbl hbA hAA hK hZ hA o_21 o_22 o_23 o_24 o_25 o_26 o_27 o_28 o_29 o_30 o_31 o_32 o_33 o_34 o_35 o_36 o_37 o_38 o_39 o_40 o_41 o_42 o_43 o_63 o_64 o_65 o_66 o_67 o_68 o_69 o_70 o_71 o_72 o_73 o_74 o_75 o_76 o_77 o_78 o_79 o_80 o_81 o_82 o_83 o_84 o_85 o_86 o_87 o_88 o_89 o_90 (dropW hP hD [0, 1, 2, 3, 4, 5, 6, 7, 8, 9, 10, 11, 12, 13, 14, 15, 16, 17, 18, 19, 20, 21, 22, 23, 24, 25, 26, 27, 28, 29, 30] rfl rfl).1 (dropW hP hD [0, 1, 2, 3, 4, 5, 6, 7, 8, 9, 10, 11, 12, 13, 14, 15, 16, 17, 18, 19, 20, 21, 22, 23, 24, 25, 26, 27, 28, 29, 30] rfl rfl).2 hS hl
    · skip
      refine lv_tableOut (tgt := 1599) hx hb dL_law_40 (by decide) (by decide) ?_
      exact law_c23 (fn := fnn_20) hfl F hr hlocks hX hbl hbA hAA hK hZ hA o_21 o_22 o_23 o_24 o_25 o_26 o_27 o_28 o_29 o_30 o_31 o_32 o_33 o_34 o_35 o_36 o_37 o_38 o_39 o_40 o_41 o_42 o_43 o_63 o_64 o_65 o_66 o_67 o_68 o_69 o_70 o_71 o_72 o_73 o_74 o_75 o_76 o_77 o_78 o_79 o_80 o_81 o_82 o_83 o_84 o_85 o_86 o_87 o_88 o_89 o_90 (dropW hP hD [0, 1, 2, 3, 4, 5, 6, 7, 8, 9, 10, 11, 12, 13, 14, 15, 16, 17, 18, 19, 20, 21, 22, 23, 24, 25, 26, 27, 28, 29, 30] rfl rfl).1 (dropW hP hD [0, 1, 2, 3, 4, 5, 6, 7, 8, 9, 10, 11, 12, 13, 14, 15, 16, 17, 18, 19, 20, 21, 22, 23, 24, 25, 26, 27, 28, 29, 30] rfl rfl).2 hS hl
    · skip
      refine lv_tableOut (tgt := 1599) hx hb dL_law_40 (by decide) (by decide) ?_
      exact law_c23 (fn := fnn_20) hfl F hr hlocks hX hbl hbA hAA hK hZ hA o_21 o_22 o_23 o_24 o_25 o_26 o_27 o_28 o_29 o_30 o_31 o_32 o_33 o_34 o_35 o_36 o_37 o_38 o_39 o_40 o_41 o_42 o_43 o_63 o_64 o_65 o_66 o_67 o_68 o_69 o_70 o_71 o_72 o_73 o_74 o_75 o_76 o_77 o_78 o_79 o_80 o_81 o_82 o_83 o_84 o_85 o_86 o_87 o_88 o_89 o_90 (dropW hP hD [0, 1, 2, 3, 4, 5, 6, 7, 8, 9, 10, 11, 12, 13, 14, 15, 16, 17, 18, 19, 20, 21, 22, 23, 24, 25, 26, 27, 28, 29, 30] rfl rfl).1 (dropW hP hD [0, 1, 2, 3, 4, 5, 6, 7, 8, 9, 10, 11, 12, 13, 14, 15, 16, 17, 18, 19, 20, 21, 22, 23, 24, 25, 26, 27, 28, 29, 30] rfl rfl).2 hS hl
    · skip
      refine lv_tableOut (tgt := 1599) hx hb dL_law_40 (by decide) (by decide) ?_
      exact law_c23 (fn := fnn_20) hfl F hr hlocks hX hbl hbA hAA hK hZ hA o_21 o_22 o_23 o_24 o_25 o_26 o_27 o_28 o_29 o_30 o_31 o_32 o_33 o_34 o_35 o_36 o_37 o_38 o_39 o_40 o_41 o_42 o_43 o_63 o_64 o_65 o_66 o_67 o_68 o_69 o_70 o_71 o_72 o_73 o_74 o_75 o_76 o_77 o_78 o_79 o_80 o_81 o_82 o_83 o_84 o_85 o_86 o_87 o_88 o_89 o_90 (dropW hP hD [0, 1, 2, 3, 4, 5, 6, 7, 8, 9, 10, 11, 12, 13, 14, 15, 16, 17, 18, 19, 20, 21, 22, 23, 24, 25, 26, 27, 28, 29, 30] rfl rfl).1 (dropW hP hD [0, 1, 2, 3, 4, 5, 6, 7, 8, 9, 10, 11, 12, 13, 14, 15, 16, 17, 18, 19, 20, 21, 22, 23, 24, 25, 26, 27, 28, 29, 30] rfl rfl).2 hS hl
    · skip
      refine lv_tableOut (tgt := 1599) hx hb dL_law_40 (by decide) (by decide) ?_
      exact law_c23 (fn := fnn_20) hfl F hr hlocks hX hbl hbA hAA hK hZ hA o_21 o_22 o_23 o_24 o_25 o_26 o_27 o_28 o_29 o_30 o_31 o_32 o_33 o_34 o_35 o_36 o_37 o_38 o_39 o_40 o_41 o_42 o_43 o_63 o_64 o_65 o_66 o_67 o_68 o_69 o_70 o_71 o_72 o_73 o_74 o_75 o_76 o_77 o_78 o_79 o_80 o_81 o_82 o_83 o_84 o_85 o_86 o_87 o_88 o_89 o_90 (dropW hP hD [0, 1, 2, 3, 4, 5, 6, 7, 8, 9, 10, 11, 12, 13, 14, 15, 16, 17, 18, 19, 20, 21, 22, 23, 24, 25, 26, 27, 28, 29, 30] rfl rfl).1 (dropW hP hD [0, 1, 2, 3, 4, 5, 6, 7, 8, 9, 10, 11, 12, 13, 14, 15, 16, 17, 18, 19, 20, 21, 22, 23, 24, 25, 26, 27, 28, 29, 30] rfl rfl).2 hS hl
    · skip
      refine lv_tableOut (tgt := 1599) hx hb dL_law_40 (by decide) (by decide) ?_
      exact law_c23 (fn := fnn_20) hfl F hr hlocks hX hbl hbA hAA hK hZ hA o_21 o_22 o_23 o_24 o_25 o_26 o_27 o_28 o_29 o_30 o_31 o_32 o_33 o_34 o_35 o_36 o_37 o_38 o_39 o_40 o_41 o_42 o_43 o_63 o_64 o_65 o_66 o_67 o_68 o_69 o_70 o_71 o_72 o_73 o_74 o_75 o_76 o_77 o_78 o_79 o_80 o_81 o_82 o_83 o_84 o_85 o_86 o_87 o_88 o_89 o_90 (dropW hP hD [0, 1, 2, 3, 4, 5, 6, 7, 8, 9, 10, 11, 12, 13, 14, 15, 16, 17, 18, 19, 20, 21, 22, 23, 24, 25, 26, 27, 28, 29, 30] rfl rfl).1 (dropW hP hD [0, 1, 2, 3, 4, 5, 6, 7, 8, 9, 10, 11, 12, 13, 14, 15, 16, 17, 18, 19, 20, 21, 22, 23, 24, 25, 26, 27, 28, 29, 30] rfl rfl).2 hS hl
    · skip
      refine lv_tableOut (tgt := 1599) hx hb dL_law_40 (by decide) (by decide) ?_
      exact law_c23 (fn := fnn_20) hfl F hr hlocks hX hbl hbA hAA hK hZ hA o_21 o_22 o_23 o_24 o_25 o_26 o_27 o_28 o_29 o_30 o_31 o_32 o_33 o_34 o_35 o_36 o_37 o_38 o_39 o_40 o_41 o_42 o_43 o_63 o_64 o_65 o_66 o_67 o_68 o_69 o_70 o_71 o_72 o_73 o_74 o_75 o_76 o_77 o_78 o_79 o_80 o_81 o_82 o_83 o_84 o_85 o_86 o_87 o_88 o_89 o_90 (dropW hP hD [0, 1, 2, 3, 4, 5, 6, 7, 8, 9, 10, 11, 12, 13, 14, 15, 16, 17, 18, 19, 20, 21, 22, 23, 24, 25, 26, 27, 28, 29, 30] rfl rfl).1 (dropW hP hD [0, 1, 2, 3, 4, 5, 6, 7, 8, 9, 10, 11, 12, 13, 14, 15, 16, 17, 18, 19, 20, 21, 22, 23, 24, 25, 26, 27, 28, 29, 30] rfl rfl).2 hS hl
    · skip
      refine lv_tableOut (tgt := 1599) hx hb dL_law_40 (by decide) (by decide) ?_
      exact law_c23 (fn := fnn_20) hfl F hr hlocks hX hbl hbA hAA hK hZ hA o_21 o_22 o_23 o_24 o_25 o_26 o_27 o_28 o_29 o_30 o_31 o_32 o_33 o_34 o_35 o_36 o_37 o_38 o_39 o_40 o_41 o_42 o_43 o_63 o_64 o_65 o_66 o_67 o_68 o_69 o_70 o_71 o_72 o_73 o_74 o_75 o_76 o_77 o_78 o_79 o_80 o_81 o_82 o_83 o_84 o_85 o_86 o_87 o_88 o_89 o_90 (dropW hP hD [0, 1, 2, 3, 4, 5, 6, 7, 8, 9, 10, 11, 12, 13, 14, 15, 16, 17, 18, 19, 20, 21, 22, 23, 24, 25, 26, 27, 28, 29, 30] rfl rfl).1 (dropW hP hD [0, 1, 2, 3, 4, 5, 6, 7, 8, 9, 10, 11, 12, 13, 14, 15, 16, 17, 18, 19, 20, 21, 22, 23, 24, 25, 26, 27, 28, 29, 30] rfl rfl).2 hS hl
    · skip
      refine lv_tableOut (tgt := 1599) hx hb dL_law_40 (by decide) (by decide) ?_
      exact law_c23 (fn := fnn_20) hfl F hr hlocks hX hbl hbA hAA hK hZ hA o_21 o_22 o_23 o_24 o_25 o_26 o_27 o_28 o_29 o_30 o_31 o_32 o_33 o_34 o_35 o_36 o_37 o_38 o_39 o_40 o_41 o_42 o_43 o_63 o_64 o_65 o_66 o_67 o_68 o_69 o_70 o_71 o_72 o_73 o_74 o_75 o_76 o_77 o_78 o_79 o_80 o_81 o_82 o_83 o_84 o_85 o_86 o_87 o_88 o_89 o_90 (dropW hP hD [0, 1, 2, 3, 4, 5, 6, 7, 8, 9, 10, 11, 12, 13, 14, 15, 16, 17, 18, 19, 20, 21, 22, 23, 24, 25, 26, 27, 28, 29, 30] rfl rfl).1 (dropW hP hD [0, 1, 2, 3, 4, 5, 6, 7, 8, 9, 10, 11, 12, 13, 14, 15, 16, 17, 18, 19, 20, 21, 22, 23, 24, 25, 26, 27, 28, 29, 30] rfl rfl).2 hS hl
    · skip
      refine lv_tableOut (tgt := 1599) hx hb dL_law_40 (by decide) (by decide) ?_
      exact law_c23 (fn := fnn_20) hfl F hr hlocks hX hbl hbA hAA hK hZ hA o_21 o_22 o_23 o_24 o_25 o_26 o_27 o_28 o_29 o_30 o_31 o_32 o_33 o_34 o_35 o_36 o_37 o_38 o_39 o_40 o_41 o_42 o_43 o_63 o_64 o_65 o_66 o_67 o_68 o_69 o_70 o_71 o_72 o_73 o_74 o_75 o_76 o_77 o_78 o_79 o_80 o_81 o_82 o_83 o_84 o_85 o_86 o_87 o_88 o_89 o_90 (dropW hP hD [0, 1, 2, 3, 4, 5, 6, 7, 8, 9, 10, 11, 12, 13, 14, 15, 16, 17, 18, 19, 20, 21, 22, 23, 24, 25, 26, 27, 28, 29, 30] rfl rfl).1 (dropW hP hD [0, 1, 2, 3, 4, 5, 6, 7, 8, 9, 10, 11, 12, 13, 14, 15, 16, 17, 18, 19, 20, 21, 22, 23, 24, 25, 26, 27, 28, 29, 30] rfl rfl).2 hS hl
