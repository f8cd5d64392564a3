def relzU_tick (g0 : xk_St) (rz : Int32) (gz : xk_St) : Prop := ∃ (g1 : xk_St), g1 = va_up g0 0 (upd (g0 0) 5 ((g0 0 5) + 1)) ∧ (∃ (g2 : xk_St), relzU_rememberBalances g1 g2 ∧ (∃ (g3 : xk_St), relzU_countPulses g2 g3 ∧ (∃ (g4 : xk_St), relzU_followComings g3 g4 ∧ (∃ (g5 : xk_St), relzU_useUpOrders g4 g5 ∧ (∃ (g6 : xk_St), relzU_watchLamps g5 g6 ∧ (∃ (g7 : xk_St), relzU_watchBarriers g6 g7 ∧ (∃ (g8 : xk_St), relzU_moveRoad g7 g8 ∧ (∃ (g9 : xk_St), relzU_driveMotors g8 g9 ∧ (∃ (g10 : xk_St), relzU_lightLamps g9 g10 ∧ (∃ (g11 : xk_St), g11 = va_up g10 0 (upd (g10 0) 8 (qzU_bellIsDue g10)) ∧ (∃ (g12 : xk_St), relzU_setSignals g11 g12 ∧ (∃ (g13 : xk_St), g13 = va_up g12 0 (upd (g12 0) 6 (qzU_gatherOutput g12)) ∧ (rz = qzU_gatherOutput g12 ∧ gz = g13)))))))))))))
set_option maxHeartbeats 4000000 in
set_option maxRecDepth 100000 in
theorem kzU_tick (l : Launch) (G : va_G) (ac : Nat → ClassId) (ad : Nat → Nat) (g0 : xk_St) (Ig0 : xk_kept g0) : xk_CI l yzU_tick czU_tick 1 .int xk_WS xk_r5 G xk_cls (xk_tys ac) [.ref (ad 0)] (xk_wU ad ac g0) (fun rz (gz : xk_St) => relzU_tick g0 rz gz) (fun gz => xk_wU ad ac gz) := by
  refine xk_ofI (by decide) (Nat.le_of_ble_eq_true rfl) ?_
  intro p e s m args below meth c A Q H locs ls C0 hret hP hD hS hl
  obtain ⟨hx, hb, hml, hts, hown, hK, hA⟩ := C0
  have hl : lv_has ls 1 [(0, .ref (ad 0))] := hl
  refine lv_aload_n (pc := 0) hx hb dzU_tick_0 rfl (lv_at hl 0 rfl) ?_
  refine lv_dup (pc := 1) hx hb dzU_tick_1 rfl ?_
  refine xk_get (pc := 2) hx hb hts hown hK hP ffzU_41 0 rfl rfl dzU_tick_2 ?_
  refine lv_iconst (v := 1) (pc := 5) hx hb dzU_tick_5 (by decide) ?_
  refine lv_iadd (pc := 6) hx hb dzU_tick_6 ?_
  refine xk_putf (pc := 7) hx hb hts hown hK hP hD hS pfzU_41 0 rfl rfl rfl (Nat.le_of_ble_eq_true rfl) dzU_tick_7 (fun H locs hP hD hS => ?_)
  obtain ⟨g1, eg1⟩ : ∃ z : xk_St, z = va_up g0 0 (upd (g0 0) 5 ((g0 0 5) + 1)) := ⟨_, rfl⟩
  have hP : va_P G xk_cls (xk_wU ad ac g1) H := by rw [eg1]; exact hP
  have hD : va_D A (xk_wU ad ac g1) := by rw [eg1]; exact hD
  have Ig1 : xk_kept g1 := by rw [eg1]; exact xk_kept_up Ig0 (by decide) (by decide)
  refine lv_aload_n (pc := 10) hx hb dzU_tick_10 rfl (lv_at hl 0 rfl) ?_
  refine xk_allVV (As := []) (rest := []) (H0 := s.heap) (pc := 11) hx hb hml hts hown hK hA hP hD hS (kzU_rememberBalances l G ac ad g1) vfzU_94 (fun _ => rfl) 0 rfl rfl ⟨rfl, rfl⟩ ⟨Nat.le_of_ble_eq_true rfl, Nat.le_of_ble_eq_true rfl⟩ rfl hl.1 rfl (Nat.le_of_ble_eq_true rfl) ⟨Nat.zero_le _, Nat.zero_le _⟩ dzU_tick_11 (fun g2 H locs hg2 hP hD hS => ?_)
  have hP : va_P G xk_cls (xk_wU ad ac g2) H := hP
  have hD : va_D A (xk_wU ad ac g2) := hD
  have Ig2 : xk_kept g2 := xk_kept_of (frzU_rememberBalances _ _ hg2) (by decide) (by decide) Ig1
  refine lv_aload_n (pc := 14) hx hb dzU_tick_14 rfl (lv_at hl 0 rfl) ?_
  refine xk_allVV (As := []) (rest := []) (H0 := s.heap) (pc := 15) hx hb hml hts hown hK hA hP hD hS (kzU_countPulses l G ac ad g2 Ig2) vfzU_97 (fun _ => rfl) 0 rfl rfl ⟨rfl, rfl⟩ ⟨Nat.le_of_ble_eq_true rfl, Nat.le_of_ble_eq_true rfl⟩ rfl hl.1 rfl (Nat.le_of_ble_eq_true rfl) ⟨Nat.zero_le _, Nat.zero_le _⟩ dzU_tick_15 (fun g3 H locs hg3 hP hD hS => ?_)
  have hP : va_P G xk_cls (xk_wU ad ac g3) H := hP
  have hD : va_D A (xk_wU ad ac g3) := hD
  refine lv_aload_n (pc := 18) hx hb dzU_tick_18 rfl (lv_at hl 0 rfl) ?_
  refine xk_allVV (As := []) (rest := []) (H0 := s.heap) (pc := 19) hx hb hml hts hown hK hA hP hD hS (kzU_followComings l G ac ad g3) vfzU_100 (fun _ => rfl) 0 rfl rfl ⟨rfl, rfl⟩ ⟨Nat.le_of_ble_eq_true rfl, Nat.le_of_ble_eq_true rfl⟩ rfl hl.1 rfl (Nat.le_of_ble_eq_true rfl) ⟨Nat.zero_le _, Nat.zero_le _⟩ dzU_tick_19 (fun g4 H locs hg4 hP hD hS => ?_)
  have hP : va_P G xk_cls (xk_wU ad ac g4) H := hP
  have hD : va_D A (xk_wU ad ac g4) := hD
  refine lv_aload_n (pc := 22) hx hb dzU_tick_22 rfl (lv_at hl 0 rfl) ?_
  refine xk_allVV (As := []) (rest := []) (H0 := s.heap) (pc := 23) hx hb hml hts hown hK hA hP hD hS (kzU_useUpOrders l G ac ad g4) vfzU_103 (fun _ => rfl) 0 rfl rfl ⟨rfl, rfl⟩ ⟨Nat.le_of_ble_eq_true rfl, Nat.le_of_ble_eq_true rfl⟩ rfl hl.1 rfl (Nat.le_of_ble_eq_true rfl) ⟨Nat.zero_le _, Nat.zero_le _⟩ dzU_tick_23 (fun g5 H locs hg5 hP hD hS => ?_)
  have hP : va_P G xk_cls (xk_wU ad ac g5) H := hP
  have hD : va_D A (xk_wU ad ac g5) := hD
  refine lv_aload_n (pc := 26) hx hb dzU_tick_26 rfl (lv_at hl 0 rfl) ?_
  refine xk_allVV (As := []) (rest := []) (H0 := s.heap) (pc := 27) hx hb hml hts hown hK hA hP hD hS (kzU_watchLamps l G ac ad g5) vfzU_106 (fun _ => rfl) 0 rfl rfl ⟨rfl, rfl⟩ ⟨Nat.le_of_ble_eq_true rfl, Nat.le_of_ble_eq_true rfl⟩ rfl hl.1 rfl (Nat.le_of_ble_eq_true rfl) ⟨Nat.zero_le _, Nat.zero_le _⟩ dzU_tick_27 (fun g6 H locs hg6 hP hD hS => ?_)
  have hP : va_P G xk_cls (xk_wU ad ac g6) H := hP
  have hD : va_D A (xk_wU ad ac g6) := hD
  refine lv_aload_n (pc := 30) hx hb dzU_tick_30 rfl (lv_at hl 0 rfl) ?_
  refine xk_allVV (As := []) (rest := []) (H0 := s.heap) (pc := 31) hx hb hml hts hown hK hA hP hD hS (kzU_watchBarriers l G ac ad g6) vfzU_109 (fun _ => rfl) 0 rfl rfl ⟨rfl, rfl⟩ ⟨Nat.le_of_ble_eq_true rfl, Nat.le_of_ble_eq_true rfl⟩ rfl hl.1 rfl (Nat.le_of_ble_eq_true rfl) ⟨Nat.zero_le _, Nat.zero_le _⟩ dzU_tick_31 (fun g7 H locs hg7 hP hD hS => ?_)
  have hP : va_P G xk_cls (xk_wU ad ac g7) H := hP
  have hD : va_D A (xk_wU ad ac g7) := hD
  refine lv_aload_n (pc := 34) hx hb dzU_tick_34 rfl (lv_at hl 0 rfl) ?_
  refine xk_allVV (As := []) (rest := []) (H0 := s.heap) (pc := 35) hx hb hml hts hown hK hA hP hD hS (kzU_moveRoad l G ac ad g7) vfzU_112 (fun _ => rfl) 0 rfl rfl ⟨rfl, rfl⟩ ⟨Nat.le_of_ble_eq_true rfl, Nat.le_of_ble_eq_true rfl⟩ rfl hl.1 rfl (Nat.le_of_ble_eq_true rfl) ⟨Nat.zero_le _, Nat.zero_le _⟩ dzU_tick_35 (fun g8 H locs hg8 hP hD hS => ?_)
  have hP : va_P G xk_cls (xk_wU ad ac g8) H := hP
  have hD : va_D A (xk_wU ad ac g8) := hD
  refine lv_aload_n (pc := 38) hx hb dzU_tick_38 rfl (lv_at hl 0 rfl) ?_
  refine xk_allVV (As := []) (rest := []) (H0 := s.heap) (pc := 39) hx hb hml hts hown hK hA hP hD hS (kzU_driveMotors l G ac ad g8) vfzU_115 (fun _ => rfl) 0 rfl rfl ⟨rfl, rfl⟩ ⟨Nat.le_of_ble_eq_true rfl, Nat.le_of_ble_eq_true rfl⟩ rfl hl.1 rfl (Nat.le_of_ble_eq_true rfl) ⟨Nat.zero_le _, Nat.zero_le _⟩ dzU_tick_39 (fun g9 H locs hg9 hP hD hS => ?_)
  have hP : va_P G xk_cls (xk_wU ad ac g9) H := hP
  have hD : va_D A (xk_wU ad ac g9) := hD
  refine lv_aload_n (pc := 42) hx hb dzU_tick_42 rfl (lv_at hl 0 rfl) ?_
  refine xk_allVV (As := []) (rest := []) (H0 := s.heap) (pc := 43) hx hb hml hts hown hK hA hP hD hS (kzU_lightLamps l G ac ad g9) vfzU_118 (fun _ => rfl) 0 rfl rfl ⟨rfl, rfl⟩ ⟨Nat.le_of_ble_eq_true rfl, Nat.le_of_ble_eq_true rfl⟩ rfl hl.1 rfl (Nat.le_of_ble_eq_true rfl) ⟨Nat.zero_le _, Nat.zero_le _⟩ dzU_tick_43 (fun g10 H locs hg10 hP hD hS => ?_)
  have hP : va_P G xk_cls (xk_wU ad ac g10) H := hP
  have hD : va_D A (xk_wU ad ac g10) := hD
  refine lv_aload_n (pc := 46) hx hb dzU_tick_46 rfl (lv_at hl 0 rfl) ?_
  refine lv_aload_n (pc := 47) hx hb dzU_tick_47 rfl (lv_at hl 0 rfl) ?_
  refine xk_allVI (As := []) (rest := [.ref (ad 0)]) (H0 := s.heap) (pc := 48) hx hb hml hts hown hK hA hP hD hS (kzU_bellIsDue l G ac ad g10) vfzU_121 (fun _ => rfl) 0 rfl rfl ⟨rfl, rfl⟩ ⟨Nat.le_of_ble_eq_true rfl, Nat.le_of_ble_eq_true rfl⟩ rfl hl.1 rfl (Nat.le_of_ble_eq_true rfl) ⟨Nat.zero_le _, Nat.zero_le _⟩ dzU_tick_48 (fun r1 u9 H locs e9 hP hD hS => ?_)
  obtain rfl : r1 = qzU_bellIsDue g10 := e9
  have hP : va_P G xk_cls (xk_wU ad ac g10) H := hP
  have hD : va_D A (xk_wU ad ac g10) := hD
  refine xk_putf (pc := 51) hx hb hts hown hK hP hD hS pfzU_52 0 rfl (xk_bn (bzU_bellIsDue g10)) (xk_bf (bzU_bellIsDue g10)) (Nat.le_of_ble_eq_true rfl) dzU_tick_51 (fun H locs hP hD hS => ?_)
  obtain ⟨g11, eg11⟩ : ∃ z : xk_St, z = va_up g10 0 (upd (g10 0) 8 (qzU_bellIsDue g10)) := ⟨_, rfl⟩
  have hP : va_P G xk_cls (xk_wU ad ac g11) H := by rw [eg11]; exact hP
  have hD : va_D A (xk_wU ad ac g11) := by rw [eg11]; exact hD
  refine lv_aload_n (pc := 54) hx hb dzU_tick_54 rfl (lv_at hl 0 rfl) ?_
  refine xk_allVV (As := []) (rest := []) (H0 := s.heap) (pc := 55) hx hb hml hts hown hK hA hP hD hS (kzU_setSignals l G ac ad g11) vfzU_125 (fun _ => rfl) 0 rfl rfl ⟨rfl, rfl⟩ ⟨Nat.le_of_ble_eq_true rfl, Nat.le_of_ble_eq_true rfl⟩ rfl hl.1 rfl (Nat.le_of_ble_eq_true rfl) ⟨Nat.zero_le _, Nat.zero_le _⟩ dzU_tick_55 (fun g12 H locs hg12 hP hD hS => ?_)
  have hP : va_P G xk_cls (xk_wU ad ac g12) H := hP
  have hD : va_D A (xk_wU ad ac g12) := hD
  refine lv_aload_n (pc := 58) hx hb dzU_tick_58 rfl (lv_at hl 0 rfl) ?_
  refine lv_aload_n (pc := 59) hx hb dzU_tick_59 rfl (lv_at hl 0 rfl) ?_
  refine xk_allVI (As := []) (rest := [.ref (ad 0)]) (H0 := s.heap) (pc := 60) hx hb hml hts hown hK hA hP hD hS (kzU_gatherOutput l G ac ad g12) vfzU_128 (fun _ => rfl) 0 rfl rfl ⟨rfl, rfl⟩ ⟨Nat.le_of_ble_eq_true rfl, Nat.le_of_ble_eq_true rfl⟩ rfl hl.1 rfl (Nat.le_of_ble_eq_true rfl) ⟨Nat.zero_le _, Nat.zero_le _⟩ dzU_tick_60 (fun r2 u9 H locs e9 hP hD hS => ?_)
  obtain rfl : r2 = qzU_gatherOutput g12 := e9
  have hP : va_P G xk_cls (xk_wU ad ac g12) H := hP
  have hD : va_D A (xk_wU ad ac g12) := hD
  refine xk_putf (pc := 63) hx hb hts hown hK hP hD hS pfzU_45 0 rfl rfl rfl (Nat.le_of_ble_eq_true rfl) dzU_tick_63 (fun H locs hP hD hS => ?_)
  obtain ⟨g13, eg13⟩ : ∃ z : xk_St, z = va_up g12 0 (upd (g12 0) 6 (qzU_gatherOutput g12)) := ⟨_, rfl⟩
  have hP : va_P G xk_cls (xk_wU ad ac g13) H := by rw [eg13]; exact hP
  have hD : va_D A (xk_wU ad ac g13) := by rw [eg13]; exact hD
  refine lv_aload_n (pc := 66) hx hb dzU_tick_66 rfl (lv_at hl 0 rfl) ?_
  refine xk_get (pc := 67) hx hb hts hown hK hP ffzU_45 0 rfl rfl dzU_tick_67 ?_
  refine xk_is (y := qzU_gatherOutput g12) (by rw [eg13]; rfl) ?_
  exact hret _ g13 H locs 70 ls hP hS rfl (by unfold relzU_tick; exact ⟨g1, eg1, ⟨g2, hg2, ⟨g3, hg3, ⟨g4, hg4, ⟨g5, hg5, ⟨g6, hg6, ⟨g7, hg7, ⟨g8, hg8, ⟨g9, hg9, ⟨g10, hg10, ⟨g11, eg11, ⟨g12, hg12, ⟨g13, eg13, ⟨rfl, rfl⟩⟩⟩⟩⟩⟩⟩⟩⟩⟩⟩⟩⟩⟩) dzU_tick_70
theorem frzU_tick (g0 : xk_St) (rz : Int32) (gz : xk_St) : relzU_tick g0 rz gz → xk_eqv [1, 2, 3, 11, 12, 13, 14, 17, 18] g0 gz := by
  intro h
  unfold relzU_tick at h
  have s0 : xk_eqv [1, 2, 3, 11, 12, 13, 14, 17, 18] g0 g0 := xk_eqv_rf
  obtain ⟨g1, u1, v2⟩ := h
  have s3 : xk_eqv [1, 2, 3, 11, 12, 13, 14, 17, 18] g0 g1 := by rw [u1]; repeat (first | exact s0 | refine xk_eqv_up (by decide) ?_)
  obtain ⟨g2, u4, v5⟩ := v2
  have s6 : xk_eqv [1, 2, 3, 11, 12, 13, 14, 17, 18] g0 g2 := xk_eqv_tr s3 (xk_eqv_sub (frzU_rememberBalances _ _ u4) (by decide))
  obtain ⟨g3, u7, v8⟩ := v5
  have s9 : xk_eqv [1, 2, 3, 11, 12, 13, 14, 17, 18] g0 g3 := xk_eqv_tr s6 (xk_eqv_sub (frzU_countPulses _ _ u7) (by decide))
  obtain ⟨g4, u10, v11⟩ := v8
  have s12 : xk_eqv [1, 2, 3, 11, 12, 13, 14, 17, 18] g0 g4 := xk_eqv_tr s9 (xk_eqv_sub (frzU_followComings _ _ u10) (by decide))
  obtain ⟨g5, u13, v14⟩ := v11
  have s15 : xk_eqv [1, 2, 3, 11, 12, 13, 14, 17, 18] g0 g5 := xk_eqv_tr s12 (xk_eqv_sub (frzU_useUpOrders _ _ u13) (by decide))
  obtain ⟨g6, u16, v17⟩ := v14
  have s18 : xk_eqv [1, 2, 3, 11, 12, 13, 14, 17, 18] g0 g6 := xk_eqv_tr s15 (xk_eqv_sub (frzU_watchLamps _ _ u16) (by decide))
  obtain ⟨g7, u19, v20⟩ := v17
  have s21 : xk_eqv [1, 2, 3, 11, 12, 13, 14, 17, 18] g0 g7 := xk_eqv_tr s18 (xk_eqv_sub (frzU_watchBarriers _ _ u19) (by decide))
  obtain ⟨g8, u22, v23⟩ := v20
  have s24 : xk_eqv [1, 2, 3, 11, 12, 13, 14, 17, 18] g0 g8 := xk_eqv_tr s21 (xk_eqv_sub (frzU_moveRoad _ _ u22) (by decide))
  obtain ⟨g9, u25, v26⟩ := v23
  have s27 : xk_eqv [1, 2, 3, 11, 12, 13, 14, 17, 18] g0 g9 := xk_eqv_tr s24 (xk_eqv_sub (frzU_driveMotors _ _ u25) (by decide))
  obtain ⟨g10, u28, v29⟩ := v26
  have s30 : xk_eqv [1, 2, 3, 11, 12, 13, 14, 17, 18] g0 g10 := xk_eqv_tr s27 (xk_eqv_sub (frzU_lightLamps _ _ u28) (by decide))
  obtain ⟨g11, u31, v32⟩ := v29
  have s33 : xk_eqv [1, 2, 3, 11, 12, 13, 14, 17, 18] g0 g11 := by rw [u31]; repeat (first | exact s30 | refine xk_eqv_up (by decide) ?_)
  obtain ⟨g12, u34, v35⟩ := v32
  have s36 : xk_eqv [1, 2, 3, 11, 12, 13, 14, 17, 18] g0 g12 := xk_eqv_tr s33 (xk_eqv_sub (frzU_setSignals _ _ u34) (by decide))
  obtain ⟨g13, u37, v38⟩ := v35
  have s39 : xk_eqv [1, 2, 3, 11, 12, 13, 14, 17, 18] g0 g13 := by rw [u37]; repeat (first | exact s36 | refine xk_eqv_up (by decide) ?_)
  rw [v38.2]; exact s39

