def relzM_oneTick (g0 : xk_St) (gz : xk_St) : Prop := ∃ (g1 : xk_St), g1 = va_up g0 0 (upd (g0 0) 27 ((g0 0 27) + 1)) ∧ (∃ (g2 : xk_St), relzM_allPulses g1 g2 ∧ (∃ (g3 : xk_St), relzM_allComings g2 g3 ∧ (∃ (g4 : xk_St), relzM_useOrders g3 g4 ∧ (∃ (g5 : xk_St), relzM_watchLamps g4 g5 ∧ (∃ (g6 : xk_St), relzM_watchBarriers g5 g6 ∧ (∃ (g7 : xk_St), relzM_goOn g6 g7 ∧ (∃ (g8 : xk_St), relzM_drive g7 g8 ∧ (∃ (g9 : xk_St), relzM_signal g8 g9 ∧ (gz = g9)))))))))
set_option maxHeartbeats 4000000 in
set_option maxRecDepth 100000 in
theorem kzM_oneTick (l : Launch) (G : va_G) (ac : Nat → ClassId) (ad : Nat → Nat) (g0 : xk_St) (B : Nat) (Ig0 : xk_cnt B g0) (hB : B + 23 < 2147483648) : xk_CV l yzM_oneTick czM_oneTick 1 xk_WS xk_r5 G xk_cls (xk_tys ac) [.ref (ad 0)] (xk_wM ad ac g0) (fun (gz : xk_St) => relzM_oneTick g0 gz) (fun gz => xk_wM ad ac gz) := by
  refine xk_ofV (by decide) (Nat.le_of_ble_eq_true rfl) ?_
  intro p e s m args below meth c A Q H locs ls C0 hret hP hD hS hl
  obtain ⟨hx, hb, hml, hts, hown, hK, hA⟩ := C0
  have hl : lv_has ls 1 [(0, .ref (ad 0))] := hl
  have Ig0 : xk_cnt (B + 0) g0 := Ig0
  refine lv_aload_n (pc := 0) hx hb dzM_oneTick_0 rfl (lv_at hl 0 rfl) ?_
  refine lv_dup (pc := 1) hx hb dzM_oneTick_1 rfl ?_
  refine xk_get (pc := 2) hx hb hts hown hK hP ffzM_103 0 rfl rfl dzM_oneTick_2 ?_
  refine lv_iconst (v := 1) (pc := 5) hx hb dzM_oneTick_5 (by decide) ?_
  refine lv_iadd (pc := 6) hx hb dzM_oneTick_6 ?_
  refine xk_putf (pc := 7) hx hb hts hown hK hP hD hS pfzM_103 0 rfl rfl rfl (Nat.le_of_ble_eq_true rfl) dzM_oneTick_7 (fun H locs hP hD hS => ?_)
  obtain ⟨g1, eg1⟩ : ∃ z : xk_St, z = va_up g0 0 (upd (g0 0) 27 ((g0 0 27) + 1)) := ⟨_, rfl⟩
  have hP : va_P G xk_cls (xk_wM ad ac g1) H := by rw [eg1]; exact hP
  have hD : va_D A (xk_wM ad ac g1) := by rw [eg1]; exact hD
  have Ig1 : xk_cnt (B + 0) g1 := by rw [eg1]; repeat (first | exact Ig0 | refine xk_cnt_k (by decide) ?_ | refine xk_cnt_f (by decide) ?_ | refine xk_cnt_s ?_)
  refine lv_aload_n (pc := 10) hx hb dzM_oneTick_10 rfl (lv_at hl 0 rfl) ?_
  refine xk_allVV (As := []) (rest := []) (H0 := s.heap) (pc := 11) hx hb hml hts hown hK hA hP hD hS (kzM_allPulses l G ac ad g1 (B + 0) Ig1 (by omega)) vfzM_164 (fun _ => rfl) 0 rfl rfl ⟨rfl, rfl⟩ ⟨Nat.le_of_ble_eq_true rfl, Nat.le_of_ble_eq_true rfl⟩ rfl hl.1 rfl (Nat.le_of_ble_eq_true rfl) ⟨Nat.zero_le _, Nat.zero_le _⟩ dzM_oneTick_11 (fun g2 H locs hg2 hP hD hS => ?_)
  have hP : va_P G xk_cls (xk_wM ad ac g2) H := hP
  have hD : va_D A (xk_wM ad ac g2) := hD
  have Ig2 : xk_cnt (B + 12) g2 := xk_cnt_le (iczM_allPulses (B + 0) _ _ hg2 Ig1) (by omega)
  refine lv_aload_n (pc := 14) hx hb dzM_oneTick_14 rfl (lv_at hl 0 rfl) ?_
  refine xk_allVV (As := []) (rest := []) (H0 := s.heap) (pc := 15) hx hb hml hts hown hK hA hP hD hS (kzM_allComings l G ac ad g2 (B + 12) Ig2 (by omega)) vfzM_167 (fun _ => rfl) 0 rfl rfl ⟨rfl, rfl⟩ ⟨Nat.le_of_ble_eq_true rfl, Nat.le_of_ble_eq_true rfl⟩ rfl hl.1 rfl (Nat.le_of_ble_eq_true rfl) ⟨Nat.zero_le _, Nat.zero_le _⟩ dzM_oneTick_15 (fun g3 H locs hg3 hP hD hS => ?_)
  have hP : va_P G xk_cls (xk_wM ad ac g3) H := hP
  have hD : va_D A (xk_wM ad ac g3) := hD
  have Ig3 : xk_cnt (B + 12) g3 := xk_cnt_le (iczM_allComings (B + 12) _ _ hg3 Ig2) (by omega)
  refine lv_aload_n (pc := 18) hx hb dzM_oneTick_18 rfl (lv_at hl 0 rfl) ?_
  refine xk_allVV (As := []) (rest := []) (H0 := s.heap) (pc := 19) hx hb hml hts hown hK hA hP hD hS (kzM_useOrders l G ac ad g3 (B + 12) Ig3 (by omega)) vfzM_170 (fun _ => rfl) 0 rfl rfl ⟨rfl, rfl⟩ ⟨Nat.le_of_ble_eq_true rfl, Nat.le_of_ble_eq_true rfl⟩ rfl hl.1 rfl (Nat.le_of_ble_eq_true rfl) ⟨Nat.zero_le _, Nat.zero_le _⟩ dzM_oneTick_19 (fun g4 H locs hg4 hP hD hS => ?_)
  have hP : va_P G xk_cls (xk_wM ad ac g4) H := hP
  have hD : va_D A (xk_wM ad ac g4) := hD
  have Ig4 : xk_cnt (B + 14) g4 := xk_cnt_le (iczM_useOrders (B + 12) _ _ hg4 Ig3) (by omega)
  refine lv_aload_n (pc := 22) hx hb dzM_oneTick_22 rfl (lv_at hl 0 rfl) ?_
  refine xk_allVV (As := []) (rest := []) (H0 := s.heap) (pc := 23) hx hb hml hts hown hK hA hP hD hS (kzM_watchLamps l G ac ad g4 (B + 14) Ig4 (by omega)) vfzM_173 (fun _ => rfl) 0 rfl rfl ⟨rfl, rfl⟩ ⟨Nat.le_of_ble_eq_true rfl, Nat.le_of_ble_eq_true rfl⟩ rfl hl.1 rfl (Nat.le_of_ble_eq_true rfl) ⟨Nat.zero_le _, Nat.zero_le _⟩ dzM_oneTick_23 (fun g5 H locs hg5 hP hD hS => ?_)
  have hP : va_P G xk_cls (xk_wM ad ac g5) H := hP
  have hD : va_D A (xk_wM ad ac g5) := hD
  have Ig5 : xk_cnt (B + 17) g5 := xk_cnt_le (iczM_watchLamps (B + 14) _ _ hg5 Ig4) (by omega)
  refine lv_aload_n (pc := 26) hx hb dzM_oneTick_26 rfl (lv_at hl 0 rfl) ?_
  refine xk_allVV (As := []) (rest := []) (H0 := s.heap) (pc := 27) hx hb hml hts hown hK hA hP hD hS (kzM_watchBarriers l G ac ad g5 (B + 17) Ig5 (by omega)) vfzM_176 (fun _ => rfl) 0 rfl rfl ⟨rfl, rfl⟩ ⟨Nat.le_of_ble_eq_true rfl, Nat.le_of_ble_eq_true rfl⟩ rfl hl.1 rfl (Nat.le_of_ble_eq_true rfl) ⟨Nat.zero_le _, Nat.zero_le _⟩ dzM_oneTick_27 (fun g6 H locs hg6 hP hD hS => ?_)
  have hP : va_P G xk_cls (xk_wM ad ac g6) H := hP
  have hD : va_D A (xk_wM ad ac g6) := hD
  have Ig6 : xk_cnt (B + 19) g6 := xk_cnt_le (iczM_watchBarriers (B + 17) _ _ hg6 Ig5) (by omega)
  refine lv_aload_n (pc := 30) hx hb dzM_oneTick_30 rfl (lv_at hl 0 rfl) ?_
  refine xk_allVV (As := []) (rest := []) (H0 := s.heap) (pc := 31) hx hb hml hts hown hK hA hP hD hS (kzM_goOn l G ac ad g6 (B + 19) Ig6 (by omega)) vfzM_179 (fun _ => rfl) 0 rfl rfl ⟨rfl, rfl⟩ ⟨Nat.le_of_ble_eq_true rfl, Nat.le_of_ble_eq_true rfl⟩ rfl hl.1 rfl (Nat.le_of_ble_eq_true rfl) ⟨Nat.zero_le _, Nat.zero_le _⟩ dzM_oneTick_31 (fun g7 H locs hg7 hP hD hS => ?_)
  have hP : va_P G xk_cls (xk_wM ad ac g7) H := hP
  have hD : va_D A (xk_wM ad ac g7) := hD
  have Ig7 : xk_cnt (B + 20) g7 := xk_cnt_le (iczM_goOn (B + 19) _ _ hg7 Ig6) (by omega)
  refine lv_aload_n (pc := 34) hx hb dzM_oneTick_34 rfl (lv_at hl 0 rfl) ?_
  refine xk_allVV (As := []) (rest := []) (H0 := s.heap) (pc := 35) hx hb hml hts hown hK hA hP hD hS (kzM_drive l G ac ad g7 (B + 20) Ig7 (by omega)) vfzM_182 (fun _ => rfl) 0 rfl rfl ⟨rfl, rfl⟩ ⟨Nat.le_of_ble_eq_true rfl, Nat.le_of_ble_eq_true rfl⟩ rfl hl.1 rfl (Nat.le_of_ble_eq_true rfl) ⟨Nat.zero_le _, Nat.zero_le _⟩ dzM_oneTick_35 (fun g8 H locs hg8 hP hD hS => ?_)
  have hP : va_P G xk_cls (xk_wM ad ac g8) H := hP
  have hD : va_D A (xk_wM ad ac g8) := hD
  have Ig8 : xk_cnt (B + 20) g8 := xk_cnt_le (iczM_drive (B + 20) _ _ hg8 Ig7) (by omega)
  refine lv_aload_n (pc := 38) hx hb dzM_oneTick_38 rfl (lv_at hl 0 rfl) ?_
  refine xk_allVV (As := []) (rest := []) (H0 := s.heap) (pc := 39) hx hb hml hts hown hK hA hP hD hS (kzM_signal l G ac ad g8 (B + 20) Ig8 (by omega)) vfzM_185 (fun _ => rfl) 0 rfl rfl ⟨rfl, rfl⟩ ⟨Nat.le_of_ble_eq_true rfl, Nat.le_of_ble_eq_true rfl⟩ rfl hl.1 rfl (Nat.le_of_ble_eq_true rfl) ⟨Nat.zero_le _, Nat.zero_le _⟩ dzM_oneTick_39 (fun g9 H locs hg9 hP hD hS => ?_)
  have hP : va_P G xk_cls (xk_wM ad ac g9) H := hP
  have hD : va_D A (xk_wM ad ac g9) := hD
  have Ig9 : xk_cnt (B + 22) g9 := xk_cnt_le (iczM_signal (B + 20) _ _ hg9 Ig8) (by omega)
  exact hret g9 H locs 42 ls hP hS (by unfold relzM_oneTick; exact ⟨g1, eg1, ⟨g2, hg2, ⟨g3, hg3, ⟨g4, hg4, ⟨g5, hg5, ⟨g6, hg6, ⟨g7, hg7, ⟨g8, hg8, ⟨g9, hg9, rfl⟩⟩⟩⟩⟩⟩⟩⟩⟩) dzM_oneTick_42
theorem frzM_oneTick (g0 : xk_St) (gz : xk_St) : relzM_oneTick g0 gz → xk_eqv [2, 6, 14, 20] g0 gz := by
  intro h
  unfold relzM_oneTick at h
  have s0 : xk_eqv [2, 6, 14, 20] g0 g0 := xk_eqv_rf
  obtain ⟨g1, u1, v2⟩ := h
  have s3 : xk_eqv [2, 6, 14, 20] g0 g1 := by rw [u1]; repeat (first | exact s0 | refine xk_eqv_up (by decide) ?_)
  obtain ⟨g2, u4, v5⟩ := v2
  have s6 : xk_eqv [2, 6, 14, 20] g0 g2 := xk_eqv_tr s3 (xk_eqv_sub (frzM_allPulses _ _ u4) (by decide))
  obtain ⟨g3, u7, v8⟩ := v5
  have s9 : xk_eqv [2, 6, 14, 20] g0 g3 := xk_eqv_tr s6 (xk_eqv_sub (frzM_allComings _ _ u7) (by decide))
  obtain ⟨g4, u10, v11⟩ := v8
  have s12 : xk_eqv [2, 6, 14, 20] g0 g4 := xk_eqv_tr s9 (xk_eqv_sub (frzM_useOrders _ _ u10) (by decide))
  obtain ⟨g5, u13, v14⟩ := v11
  have s15 : xk_eqv [2, 6, 14, 20] g0 g5 := xk_eqv_tr s12 (xk_eqv_sub (frzM_watchLamps _ _ u13) (by decide))
  obtain ⟨g6, u16, v17⟩ := v14
  have s18 : xk_eqv [2, 6, 14, 20] g0 g6 := xk_eqv_tr s15 (xk_eqv_sub (frzM_watchBarriers _ _ u16) (by decide))
  obtain ⟨g7, u19, v20⟩ := v17
  have s21 : xk_eqv [2, 6, 14, 20] g0 g7 := xk_eqv_tr s18 (xk_eqv_sub (frzM_goOn _ _ u19) (by decide))
  obtain ⟨g8, u22, v23⟩ := v20
  have s24 : xk_eqv [2, 6, 14, 20] g0 g8 := xk_eqv_tr s21 (xk_eqv_sub (frzM_drive _ _ u22) (by decide))
  obtain ⟨g9, u25, v26⟩ := v23
  have s27 : xk_eqv [2, 6, 14, 20] g0 g9 := xk_eqv_tr s24 (xk_eqv_sub (frzM_signal _ _ u25) (by decide))
  rw [v26]; exact s27
theorem iczM_oneTick (B : Nat) (g0 : xk_St) (gz : xk_St) : relzM_oneTick g0 gz → xk_cnt B g0 → xk_cnt (B + 22) gz := by
  intro h Ig0
  unfold relzM_oneTick at h
  have Ig0 : xk_cnt (B + 0) g0 := Ig0
  obtain ⟨g1, u1, v2⟩ := h
  have Ig1 : xk_cnt (B + 0) g1 := by rw [u1]; repeat (first | exact Ig0 | refine xk_cnt_k (by decide) ?_ | refine xk_cnt_f (by decide) ?_ | refine xk_cnt_s ?_)
  obtain ⟨g2, u3, v4⟩ := v2
  have Ig2 : xk_cnt (B + 12) g2 := xk_cnt_le (iczM_allPulses (B + 0) _ _ u3 Ig1) (by omega)
  obtain ⟨g3, u5, v6⟩ := v4
  have Ig3 : xk_cnt (B + 12) g3 := xk_cnt_le (iczM_allComings (B + 12) _ _ u5 Ig2) (by omega)
  obtain ⟨g4, u7, v8⟩ := v6
  have Ig4 : xk_cnt (B + 14) g4 := xk_cnt_le (iczM_useOrders (B + 12) _ _ u7 Ig3) (by omega)
  obtain ⟨g5, u9, v10⟩ := v8
  have Ig5 : xk_cnt (B + 17) g5 := xk_cnt_le (iczM_watchLamps (B + 14) _ _ u9 Ig4) (by omega)
  obtain ⟨g6, u11, v12⟩ := v10
  have Ig6 : xk_cnt (B + 19) g6 := xk_cnt_le (iczM_watchBarriers (B + 17) _ _ u11 Ig5) (by omega)
  obtain ⟨g7, u13, v14⟩ := v12
  have Ig7 : xk_cnt (B + 20) g7 := xk_cnt_le (iczM_goOn (B + 19) _ _ u13 Ig6) (by omega)
  obtain ⟨g8, u15, v16⟩ := v14
  have Ig8 : xk_cnt (B + 20) g8 := xk_cnt_le (iczM_drive (B + 20) _ _ u15 Ig7) (by omega)
  obtain ⟨g9, u17, v18⟩ := v16
  have Ig9 : xk_cnt (B + 22) g9 := xk_cnt_le (iczM_signal (B + 20) _ _ u17 Ig8) (by omega)
  rw [v18]; exact xk_cnt_le Ig9 (by omega)

def relzM_tick (g0 : xk_St) (rz : Int32) (gz : xk_St) : Prop := ∃ (g1 : xk_St), g1 = va_up g0 0 (upd (g0 0) 0 0) ∧ (∃ (g2 : xk_St), relzM_oneTick g1 g2 ∧ (∃ (r1 : Int32), relzM_output g2 r1 ∧ (rz = r1 ∧ gz = g2)))
set_option maxHeartbeats 4000000 in
set_option maxRecDepth 100000 in
theorem kzM_tick (l : Launch) (G : va_G) (ac : Nat → ClassId) (ad : Nat → Nat) (g0 : xk_St) (B : Nat) (Ig0 : xk_cnt B g0) (hB : B + 23 < 2147483648) : xk_CI l yzM_tick czM_tick 1 .int xk_WS xk_r6 G xk_cls (xk_tys ac) [.ref (ad 0)] (xk_wM ad ac g0) (fun rz (gz : xk_St) => relzM_tick g0 rz gz) (fun gz => xk_wM ad ac gz) := by
  refine xk_ofI (by decide) (Nat.le_of_ble_eq_true rfl) ?_
  intro p e s m args below meth c A Q H locs ls C0 hret hP hD hS hl
  obtain ⟨hx, hb, hml, hts, hown, hK, hA⟩ := C0
  have hl : lv_has ls 1 [(0, .ref (ad 0))] := hl
  have Ig0 : xk_cnt (B + 0) g0 := Ig0
  refine lv_aload_n (pc := 0) hx hb dzM_tick_0 rfl (lv_at hl 0 rfl) ?_
  refine lv_iconst (v := 0) (pc := 1) hx hb dzM_tick_1 (by decide) ?_
  refine xk_putf (pc := 2) hx hb hts hown hK hP hD hS pfzM_92 0 rfl rfl rfl (Nat.le_of_ble_eq_true rfl) dzM_tick_2 (fun H locs hP hD hS => ?_)
  obtain ⟨g1, eg1⟩ : ∃ z : xk_St, z = va_up g0 0 (upd (g0 0) 0 0) := ⟨_, rfl⟩
  have hP : va_P G xk_cls (xk_wM ad ac g1) H := by rw [eg1]; exact hP
  have hD : va_D A (xk_wM ad ac g1) := by rw [eg1]; exact hD
  have Ig1 : xk_cnt (B + 0) g1 := by rw [eg1]; repeat (first | exact Ig0 | refine xk_cnt_k (by decide) ?_ | refine xk_cnt_f (by decide) ?_ | refine xk_cnt_s ?_)
  refine lv_aload_n (pc := 5) hx hb dzM_tick_5 rfl (lv_at hl 0 rfl) ?_
  refine xk_allVV (As := []) (rest := []) (H0 := s.heap) (pc := 6) hx hb hml hts hown hK hA hP hD hS (kzM_oneTick l G ac ad g1 (B + 0) Ig1 (by omega)) vfzM_188 (fun _ => rfl) 0 rfl rfl ⟨rfl, rfl⟩ ⟨Nat.le_of_ble_eq_true rfl, Nat.le_of_ble_eq_true rfl⟩ rfl hl.1 rfl (Nat.le_of_ble_eq_true rfl) ⟨Nat.zero_le _, Nat.zero_le _⟩ dzM_tick_6 (fun g2 H locs hg2 hP hD hS => ?_)
  have hP : va_P G xk_cls (xk_wM ad ac g2) H := hP
  have hD : va_D A (xk_wM ad ac g2) := hD
  have Ig2 : xk_cnt (B + 22) g2 := xk_cnt_le (iczM_oneTick (B + 0) _ _ hg2 Ig1) (by omega)
  refine lv_aload_n (pc := 9) hx hb dzM_tick_9 rfl (lv_at hl 0 rfl) ?_
  refine xk_allVI (As := []) (rest := []) (H0 := s.heap) (pc := 10) hx hb hml hts hown hK hA hP hD hS (kzM_output l G ac ad g2) vfzM_191 (fun _ => rfl) 0 rfl rfl ⟨rfl, rfl⟩ ⟨Nat.le_of_ble_eq_true rfl, Nat.le_of_ble_eq_true rfl⟩ rfl hl.1 rfl (Nat.le_of_ble_eq_true rfl) ⟨Nat.zero_le _, Nat.zero_le _⟩ dzM_tick_10 (fun r1 u9 H locs hr1 hP hD hS => ?_)
  exact hret _ g2 H locs 13 ls hP hS rfl (by unfold relzM_tick; exact ⟨g1, eg1, ⟨g2, hg2, ⟨r1, hr1, ⟨rfl, rfl⟩⟩⟩⟩) dzM_tick_13
theorem frzM_tick (g0 : xk_St) (rz : Int32) (gz : xk_St) : relzM_tick g0 rz gz → xk_eqv [2, 6, 14, 20] g0 gz := by
  intro h
  unfold relzM_tick at h
  have s0 : xk_eqv [2, 6, 14, 20] g0 g0 := xk_eqv_rf
  obtain ⟨g1, u1, v2⟩ := h
  have s3 : xk_eqv [2, 6, 14, 20] g0 g1 := by rw [u1]; repeat (first | exact s0 | refine xk_eqv_up (by decide) ?_)
  obtain ⟨g2, u4, v5⟩ := v2
  have s6 : xk_eqv [2, 6, 14, 20] g0 g2 := xk_eqv_tr s3 (xk_eqv_sub (frzM_oneTick _ _ u4) (by decide))
  obtain ⟨r1, u7, v8⟩ := v5
  rw [v8.2]; exact s6
theorem iczM_tick (B : Nat) (g0 : xk_St) (rz : Int32) (gz : xk_St) : relzM_tick g0 rz gz → xk_cnt B g0 → xk_cnt (B + 22) gz := by
  intro h Ig0
  unfold relzM_tick at h
  have Ig0 : xk_cnt (B + 0) g0 := Ig0
  obtain ⟨g1, u1, v2⟩ := h
  have Ig1 : xk_cnt (B + 0) g1 := by rw [u1]; repeat (first | exact Ig0 | refine xk_cnt_k (by decide) ?_ | refine xk_cnt_f (by decide) ?_ | refine xk_cnt_s ?_)
  obtain ⟨g2, u3, v4⟩ := v2
  have Ig2 : xk_cnt (B + 22) g2 := xk_cnt_le (iczM_oneTick (B + 0) _ _ u3 Ig1) (by omega)
  obtain ⟨r1, u5, v6⟩ := v4
  rw [v6.2]; exact xk_cnt_le Ig2 (by omega)

