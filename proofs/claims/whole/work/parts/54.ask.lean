def relzU_ask_0_0 (g0 : xk_St) (k2 : Int32) (gz : xk_St) : Prop := ∃ (g1 : xk_St), g1 = va_up g0 19 (upd (upd (upd (upd (upd (g0 19) 4 (qzS_startSweep_a4 k2)) 5 qzS_startSweep_a5) 6 qzS_startSweep_a6) 7 qzS_startSweep_a7) 8 qzS_startSweep_a8) ∧ (gz = g1)
set_option maxHeartbeats 4000000 in
set_option maxRecDepth 100000 in
theorem kzU_ask_0_0 (l : Launch) (G : va_G) (ac : Nat → ClassId) (ad : Nat → Nat) (g0 : xk_St) (k2 : Int32) (hw : 0 < k2) (hd3 : ¬ (g0 19 3) = 0) : xk_CV l yzU_ask czU_ask 5 xk_WS xk_r2 G xk_cls (xk_tys ac) [.ref (ad 0), .int 0, .int 0, .int k2] (xk_wU ad ac g0) (fun (gz : xk_St) => relzU_ask_0_0 g0 k2 gz) (fun gz => xk_wU ad ac gz) := by
  refine xk_ofV (by decide) (Nat.le_of_ble_eq_true rfl) ?_
  intro p e s m args below meth c A Q H locs ls C0 hret hP hD hS hl
  obtain ⟨hx, hb, hml, hts, hown, hK, hA⟩ := C0
  have hl : lv_has ls 5 [(0, .ref (ad 0)), (1, .int 0), (2, .int 0), (3, .int k2)] := hl
  refine lv_aload_n (pc := 0) hx hb dzU_ask_0 rfl (lv_at hl 0 rfl) ?_
  refine lv_iload_n (pc := 1) hx hb dzU_ask_1 rfl (lv_at hl 1 rfl) ?_
  refine lv_iload_n (pc := 2) hx hb dzU_ask_2 rfl (lv_at hl 2 rfl) ?_
  refine xk_allVR (As := [.int 0, .int 0]) (rest := []) (H0 := s.heap) (pc := 3) hx hb hml hts hown hK hA hP hD hS (kzU_findSection_0_0 l G ac ad g0) vfzU_174 0 rfl rfl ⟨rfl, rfl⟩ ⟨Nat.le_of_ble_eq_true rfl, Nat.le_of_ble_eq_true rfl⟩ rfl hl.1 rfl (Nat.le_of_ble_eq_true rfl) ⟨Nat.zero_le _, Nat.zero_le _⟩ dzU_ask_3 (fun H locs hP hD hS => ?_)
  have hP : va_P G xk_cls (xk_wU ad ac g0) H := hP
  have hD : va_D A (xk_wU ad ac g0) := hD
  refine lv_astore (lv' := [(4, .ref (ad 19)), (0, .ref (ad 0)), (1, .int 0), (2, .int 0), (3, .int k2)]) (pc := 6) hx hb dzU_ask_6 hl (by decide) rfl (fun ls hl => ?_)
  refine lv_iload_n (pc := 8) hx hb dzU_ask_8 rfl (lv_at hl 4 rfl) ?_
  refine xk_callSV (As := [.int k2]) (rest := []) (H0 := s.heap) (pc := 9) hx hb hml hts hown hK hA hP hD hS (kzU_checkPerson l G ac k2 hw) sfzU_178 [] (by decide) rfl (fun _ => rfl) ⟨rfl, rfl⟩ ⟨Nat.le_of_ble_eq_true rfl, Nat.le_of_ble_eq_true rfl⟩ rfl hl.1 rfl (Nat.le_of_ble_eq_true rfl) ⟨Nat.zero_le _, Nat.zero_le _⟩ dzU_ask_9 (fun u9 H locs e9 hP hD hS => ?_)
  have hP : va_P G xk_cls (xk_wU ad ac g0) H := hP
  have hD : va_D A (xk_wU ad ac g0) := hD
  refine lv_aload (pc := 12) hx hb dzU_ask_12 (lv_at hl 0 rfl) ?_
  refine xk_get (pc := 14) hx hb hts hown hK hP ffzU_181 19 rfl rfl dzU_ask_14 ?_
  refine lv_if_ne (pc := 17) (tgt := 30) hx hb dzU_ask_17 (by decide) (fun _ => ?_) (fun hq9 => absurd hq9 hd3)
  refine lv_aload (pc := 30) hx hb dzU_ask_30 (lv_at hl 0 rfl) ?_
  refine lv_iload_n (pc := 32) hx hb dzU_ask_32 rfl (lv_at hl 4 rfl) ?_
  refine xk_callVV (As := [.int k2]) (rest := []) (H0 := s.heap) (pc := 33) hx hb hml hts hown hK hA hP hD hS (kzS_startSweep l G ac (ad 19) (g0 19 0) (g0 19 1) (g0 19 2) (g0 19 3) (g0 19 4) (g0 19 5) (g0 19 6) (g0 19 7) (g0 19 8) k2) vfzU_186 [19] (by decide) rfl (fun _ => rfl) 19 rfl rfl ⟨rfl, rfl⟩ ⟨Nat.le_of_ble_eq_true rfl, Nat.le_of_ble_eq_true rfl⟩ rfl hl.1 rfl (Nat.le_of_ble_eq_true rfl) ⟨Nat.zero_le _, Nat.zero_le _⟩ dzU_ask_33 (fun u9 H locs e9 hP hD hS => ?_)
  obtain ⟨g1, eg1⟩ : ∃ z : xk_St, z = va_up g0 19 (upd (upd (upd (upd (upd (g0 19) 4 (qzS_startSweep_a4 k2)) 5 qzS_startSweep_a5) 6 qzS_startSweep_a6) 7 qzS_startSweep_a7) 8 qzS_startSweep_a8) := ⟨_, rfl⟩
  have hP : va_P G xk_cls (xk_wU ad ac g1) H := by rw [eg1]; exact hP
  have hD : va_D A (xk_wU ad ac g1) := by rw [eg1]; exact hD
  exact hret g1 H locs 36 ls hP hS (by unfold relzU_ask_0_0; exact ⟨g1, eg1, rfl⟩) dzU_ask_36
theorem frzU_ask_0_0 (g0 : xk_St) (k2 : Int32) (gz : xk_St) : relzU_ask_0_0 g0 k2 gz → xk_eqv [0, 1, 2, 3, 4, 5, 6, 7, 8, 9, 10, 11, 12, 13, 14, 15, 16, 17, 18, 20, 21, 22, 23, 24, 25, 26, 27, 28, 29, 30, 31, 32, 33] g0 gz := by
  intro h
  unfold relzU_ask_0_0 at h
  have s0 : xk_eqv [0, 1, 2, 3, 4, 5, 6, 7, 8, 9, 10, 11, 12, 13, 14, 15, 16, 17, 18, 20, 21, 22, 23, 24, 25, 26, 27, 28, 29, 30, 31, 32, 33] g0 g0 := xk_eqv_rf
  obtain ⟨g1, u1, v2⟩ := h
  have s3 : xk_eqv [0, 1, 2, 3, 4, 5, 6, 7, 8, 9, 10, 11, 12, 13, 14, 15, 16, 17, 18, 20, 21, 22, 23, 24, 25, 26, 27, 28, 29, 30, 31, 32, 33] g0 g1 := by rw [u1]; repeat (first | exact s0 | refine xk_eqv_up (by decide) ?_)
  rw [v2]; exact s3

def relzU_ask_0_1 (g0 : xk_St) (k2 : Int32) (gz : xk_St) : Prop := ∃ (g1 : xk_St), g1 = va_up g0 20 (upd (upd (upd (upd (upd (g0 20) 4 (qzS_startSweep_a4 k2)) 5 qzS_startSweep_a5) 6 qzS_startSweep_a6) 7 qzS_startSweep_a7) 8 qzS_startSweep_a8) ∧ (gz = g1)
set_option maxHeartbeats 4000000 in
set_option maxRecDepth 100000 in
theorem kzU_ask_0_1 (l : Launch) (G : va_G) (ac : Nat → ClassId) (ad : Nat → Nat) (g0 : xk_St) (k2 : Int32) (hw : 0 < k2) (hd3 : ¬ (g0 20 3) = 0) : xk_CV l yzU_ask czU_ask 5 xk_WS xk_r2 G xk_cls (xk_tys ac) [.ref (ad 0), .int 0, .int 1, .int k2] (xk_wU ad ac g0) (fun (gz : xk_St) => relzU_ask_0_1 g0 k2 gz) (fun gz => xk_wU ad ac gz) := by
  refine xk_ofV (by decide) (Nat.le_of_ble_eq_true rfl) ?_
  intro p e s m args below meth c A Q H locs ls C0 hret hP hD hS hl
  obtain ⟨hx, hb, hml, hts, hown, hK, hA⟩ := C0
  have hl : lv_has ls 5 [(0, .ref (ad 0)), (1, .int 0), (2, .int 1), (3, .int k2)] := hl
  refine lv_aload_n (pc := 0) hx hb dzU_ask_0 rfl (lv_at hl 0 rfl) ?_
  refine lv_iload_n (pc := 1) hx hb dzU_ask_1 rfl (lv_at hl 1 rfl) ?_
  refine lv_iload_n (pc := 2) hx hb dzU_ask_2 rfl (lv_at hl 2 rfl) ?_
  refine xk_allVR (As := [.int 0, .int 1]) (rest := []) (H0 := s.heap) (pc := 3) hx hb hml hts hown hK hA hP hD hS (kzU_findSection_0_1 l G ac ad g0) vfzU_174 0 rfl rfl ⟨rfl, rfl⟩ ⟨Nat.le_of_ble_eq_true rfl, Nat.le_of_ble_eq_true rfl⟩ rfl hl.1 rfl (Nat.le_of_ble_eq_true rfl) ⟨Nat.zero_le _, Nat.zero_le _⟩ dzU_ask_3 (fun H locs hP hD hS => ?_)
  have hP : va_P G xk_cls (xk_wU ad ac g0) H := hP
  have hD : va_D A (xk_wU ad ac g0) := hD
  refine lv_astore (lv' := [(4, .ref (ad 20)), (0, .ref (ad 0)), (1, .int 0), (2, .int 1), (3, .int k2)]) (pc := 6) hx hb dzU_ask_6 hl (by decide) rfl (fun ls hl => ?_)
  refine lv_iload_n (pc := 8) hx hb dzU_ask_8 rfl (lv_at hl 4 rfl) ?_
  refine xk_callSV (As := [.int k2]) (rest := []) (H0 := s.heap) (pc := 9) hx hb hml hts hown hK hA hP hD hS (kzU_checkPerson l G ac k2 hw) sfzU_178 [] (by decide) rfl (fun _ => rfl) ⟨rfl, rfl⟩ ⟨Nat.le_of_ble_eq_true rfl, Nat.le_of_ble_eq_true rfl⟩ rfl hl.1 rfl (Nat.le_of_ble_eq_true rfl) ⟨Nat.zero_le _, Nat.zero_le _⟩ dzU_ask_9 (fun u9 H locs e9 hP hD hS => ?_)
  have hP : va_P G xk_cls (xk_wU ad ac g0) H := hP
  have hD : va_D A (xk_wU ad ac g0) := hD
  refine lv_aload (pc := 12) hx hb dzU_ask_12 (lv_at hl 0 rfl) ?_
  refine xk_get (pc := 14) hx hb hts hown hK hP ffzU_181 20 rfl rfl dzU_ask_14 ?_
  refine lv_if_ne (pc := 17) (tgt := 30) hx hb dzU_ask_17 (by decide) (fun _ => ?_) (fun hq9 => absurd hq9 hd3)
  refine lv_aload (pc := 30) hx hb dzU_ask_30 (lv_at hl 0 rfl) ?_
  refine lv_iload_n (pc := 32) hx hb dzU_ask_32 rfl (lv_at hl 4 rfl) ?_
  refine xk_callVV (As := [.int k2]) (rest := []) (H0 := s.heap) (pc := 33) hx hb hml hts hown hK hA hP hD hS (kzS_startSweep l G ac (ad 20) (g0 20 0) (g0 20 1) (g0 20 2) (g0 20 3) (g0 20 4) (g0 20 5) (g0 20 6) (g0 20 7) (g0 20 8) k2) vfzU_186 [20] (by decide) rfl (fun _ => rfl) 20 rfl rfl ⟨rfl, rfl⟩ ⟨Nat.le_of_ble_eq_true rfl, Nat.le_of_ble_eq_true rfl⟩ rfl hl.1 rfl (Nat.le_of_ble_eq_true rfl) ⟨Nat.zero_le _, Nat.zero_le _⟩ dzU_ask_33 (fun u9 H locs e9 hP hD hS => ?_)
  obtain ⟨g1, eg1⟩ : ∃ z : xk_St, z = va_up g0 20 (upd (upd (upd (upd (upd (g0 20) 4 (qzS_startSweep_a4 k2)) 5 qzS_startSweep_a5) 6 qzS_startSweep_a6) 7 qzS_startSweep_a7) 8 qzS_startSweep_a8) := ⟨_, rfl⟩
  have hP : va_P G xk_cls (xk_wU ad ac g1) H := by rw [eg1]; exact hP
  have hD : va_D A (xk_wU ad ac g1) := by rw [eg1]; exact hD
  exact hret g1 H locs 36 ls hP hS (by unfold relzU_ask_0_1; exact ⟨g1, eg1, rfl⟩) dzU_ask_36
theorem frzU_ask_0_1 (g0 : xk_St) (k2 : Int32) (gz : xk_St) : relzU_ask_0_1 g0 k2 gz → xk_eqv [0, 1, 2, 3, 4, 5, 6, 7, 8, 9, 10, 11, 12, 13, 14, 15, 16, 17, 18, 19, 21, 22, 23, 24, 25, 26, 27, 28, 29, 30, 31, 32, 33] g0 gz := by
  intro h
  unfold relzU_ask_0_1 at h
  have s0 : xk_eqv [0, 1, 2, 3, 4, 5, 6, 7, 8, 9, 10, 11, 12, 13, 14, 15, 16, 17, 18, 19, 21, 22, 23, 24, 25, 26, 27, 28, 29, 30, 31, 32, 33] g0 g0 := xk_eqv_rf
  obtain ⟨g1, u1, v2⟩ := h
  have s3 : xk_eqv [0, 1, 2, 3, 4, 5, 6, 7, 8, 9, 10, 11, 12, 13, 14, 15, 16, 17, 18, 19, 21, 22, 23, 24, 25, 26, 27, 28, 29, 30, 31, 32, 33] g0 g1 := by rw [u1]; repeat (first | exact s0 | refine xk_eqv_up (by decide) ?_)
  rw [v2]; exact s3

def relzU_ask_0_2 (g0 : xk_St) (k2 : Int32) (gz : xk_St) : Prop := ∃ (g1 : xk_St), g1 = va_up g0 21 (upd (upd (upd (upd (upd (g0 21) 4 (qzS_startSweep_a4 k2)) 5 qzS_startSweep_a5) 6 qzS_startSweep_a6) 7 qzS_startSweep_a7) 8 qzS_startSweep_a8) ∧ (gz = g1)
set_option maxHeartbeats 4000000 in
set_option maxRecDepth 100000 in
theorem kzU_ask_0_2 (l : Launch) (G : va_G) (ac : Nat → ClassId) (ad : Nat → Nat) (g0 : xk_St) (k2 : Int32) (hw : 0 < k2) (hd3 : ¬ (g0 21 3) = 0) : xk_CV l yzU_ask czU_ask 5 xk_WS xk_r2 G xk_cls (xk_tys ac) [.ref (ad 0), .int 0, .int 2, .int k2] (xk_wU ad ac g0) (fun (gz : xk_St) => relzU_ask_0_2 g0 k2 gz) (fun gz => xk_wU ad ac gz) := by
  refine xk_ofV (by decide) (Nat.le_of_ble_eq_true rfl) ?_
  intro p e s m args below meth c A Q H locs ls C0 hret hP hD hS hl
  obtain ⟨hx, hb, hml, hts, hown, hK, hA⟩ := C0
  have hl : lv_has ls 5 [(0, .ref (ad 0)), (1, .int 0), (2, .int 2), (3, .int k2)] := hl
  refine lv_aload_n (pc := 0) hx hb dzU_ask_0 rfl (lv_at hl 0 rfl) ?_
  refine lv_iload_n (pc := 1) hx hb dzU_ask_1 rfl (lv_at hl 1 rfl) ?_
  refine lv_iload_n (pc := 2) hx hb dzU_ask_2 rfl (lv_at hl 2 rfl) ?_
  refine xk_allVR (As := [.int 0, .int 2]) (rest := []) (H0 := s.heap) (pc := 3) hx hb hml hts hown hK hA hP hD hS (kzU_findSection_0_2 l G ac ad g0) vfzU_174 0 rfl rfl ⟨rfl, rfl⟩ ⟨Nat.le_of_ble_eq_true rfl, Nat.le_of_ble_eq_true rfl⟩ rfl hl.1 rfl (Nat.le_of_ble_eq_true rfl) ⟨Nat.zero_le _, Nat.zero_le _⟩ dzU_ask_3 (fun H locs hP hD hS => ?_)
  have hP : va_P G xk_cls (xk_wU ad ac g0) H := hP
  have hD : va_D A (xk_wU ad ac g0) := hD
  refine lv_astore (lv' := [(4, .ref (ad 21)), (0, .ref (ad 0)), (1, .int 0), (2, .int 2), (3, .int k2)]) (pc := 6) hx hb dzU_ask_6 hl (by decide) rfl (fun ls hl => ?_)
  refine lv_iload_n (pc := 8) hx hb dzU_ask_8 rfl (lv_at hl 4 rfl) ?_
  refine xk_callSV (As := [.int k2]) (rest := []) (H0 := s.heap) (pc := 9) hx hb hml hts hown hK hA hP hD hS (kzU_checkPerson l G ac k2 hw) sfzU_178 [] (by decide) rfl (fun _ => rfl) ⟨rfl, rfl⟩ ⟨Nat.le_of_ble_eq_true rfl, Nat.le_of_ble_eq_true rfl⟩ rfl hl.1 rfl (Nat.le_of_ble_eq_true rfl) ⟨Nat.zero_le _, Nat.zero_le _⟩ dzU_ask_9 (fun u9 H locs e9 hP hD hS => ?_)
  have hP : va_P G xk_cls (xk_wU ad ac g0) H := hP
  have hD : va_D A (xk_wU ad ac g0) := hD
  refine lv_aload (pc := 12) hx hb dzU_ask_12 (lv_at hl 0 rfl) ?_
  refine xk_get (pc := 14) hx hb hts hown hK hP ffzU_181 21 rfl rfl dzU_ask_14 ?_
  refine lv_if_ne (pc := 17) (tgt := 30) hx hb dzU_ask_17 (by decide) (fun _ => ?_) (fun hq9 => absurd hq9 hd3)
  refine lv_aload (pc := 30) hx hb dzU_ask_30 (lv_at hl 0 rfl) ?_
  refine lv_iload_n (pc := 32) hx hb dzU_ask_32 rfl (lv_at hl 4 rfl) ?_
  refine xk_callVV (As := [.int k2]) (rest := []) (H0 := s.heap) (pc := 33) hx hb hml hts hown hK hA hP hD hS (kzS_startSweep l G ac (ad 21) (g0 21 0) (g0 21 1) (g0 21 2) (g0 21 3) (g0 21 4) (g0 21 5) (g0 21 6) (g0 21 7) (g0 21 8) k2) vfzU_186 [21] (by decide) rfl (fun _ => rfl) 21 rfl rfl ⟨rfl, rfl⟩ ⟨Nat.le_of_ble_eq_true rfl, Nat.le_of_ble_eq_true rfl⟩ rfl hl.1 rfl (Nat.le_of_ble_eq_true rfl) ⟨Nat.zero_le _, Nat.zero_le _⟩ dzU_ask_33 (fun u9 H locs e9 hP hD hS => ?_)
  obtain ⟨g1, eg1⟩ : ∃ z : xk_St, z = va_up g0 21 (upd (upd (upd (upd (upd (g0 21) 4 (qzS_startSweep_a4 k2)) 5 qzS_startSweep_a5) 6 qzS_startSweep_a6) 7 qzS_startSweep_a7) 8 qzS_startSweep_a8) := ⟨_, rfl⟩
  have hP : va_P G xk_cls (xk_wU ad ac g1) H := by rw [eg1]; exact hP
  have hD : va_D A (xk_wU ad ac g1) := by rw [eg1]; exact hD
  exact hret g1 H locs 36 ls hP hS (by unfold relzU_ask_0_2; exact ⟨g1, eg1, rfl⟩) dzU_ask_36
theorem frzU_ask_0_2 (g0 : xk_St) (k2 : Int32) (gz : xk_St) : relzU_ask_0_2 g0 k2 gz → xk_eqv [0, 1, 2, 3, 4, 5, 6, 7, 8, 9, 10, 11, 12, 13, 14, 15, 16, 17, 18, 19, 20, 22, 23, 24, 25, 26, 27, 28, 29, 30, 31, 32, 33] g0 gz := by
  intro h
  unfold relzU_ask_0_2 at h
  have s0 : xk_eqv [0, 1, 2, 3, 4, 5, 6, 7, 8, 9, 10, 11, 12, 13, 14, 15, 16, 17, 18, 19, 20, 22, 23, 24, 25, 26, 27, 28, 29, 30, 31, 32, 33] g0 g0 := xk_eqv_rf
  obtain ⟨g1, u1, v2⟩ := h
  have s3 : xk_eqv [0, 1, 2, 3, 4, 5, 6, 7, 8, 9, 10, 11, 12, 13, 14, 15, 16, 17, 18, 19, 20, 22, 23, 24, 25, 26, 27, 28, 29, 30, 31, 32, 33] g0 g1 := by rw [u1]; repeat (first | exact s0 | refine xk_eqv_up (by decide) ?_)
  rw [v2]; exact s3

def relzU_ask_1_0 (g0 : xk_St) (k2 : Int32) (gz : xk_St) : Prop := ∃ (g1 : xk_St), g1 = va_up g0 22 (upd (upd (upd (upd (upd (g0 22) 4 (qzS_startSweep_a4 k2)) 5 qzS_startSweep_a5) 6 qzS_startSweep_a6) 7 qzS_startSweep_a7) 8 qzS_startSweep_a8) ∧ (gz = g1)
set_option maxHeartbeats 4000000 in
set_option maxRecDepth 100000 in
theorem kzU_ask_1_0 (l : Launch) (G : va_G) (ac : Nat → ClassId) (ad : Nat → Nat) (g0 : xk_St) (k2 : Int32) (hw : 0 < k2) (hd3 : ¬ (g0 22 3) = 0) : xk_CV l yzU_ask czU_ask 5 xk_WS xk_r2 G xk_cls (xk_tys ac) [.ref (ad 0), .int 1, .int 0, .int k2] (xk_wU ad ac g0) (fun (gz : xk_St) => relzU_ask_1_0 g0 k2 gz) (fun gz => xk_wU ad ac gz) := by
  refine xk_ofV (by decide) (Nat.le_of_ble_eq_true rfl) ?_
  intro p e s m args below meth c A Q H locs ls C0 hret hP hD hS hl
  obtain ⟨hx, hb, hml, hts, hown, hK, hA⟩ := C0
  have hl : lv_has ls 5 [(0, .ref (ad 0)), (1, .int 1), (2, .int 0), (3, .int k2)] := hl
  refine lv_aload_n (pc := 0) hx hb dzU_ask_0 rfl (lv_at hl 0 rfl) ?_
  refine lv_iload_n (pc := 1) hx hb dzU_ask_1 rfl (lv_at hl 1 rfl) ?_
  refine lv_iload_n (pc := 2) hx hb dzU_ask_2 rfl (lv_at hl 2 rfl) ?_
  refine xk_allVR (As := [.int 1, .int 0]) (rest := []) (H0 := s.heap) (pc := 3) hx hb hml hts hown hK hA hP hD hS (kzU_findSection_1_0 l G ac ad g0) vfzU_174 0 rfl rfl ⟨rfl, rfl⟩ ⟨Nat.le_of_ble_eq_true rfl, Nat.le_of_ble_eq_true rfl⟩ rfl hl.1 rfl (Nat.le_of_ble_eq_true rfl) ⟨Nat.zero_le _, Nat.zero_le _⟩ dzU_ask_3 (fun H locs hP hD hS => ?_)
  have hP : va_P G xk_cls (xk_wU ad ac g0) H := hP
  have hD : va_D A (xk_wU ad ac g0) := hD
  refine lv_astore (lv' := [(4, .ref (ad 22)), (0, .ref (ad 0)), (1, .int 1), (2, .int 0), (3, .int k2)]) (pc := 6) hx hb dzU_ask_6 hl (by decide) rfl (fun ls hl => ?_)
  refine lv_iload_n (pc := 8) hx hb dzU_ask_8 rfl (lv_at hl 4 rfl) ?_
  refine xk_callSV (As := [.int k2]) (rest := []) (H0 := s.heap) (pc := 9) hx hb hml hts hown hK hA hP hD hS (kzU_checkPerson l G ac k2 hw) sfzU_178 [] (by decide) rfl (fun _ => rfl) ⟨rfl, rfl⟩ ⟨Nat.le_of_ble_eq_true rfl, Nat.le_of_ble_eq_true rfl⟩ rfl hl.1 rfl (Nat.le_of_ble_eq_true rfl) ⟨Nat.zero_le _, Nat.zero_le _⟩ dzU_ask_9 (fun u9 H locs e9 hP hD hS => ?_)
  have hP : va_P G xk_cls (xk_wU ad ac g0) H := hP
  have hD : va_D A (xk_wU ad ac g0) := hD
  refine lv_aload (pc := 12) hx hb dzU_ask_12 (lv_at hl 0 rfl) ?_
  refine xk_get (pc := 14) hx hb hts hown hK hP ffzU_181 22 rfl rfl dzU_ask_14 ?_
  refine lv_if_ne (pc := 17) (tgt := 30) hx hb dzU_ask_17 (by decide) (fun _ => ?_) (fun hq9 => absurd hq9 hd3)
  refine lv_aload (pc := 30) hx hb dzU_ask_30 (lv_at hl 0 rfl) ?_
  refine lv_iload_n (pc := 32) hx hb dzU_ask_32 rfl (lv_at hl 4 rfl) ?_
  refine xk_callVV (As := [.int k2]) (rest := []) (H0 := s.heap) (pc := 33) hx hb hml hts hown hK hA hP hD hS (kzS_startSweep l G ac (ad 22) (g0 22 0) (g0 22 1) (g0 22 2) (g0 22 3) (g0 22 4) (g0 22 5) (g0 22 6) (g0 22 7) (g0 22 8) k2) vfzU_186 [22] (by decide) rfl (fun _ => rfl) 22 rfl rfl ⟨rfl, rfl⟩ ⟨Nat.le_of_ble_eq_true rfl, Nat.le_of_ble_eq_true rfl⟩ rfl hl.1 rfl (Nat.le_of_ble_eq_true rfl) ⟨Nat.zero_le _, Nat.zero_le _⟩ dzU_ask_33 (fun u9 H locs e9 hP hD hS => ?_)
  obtain ⟨g1, eg1⟩ : ∃ z : xk_St, z = va_up g0 22 (upd (upd (upd (upd (upd (g0 22) 4 (qzS_startSweep_a4 k2)) 5 qzS_startSweep_a5) 6 qzS_startSweep_a6) 7 qzS_startSweep_a7) 8 qzS_startSweep_a8) := ⟨_, rfl⟩
  have hP : va_P G xk_cls (xk_wU ad ac g1) H := by rw [eg1]; exact hP
  have hD : va_D A (xk_wU ad ac g1) := by rw [eg1]; exact hD
  exact hret g1 H locs 36 ls hP hS (by unfold relzU_ask_1_0; exact ⟨g1, eg1, rfl⟩) dzU_ask_36
theorem frzU_ask_1_0 (g0 : xk_St) (k2 : Int32) (gz : xk_St) : relzU_ask_1_0 g0 k2 gz → xk_eqv [0, 1, 2, 3, 4, 5, 6, 7, 8, 9, 10, 11, 12, 13, 14, 15, 16, 17, 18, 19, 20, 21, 23, 24, 25, 26, 27, 28, 29, 30, 31, 32, 33] g0 gz := by
  intro h
  unfold relzU_ask_1_0 at h
  have s0 : xk_eqv [0, 1, 2, 3, 4, 5, 6, 7, 8, 9, 10, 11, 12, 13, 14, 15, 16, 17, 18, 19, 20, 21, 23, 24, 25, 26, 27, 28, 29, 30, 31, 32, 33] g0 g0 := xk_eqv_rf
  obtain ⟨g1, u1, v2⟩ := h
  have s3 : xk_eqv [0, 1, 2, 3, 4, 5, 6, 7, 8, 9, 10, 11, 12, 13, 14, 15, 16, 17, 18, 19, 20, 21, 23, 24, 25, 26, 27, 28, 29, 30, 31, 32, 33] g0 g1 := by rw [u1]; repeat (first | exact s0 | refine xk_eqv_up (by decide) ?_)
  rw [v2]; exact s3

def relzU_ask_1_1 (g0 : xk_St) (k2 : Int32) (gz : xk_St) : Prop := ∃ (g1 : xk_St), g1 = va_up g0 23 (upd (upd (upd (upd (upd (g0 23) 4 (qzS_startSweep_a4 k2)) 5 qzS_startSweep_a5) 6 qzS_startSweep_a6) 7 qzS_startSweep_a7) 8 qzS_startSweep_a8) ∧ (gz = g1)
set_option maxHeartbeats 4000000 in
set_option maxRecDepth 100000 in
theorem kzU_ask_1_1 (l : Launch) (G : va_G) (ac : Nat → ClassId) (ad : Nat → Nat) (g0 : xk_St) (k2 : Int32) (hw : 0 < k2) (hd3 : ¬ (g0 23 3) = 0) : xk_CV l yzU_ask czU_ask 5 xk_WS xk_r2 G xk_cls (xk_tys ac) [.ref (ad 0), .int 1, .int 1, .int k2] (xk_wU ad ac g0) (fun (gz : xk_St) => relzU_ask_1_1 g0 k2 gz) (fun gz => xk_wU ad ac gz) := by
  refine xk_ofV (by decide) (Nat.le_of_ble_eq_true rfl) ?_
  intro p e s m args below meth c A Q H locs ls C0 hret hP hD hS hl
  obtain ⟨hx, hb, hml, hts, hown, hK, hA⟩ := C0
  have hl : lv_has ls 5 [(0, .ref (ad 0)), (1, .int 1), (2, .int 1), (3, .int k2)] := hl
  refine lv_aload_n (pc := 0) hx hb dzU_ask_0 rfl (lv_at hl 0 rfl) ?_
  refine lv_iload_n (pc := 1) hx hb dzU_ask_1 rfl (lv_at hl 1 rfl) ?_
  refine lv_iload_n (pc := 2) hx hb dzU_ask_2 rfl (lv_at hl 2 rfl) ?_
  refine xk_allVR (As := [.int 1, .int 1]) (rest := []) (H0 := s.heap) (pc := 3) hx hb hml hts hown hK hA hP hD hS (kzU_findSection_1_1 l G ac ad g0) vfzU_174 0 rfl rfl ⟨rfl, rfl⟩ ⟨Nat.le_of_ble_eq_true rfl, Nat.le_of_ble_eq_true rfl⟩ rfl hl.1 rfl (Nat.le_of_ble_eq_true rfl) ⟨Nat.zero_le _, Nat.zero_le _⟩ dzU_ask_3 (fun H locs hP hD hS => ?_)
  have hP : va_P G xk_cls (xk_wU ad ac g0) H := hP
  have hD : va_D A (xk_wU ad ac g0) := hD
  refine lv_astore (lv' := [(4, .ref (ad 23)), (0, .ref (ad 0)), (1, .int 1), (2, .int 1), (3, .int k2)]) (pc := 6) hx hb dzU_ask_6 hl (by decide) rfl (fun ls hl => ?_)
  refine lv_iload_n (pc := 8) hx hb dzU_ask_8 rfl (lv_at hl 4 rfl) ?_
  refine xk_callSV (As := [.int k2]) (rest := []) (H0 := s.heap) (pc := 9) hx hb hml hts hown hK hA hP hD hS (kzU_checkPerson l G ac k2 hw) sfzU_178 [] (by decide) rfl (fun _ => rfl) ⟨rfl, rfl⟩ ⟨Nat.le_of_ble_eq_true rfl, Nat.le_of_ble_eq_true rfl⟩ rfl hl.1 rfl (Nat.le_of_ble_eq_true rfl) ⟨Nat.zero_le _, Nat.zero_le _⟩ dzU_ask_9 (fun u9 H locs e9 hP hD hS => ?_)
  have hP : va_P G xk_cls (xk_wU ad ac g0) H := hP
  have hD : va_D A (xk_wU ad ac g0) := hD
  refine lv_aload (pc := 12) hx hb dzU_ask_12 (lv_at hl 0 rfl) ?_
  refine xk_get (pc := 14) hx hb hts hown hK hP ffzU_181 23 rfl rfl dzU_ask_14 ?_
  refine lv_if_ne (pc := 17) (tgt := 30) hx hb dzU_ask_17 (by decide) (fun _ => ?_) (fun hq9 => absurd hq9 hd3)
  refine lv_aload (pc := 30) hx hb dzU_ask_30 (lv_at hl 0 rfl) ?_
  refine lv_iload_n (pc := 32) hx hb dzU_ask_32 rfl (lv_at hl 4 rfl) ?_
  refine xk_callVV (As := [.int k2]) (rest := []) (H0 := s.heap) (pc := 33) hx hb hml hts hown hK hA hP hD hS (kzS_startSweep l G ac (ad 23) (g0 23 0) (g0 23 1) (g0 23 2) (g0 23 3) (g0 23 4) (g0 23 5) (g0 23 6) (g0 23 7) (g0 23 8) k2) vfzU_186 [23] (by decide) rfl (fun _ => rfl) 23 rfl rfl ⟨rfl, rfl⟩ ⟨Nat.le_of_ble_eq_true rfl, Nat.le_of_ble_eq_true rfl⟩ rfl hl.1 rfl (Nat.le_of_ble_eq_true rfl) ⟨Nat.zero_le _, Nat.zero_le _⟩ dzU_ask_33 (fun u9 H locs e9 hP hD hS => ?_)
  obtain ⟨g1, eg1⟩ : ∃ z : xk_St, z = va_up g0 23 (upd (upd (upd (upd (upd (g0 23) 4 (qzS_startSweep_a4 k2)) 5 qzS_startSweep_a5) 6 qzS_startSweep_a6) 7 qzS_startSweep_a7) 8 qzS_startSweep_a8) := ⟨_, rfl⟩
  have hP : va_P G xk_cls (xk_wU ad ac g1) H := by rw [eg1]; exact hP
  have hD : va_D A (xk_wU ad ac g1) := by rw [eg1]; exact hD
  exact hret g1 H locs 36 ls hP hS (by unfold relzU_ask_1_1; exact ⟨g1, eg1, rfl⟩) dzU_ask_36
theorem frzU_ask_1_1 (g0 : xk_St) (k2 : Int32) (gz : xk_St) : relzU_ask_1_1 g0 k2 gz → xk_eqv [0, 1, 2, 3, 4, 5, 6, 7, 8, 9, 10, 11, 12, 13, 14, 15, 16, 17, 18, 19, 20, 21, 22, 24, 25, 26, 27, 28, 29, 30, 31, 32, 33] g0 gz := by
  intro h
  unfold relzU_ask_1_1 at h
  have s0 : xk_eqv [0, 1, 2, 3, 4, 5, 6, 7, 8, 9, 10, 11, 12, 13, 14, 15, 16, 17, 18, 19, 20, 21, 22, 24, 25, 26, 27, 28, 29, 30, 31, 32, 33] g0 g0 := xk_eqv_rf
  obtain ⟨g1, u1, v2⟩ := h
  have s3 : xk_eqv [0, 1, 2, 3, 4, 5, 6, 7, 8, 9, 10, 11, 12, 13, 14, 15, 16, 17, 18, 19, 20, 21, 22, 24, 25, 26, 27, 28, 29, 30, 31, 32, 33] g0 g1 := by rw [u1]; repeat (first | exact s0 | refine xk_eqv_up (by decide) ?_)
  rw [v2]; exact s3

def relzU_ask_1_2 (g0 : xk_St) (k2 : Int32) (gz : xk_St) : Prop := ∃ (g1 : xk_St), g1 = va_up g0 24 (upd (upd (upd (upd (upd (g0 24) 4 (qzS_startSweep_a4 k2)) 5 qzS_startSweep_a5) 6 qzS_startSweep_a6) 7 qzS_startSweep_a7) 8 qzS_startSweep_a8) ∧ (gz = g1)
set_option maxHeartbeats 4000000 in
set_option maxRecDepth 100000 in
theorem kzU_ask_1_2 (l : Launch) (G : va_G) (ac : Nat → ClassId) (ad : Nat → Nat) (g0 : xk_St) (k2 : Int32) (hw : 0 < k2) (hd3 : ¬ (g0 24 3) = 0) : xk_CV l yzU_ask czU_ask 5 xk_WS xk_r2 G xk_cls (xk_tys ac) [.ref (ad 0), .int 1, .int 2, .int k2] (xk_wU ad ac g0) (fun (gz : xk_St) => relzU_ask_1_2 g0 k2 gz) (fun gz => xk_wU ad ac gz) := by
  refine xk_ofV (by decide) (Nat.le_of_ble_eq_true rfl) ?_
  intro p e s m args below meth c A Q H locs ls C0 hret hP hD hS hl
  obtain ⟨hx, hb, hml, hts, hown, hK, hA⟩ := C0
  have hl : lv_has ls 5 [(0, .ref (ad 0)), (1, .int 1), (2, .int 2), (3, .int k2)] := hl
  refine lv_aload_n (pc := 0) hx hb dzU_ask_0 rfl (lv_at hl 0 rfl) ?_
  refine lv_iload_n (pc := 1) hx hb dzU_ask_1 rfl (lv_at hl 1 rfl) ?_
  refine lv_iload_n (pc := 2) hx hb dzU_ask_2 rfl (lv_at hl 2 rfl) ?_
  refine xk_allVR (As := [.int 1, .int 2]) (rest := []) (H0 := s.heap) (pc := 3) hx hb hml hts hown hK hA hP hD hS (kzU_findSection_1_2 l G ac ad g0) vfzU_174 0 rfl rfl ⟨rfl, rfl⟩ ⟨Nat.le_of_ble_eq_true rfl, Nat.le_of_ble_eq_true rfl⟩ rfl hl.1 rfl (Nat.le_of_ble_eq_true rfl) ⟨Nat.zero_le _, Nat.zero_le _⟩ dzU_ask_3 (fun H locs hP hD hS => ?_)
  have hP : va_P G xk_cls (xk_wU ad ac g0) H := hP
  have hD : va_D A (xk_wU ad ac g0) := hD
  refine lv_astore (lv' := [(4, .ref (ad 24)), (0, .ref (ad 0)), (1, .int 1), (2, .int 2), (3, .int k2)]) (pc := 6) hx hb dzU_ask_6 hl (by decide) rfl (fun ls hl => ?_)
  refine lv_iload_n (pc := 8) hx hb dzU_ask_8 rfl (lv_at hl 4 rfl) ?_
  refine xk_callSV (As := [.int k2]) (rest := []) (H0 := s.heap) (pc := 9) hx hb hml hts hown hK hA hP hD hS (kzU_checkPerson l G ac k2 hw) sfzU_178 [] (by decide) rfl (fun _ => rfl) ⟨rfl, rfl⟩ ⟨Nat.le_of_ble_eq_true rfl, Nat.le_of_ble_eq_true rfl⟩ rfl hl.1 rfl (Nat.le_of_ble_eq_true rfl) ⟨Nat.zero_le _, Nat.zero_le _⟩ dzU_ask_9 (fun u9 H locs e9 hP hD hS => ?_)
  have hP : va_P G xk_cls (xk_wU ad ac g0) H := hP
  have hD : va_D A (xk_wU ad ac g0) := hD
  refine lv_aload (pc := 12) hx hb dzU_ask_12 (lv_at hl 0 rfl) ?_
  refine xk_get (pc := 14) hx hb hts hown hK hP ffzU_181 24 rfl rfl dzU_ask_14 ?_
  refine lv_if_ne (pc := 17) (tgt := 30) hx hb dzU_ask_17 (by decide) (fun _ => ?_) (fun hq9 => absurd hq9 hd3)
  refine lv_aload (pc := 30) hx hb dzU_ask_30 (lv_at hl 0 rfl) ?_
  refine lv_iload_n (pc := 32) hx hb dzU_ask_32 rfl (lv_at hl 4 rfl) ?_
  refine xk_callVV (As := [.int k2]) (rest := []) (H0 := s.heap) (pc := 33) hx hb hml hts hown hK hA hP hD hS (kzS_startSweep l G ac (ad 24) (g0 24 0) (g0 24 1) (g0 24 2) (g0 24 3) (g0 24 4) (g0 24 5) (g0 24 6) (g0 24 7) (g0 24 8) k2) vfzU_186 [24] (by decide) rfl (fun _ => rfl) 24 rfl rfl ⟨rfl, rfl⟩ ⟨Nat.le_of_ble_eq_true rfl, Nat.le_of_ble_eq_true rfl⟩ rfl hl.1 rfl (Nat.le_of_ble_eq_true rfl) ⟨Nat.zero_le _, Nat.zero_le _⟩ dzU_ask_33 (fun u9 H locs e9 hP hD hS => ?_)
  obtain ⟨g1, eg1⟩ : ∃ z : xk_St, z = va_up g0 24 (upd (upd (upd (upd (upd (g0 24) 4 (qzS_startSweep_a4 k2)) 5 qzS_startSweep_a5) 6 qzS_startSweep_a6) 7 qzS_startSweep_a7) 8 qzS_startSweep_a8) := ⟨_, rfl⟩
  have hP : va_P G xk_cls (xk_wU ad ac g1) H := by rw [eg1]; exact hP
  have hD : va_D A (xk_wU ad ac g1) := by rw [eg1]; exact hD
  exact hret g1 H locs 36 ls hP hS (by unfold relzU_ask_1_2; exact ⟨g1, eg1, rfl⟩) dzU_ask_36
theorem frzU_ask_1_2 (g0 : xk_St) (k2 : Int32) (gz : xk_St) : relzU_ask_1_2 g0 k2 gz → xk_eqv [0, 1, 2, 3, 4, 5, 6, 7, 8, 9, 10, 11, 12, 13, 14, 15, 16, 17, 18, 19, 20, 21, 22, 23, 25, 26, 27, 28, 29, 30, 31, 32, 33] g0 gz := by
  intro h
  unfold relzU_ask_1_2 at h
  have s0 : xk_eqv [0, 1, 2, 3, 4, 5, 6, 7, 8, 9, 10, 11, 12, 13, 14, 15, 16, 17, 18, 19, 20, 21, 22, 23, 25, 26, 27, 28, 29, 30, 31, 32, 33] g0 g0 := xk_eqv_rf
  obtain ⟨g1, u1, v2⟩ := h
  have s3 : xk_eqv [0, 1, 2, 3, 4, 5, 6, 7, 8, 9, 10, 11, 12, 13, 14, 15, 16, 17, 18, 19, 20, 21, 22, 23, 25, 26, 27, 28, 29, 30, 31, 32, 33] g0 g1 := by rw [u1]; repeat (first | exact s0 | refine xk_eqv_up (by decide) ?_)
  rw [v2]; exact s3

def relzU_confirm_0_0 (g0 : xk_St) (rz : Int32) (gz : xk_St) : Prop := if (qzS_isSwept (g0 19 4) (g0 19 5) (g0 19 6) (g0 19 7) (g0 19 8)) = 0 then (rz = 0 ∧ xk_b rz ∧ gz = g0) else (if (qzK_hasHealthyHeads_0 (g0 17)) = 0 then (rz = 0 ∧ xk_b rz ∧ gz = g0) else (∃ (g1 : xk_St), g1 = va_up g0 19 (upd (upd (upd (g0 19) 1 qzS_reset_a1) 3 qzS_reset_a3) 4 qzS_reset_a4) ∧ (∃ (g2 : xk_St), g2 = va_up (va_up (va_up (va_up g1 5 (upd (g1 5) 3 (qzJ_add_a3 (g1 5 3)))) 6 (qzJ_add_b (g1 5 3) (g1 6) (g1 0 5))) 7 (qzJ_add_c (g1 5 3) (g1 7) 2)) 8 (qzJ_add_d (g1 5 3) (g1 8) (g1 19 0)) ∧ (rz = 1 ∧ xk_b rz ∧ gz = g2))))
set_option maxHeartbeats 4000000 in
set_option maxRecDepth 100000 in
theorem kzU_confirm_0_0 (l : Launch) (G : va_G) (ac : Nat → ClassId) (ad : Nat → Nat) (g0 : xk_St) (k2 : Int32) (hw : 0 < k2) (ha1 : ¬ (g0 19 4) = 0) (ha2 : ¬ (g0 19 4) = k2) : xk_CI l yzU_confirm czU_confirm 5 .boolean xk_WS xk_r2 G xk_cls (xk_tys ac) [.ref (ad 0), .int 0, .int 0, .int k2] (xk_wU ad ac g0) (fun rz (gz : xk_St) => relzU_confirm_0_0 g0 rz gz) (fun gz => xk_wU ad ac gz) := by
  refine xk_ofI (by decide) (Nat.le_of_ble_eq_true rfl) ?_
  intro p e s m args below meth c A Q H locs ls C0 hret hP hD hS hl
  obtain ⟨hx, hb, hml, hts, hown, hK, hA⟩ := C0
  have hl : lv_has ls 5 [(0, .ref (ad 0)), (1, .int 0), (2, .int 0), (3, .int k2)] := hl
  refine lv_aload_n (pc := 0) hx hb dzU_confirm_0 rfl (lv_at hl 0 rfl) ?_
  refine lv_iload_n (pc := 1) hx hb dzU_confirm_1 rfl (lv_at hl 1 rfl) ?_
  refine lv_iload_n (pc := 2) hx hb dzU_confirm_2 rfl (lv_at hl 2 rfl) ?_
  refine xk_allVR (As := [.int 0, .int 0]) (rest := []) (H0 := s.heap) (pc := 3) hx hb hml hts hown hK hA hP hD hS (kzU_findSection_0_0 l G ac ad g0) vfzU_174 0 rfl rfl ⟨rfl, rfl⟩ ⟨Nat.le_of_ble_eq_true rfl, Nat.le_of_ble_eq_true rfl⟩ rfl hl.1 rfl (Nat.le_of_ble_eq_true rfl) ⟨Nat.zero_le _, Nat.zero_le _⟩ dzU_confirm_3 (fun H locs hP hD hS => ?_)
  have hP : va_P G xk_cls (xk_wU ad ac g0) H := hP
  have hD : va_D A (xk_wU ad ac g0) := hD
  refine lv_astore (lv' := [(4, .ref (ad 19)), (0, .ref (ad 0)), (1, .int 0), (2, .int 0), (3, .int k2)]) (pc := 6) hx hb dzU_confirm_6 hl (by decide) rfl (fun ls hl => ?_)
  refine lv_iload_n (pc := 8) hx hb dzU_confirm_8 rfl (lv_at hl 4 rfl) ?_
  refine xk_callSV (As := [.int k2]) (rest := []) (H0 := s.heap) (pc := 9) hx hb hml hts hown hK hA hP hD hS (kzU_checkPerson l G ac k2 hw) sfzU_178 [] (by decide) rfl (fun _ => rfl) ⟨rfl, rfl⟩ ⟨Nat.le_of_ble_eq_true rfl, Nat.le_of_ble_eq_true rfl⟩ rfl hl.1 rfl (Nat.le_of_ble_eq_true rfl) ⟨Nat.zero_le _, Nat.zero_le _⟩ dzU_confirm_9 (fun u9 H locs e9 hP hD hS => ?_)
  have hP : va_P G xk_cls (xk_wU ad ac g0) H := hP
  have hD : va_D A (xk_wU ad ac g0) := hD
  refine lv_aload (pc := 12) hx hb dzU_confirm_12 (lv_at hl 0 rfl) ?_
  refine xk_get (pc := 14) hx hb hts hown hK hP ffzU_189 19 rfl rfl dzU_confirm_14 ?_
  refine lv_if_eq (pc := 17) (tgt := 29) hx hb dzU_confirm_17 (by decide) (fun hq9 => absurd hq9 ha1) (fun _ => ?_)
  refine lv_aload (pc := 20) hx hb dzU_confirm_20 (lv_at hl 0 rfl) ?_
  refine xk_get (pc := 22) hx hb hts hown hK hP ffzU_189 19 rfl rfl dzU_confirm_22 ?_
  refine lv_iload_n (pc := 25) hx hb dzU_confirm_25 rfl (lv_at hl 4 rfl) ?_
  refine lv_icmp_ne (pc := 26) (tgt := 39) hx hb dzU_confirm_26 (by decide) (fun _ => ?_) (fun hq9 => absurd hq9 ha2)
  refine lv_aload (pc := 39) hx hb dzU_confirm_39 (lv_at hl 0 rfl) ?_
  refine xk_callVI (As := []) (rest := []) (H0 := s.heap) (pc := 41) hx hb hml hts hown hK hA hP hD hS (kzS_isSwept l G ac (ad 19) (g0 19 0) (g0 19 1) (g0 19 2) (g0 19 3) (g0 19 4) (g0 19 5) (g0 19 6) (g0 19 7) (g0 19 8)) vfzU_194 [19] (by decide) rfl (fun _ => rfl) 19 rfl rfl ⟨rfl, rfl⟩ ⟨Nat.le_of_ble_eq_true rfl, Nat.le_of_ble_eq_true rfl⟩ rfl hl.1 rfl (Nat.le_of_ble_eq_true rfl) ⟨Nat.zero_le _, Nat.zero_le _⟩ dzU_confirm_41 (fun r1 u9 H locs e9 hP hD hS => ?_)
  obtain rfl : r1 = qzS_isSwept (g0 19 4) (g0 19 5) (g0 19 6) (g0 19 7) (g0 19 8) := e9
  have hP : va_P G xk_cls (xk_wU ad ac g0) H := hP
  have hD : va_D A (xk_wU ad ac g0) := hD
  refine lv_if_eq (pc := 44) (tgt := 60) hx hb dzU_confirm_44 (by decide) (fun h1 => ?_) (fun h1 => ?_)
  ·
    refine lv_iconst (v := 0) (pc := 60) hx hb dzU_confirm_60 (by decide) ?_
    exact hret _ g0 H locs 61 ls hP hS (xk_bn xk_b0) (by unfold relzU_confirm_0_0; exact (Eq.mpr (if_pos h1) ⟨rfl, xk_b0, rfl⟩)) dzU_confirm_61
  ·
    refine lv_aload_n (pc := 47) hx hb dzU_confirm_47 rfl (lv_at hl 1 rfl) ?_
    refine xk_get (pc := 48) hx hb hts hown hK hP ffzU_11 0 rfl rfl dzU_confirm_48 ?_
    refine lv_iload_n (pc := 51) hx hb dzU_confirm_51 rfl (lv_at hl 2 rfl) ?_
    refine xk_aald (q0 := 1) (t0 := 2) (j := 0) (b := (ad 9)) (pc := 52) hx hb hK hP rfl rfl (pk_in 0 2 (by decide)) (pk_cl 0) rfl dzU_confirm_52 ?_
    refine lv_iload_n (pc := 53) hx hb dzU_confirm_53 rfl (lv_at hl 3 rfl) ?_
    refine xk_callVI (As := [.int 0]) (rest := []) (H0 := s.heap) (pc := 54) hx hb hml hts hown hK hA hP hD hS (kzK_hasHealthyHeads_0 l G ac (ad 9) (ad 17) (ad 11) (ad 13) (ad 15) (g0 9 4) (g0 9 5) (g0 17)) vfzU_197 [9, 17] (by decide) rfl (fun _ => rfl) 9 rfl rfl ⟨rfl, rfl⟩ ⟨Nat.le_of_ble_eq_true rfl, Nat.le_of_ble_eq_true rfl⟩ rfl hl.1 rfl (Nat.le_of_ble_eq_true rfl) ⟨Nat.zero_le _, Nat.zero_le _⟩ dzU_confirm_54 (fun r2 u9 H locs e9 hP hD hS => ?_)
    obtain rfl : r2 = qzK_hasHealthyHeads_0 (g0 17) := e9
    have hP : va_P G xk_cls (xk_wU ad ac g0) H := hP
    have hD : va_D A (xk_wU ad ac g0) := hD
    refine lv_if_ne (pc := 57) (tgt := 62) hx hb dzU_confirm_57 (by decide) (fun h2 => ?_) (fun h2 => ?_)
    ·
      refine lv_aload (pc := 62) hx hb dzU_confirm_62 (lv_at hl 0 rfl) ?_
      refine xk_callVV (As := []) (rest := []) (H0 := s.heap) (pc := 64) hx hb hml hts hown hK hA hP hD hS (kzS_reset l G ac (ad 19) (g0 19 0) (g0 19 1) (g0 19 2) (g0 19 3) (g0 19 4) (g0 19 5) (g0 19 6) (g0 19 7) (g0 19 8)) vfzU_201 [19] (by decide) rfl (fun _ => rfl) 19 rfl rfl ⟨rfl, rfl⟩ ⟨Nat.le_of_ble_eq_true rfl, Nat.le_of_ble_eq_true rfl⟩ rfl hl.1 rfl (Nat.le_of_ble_eq_true rfl) ⟨Nat.zero_le _, Nat.zero_le _⟩ dzU_confirm_64 (fun u9 H locs e9 hP hD hS => ?_)
      obtain ⟨g1, eg1⟩ : ∃ z : xk_St, z = va_up g0 19 (upd (upd (upd (g0 19) 1 qzS_reset_a1) 3 qzS_reset_a3) 4 qzS_reset_a4) := ⟨_, rfl⟩
      have hP : va_P G xk_cls (xk_wU ad ac g1) H := by rw [eg1]; exact hP
      have hD : va_D A (xk_wU ad ac g1) := by rw [eg1]; exact hD
      refine lv_aload_n (pc := 67) hx hb dzU_confirm_67 rfl (lv_at hl 1 rfl) ?_
      refine xk_get (pc := 68) hx hb hts hown hK hP ffzU_37 0 rfl rfl dzU_confirm_68 ?_
      refine lv_aload_n (pc := 71) hx hb dzU_confirm_71 rfl (lv_at hl 1 rfl) ?_
      refine xk_get (pc := 72) hx hb hts hown hK hP ffzU_41 0 rfl rfl dzU_confirm_72 ?_
      refine lv_iconst (v := 2) (pc := 75) hx hb dzU_confirm_75 (by decide) ?_
      refine lv_aload (pc := 76) hx hb dzU_confirm_76 (lv_at hl 0 rfl) ?_
      refine xk_get (pc := 78) hx hb hts hown hK hP ffzU_204 19 rfl rfl dzU_confirm_78 ?_
      refine xk_callVV (As := [.int (g1 0 5), .int 2, .int (g1 19 0)]) (rest := []) (H0 := s.heap) (pc := 81) hx hb hml hts hown hK hA hP hD hS (kzJ_add l G ac (ad 5) (ad 6) (ad 7) (ad 8) (g1 5 3) (g1 6) (g1 7) (g1 8) (g1 0 5) 2 (g1 19 0)) vfzU_170 [5, 6, 7, 8] (by decide) rfl (fun _ => rfl) 5 rfl rfl ⟨rfl, rfl⟩ ⟨Nat.le_of_ble_eq_true rfl, Nat.le_of_ble_eq_true rfl⟩ rfl hl.1 rfl (Nat.le_of_ble_eq_true rfl) ⟨Nat.zero_le _, Nat.zero_le _⟩ dzU_confirm_81 (fun u9 H locs e9 hP hD hS => ?_)
      obtain ⟨g2, eg2⟩ : ∃ z : xk_St, z = va_up (va_up (va_up (va_up g1 5 (upd (g1 5) 3 (qzJ_add_a3 (g1 5 3)))) 6 (qzJ_add_b (g1 5 3) (g1 6) (g1 0 5))) 7 (qzJ_add_c (g1 5 3) (g1 7) 2)) 8 (qzJ_add_d (g1 5 3) (g1 8) (g1 19 0)) := ⟨_, rfl⟩
      have hP : va_P G xk_cls (xk_wU ad ac g2) H := by rw [eg2]; exact hP
      have hD : va_D A (xk_wU ad ac g2) := by rw [eg2]; exact hD
      refine lv_iconst (v := 1) (pc := 84) hx hb dzU_confirm_84 (by decide) ?_
      exact hret _ g2 H locs 85 ls hP hS (xk_bn xk_b1) (by unfold relzU_confirm_0_0; exact (Eq.mpr (if_neg h1) (Eq.mpr (if_neg h2) ⟨g1, eg1, ⟨g2, eg2, ⟨rfl, xk_b1, rfl⟩⟩⟩))) dzU_confirm_85
    ·
      refine lv_iconst (v := 0) (pc := 60) hx hb dzU_confirm_60 (by decide) ?_
      exact hret _ g0 H locs 61 ls hP hS (xk_bn xk_b0) (by unfold relzU_confirm_0_0; exact (Eq.mpr (if_neg h1) (Eq.mpr (if_pos h2) ⟨rfl, xk_b0, rfl⟩))) dzU_confirm_61
theorem frzU_confirm_0_0 (g0 : xk_St) (rz : Int32) (gz : xk_St) : relzU_confirm_0_0 g0 rz gz → xk_eqv [0, 1, 2, 3, 4, 9, 10, 11, 12, 13, 14, 15, 16, 17, 18, 20, 21, 22, 23, 24, 25, 26, 27, 28, 29, 30, 31, 32, 33] g0 gz := by
  intro h
  unfold relzU_confirm_0_0 at h
  have s0 : xk_eqv [0, 1, 2, 3, 4, 9, 10, 11, 12, 13, 14, 15, 16, 17, 18, 20, 21, 22, 23, 24, 25, 26, 27, 28, 29, 30, 31, 32, 33] g0 g0 := xk_eqv_rf
  by_cases hc : (qzS_isSwept (g0 19 4) (g0 19 5) (g0 19 6) (g0 19 7) (g0 19 8)) = 0
  · rw [if_pos hc] at h
    rw [h.2.2]; exact s0
  · rw [if_neg hc] at h
    by_cases hc : (qzK_hasHealthyHeads_0 (g0 17)) = 0
    · rw [if_pos hc] at h
      rw [h.2.2]; exact s0
    · rw [if_neg hc] at h
      obtain ⟨g1, u1, v2⟩ := h
      have s3 : xk_eqv [0, 1, 2, 3, 4, 9, 10, 11, 12, 13, 14, 15, 16, 17, 18, 20, 21, 22, 23, 24, 25, 26, 27, 28, 29, 30, 31, 32, 33] g0 g1 := by rw [u1]; repeat (first | exact s0 | refine xk_eqv_up (by decide) ?_)
      obtain ⟨g2, u4, v5⟩ := v2
      have s6 : xk_eqv [0, 1, 2, 3, 4, 9, 10, 11, 12, 13, 14, 15, 16, 17, 18, 20, 21, 22, 23, 24, 25, 26, 27, 28, 29, 30, 31, 32, 33] g0 g2 := by rw [u4]; repeat (first | exact s3 | refine xk_eqv_up (by decide) ?_)
      rw [v5.2.2]; exact s6

def relzU_confirm_0_1 (g0 : xk_St) (rz : Int32) (gz : xk_St) : Prop := if (qzS_isSwept (g0 20 4) (g0 20 5) (g0 20 6) (g0 20 7) (g0 20 8)) = 0 then (rz = 0 ∧ xk_b rz ∧ gz = g0) else (if (qzK_hasHealthyHeads_1 (g0 17)) = 0 then (rz = 0 ∧ xk_b rz ∧ gz = g0) else (∃ (g1 : xk_St), g1 = va_up g0 20 (upd (upd (upd (g0 20) 1 qzS_reset_a1) 3 qzS_reset_a3) 4 qzS_reset_a4) ∧ (∃ (g2 : xk_St), g2 = va_up (va_up (va_up (va_up g1 5 (upd (g1 5) 3 (qzJ_add_a3 (g1 5 3)))) 6 (qzJ_add_b (g1 5 3) (g1 6) (g1 0 5))) 7 (qzJ_add_c (g1 5 3) (g1 7) 2)) 8 (qzJ_add_d (g1 5 3) (g1 8) (g1 20 0)) ∧ (rz = 1 ∧ xk_b rz ∧ gz = g2))))
set_option maxHeartbeats 4000000 in
set_option maxRecDepth 100000 in
theorem kzU_confirm_0_1 (l : Launch) (G : va_G) (ac : Nat → ClassId) (ad : Nat → Nat) (g0 : xk_St) (k2 : Int32) (hw : 0 < k2) (ha1 : ¬ (g0 20 4) = 0) (ha2 : ¬ (g0 20 4) = k2) : xk_CI l yzU_confirm czU_confirm 5 .boolean xk_WS xk_r2 G xk_cls (xk_tys ac) [.ref (ad 0), .int 0, .int 1, .int k2] (xk_wU ad ac g0) (fun rz (gz : xk_St) => relzU_confirm_0_1 g0 rz gz) (fun gz => xk_wU ad ac gz) := by
  refine xk_ofI (by decide) (Nat.le_of_ble_eq_true rfl) ?_
  intro p e s m args below meth c A Q H locs ls C0 hret hP hD hS hl
  obtain ⟨hx, hb, hml, hts, hown, hK, hA⟩ := C0
  have hl : lv_has ls 5 [(0, .ref (ad 0)), (1, .int 0), (2, .int 1), (3, .int k2)] := hl
  refine lv_aload_n (pc := 0) hx hb dzU_confirm_0 rfl (lv_at hl 0 rfl) ?_
  refine lv_iload_n (pc := 1) hx hb dzU_confirm_1 rfl (lv_at hl 1 rfl) ?_
  refine lv_iload_n (pc := 2) hx hb dzU_confirm_2 rfl (lv_at hl 2 rfl) ?_
  refine xk_allVR (As := [.int 0, .int 1]) (rest := []) (H0 := s.heap) (pc := 3) hx hb hml hts hown hK hA hP hD hS (kzU_findSection_0_1 l G ac ad g0) vfzU_174 0 rfl rfl ⟨rfl, rfl⟩ ⟨Nat.le_of_ble_eq_true rfl, Nat.le_of_ble_eq_true rfl⟩ rfl hl.1 rfl (Nat.le_of_ble_eq_true rfl) ⟨Nat.zero_le _, Nat.zero_le _⟩ dzU_confirm_3 (fun H locs hP hD hS => ?_)
  have hP : va_P G xk_cls (xk_wU ad ac g0) H := hP
  have hD : va_D A (xk_wU ad ac g0) := hD
  refine lv_astore (lv' := [(4, .ref (ad 20)), (0, .ref (ad 0)), (1, .int 0), (2, .int 1), (3, .int k2)]) (pc := 6) hx hb dzU_confirm_6 hl (by decide) rfl (fun ls hl => ?_)
  refine lv_iload_n (pc := 8) hx hb dzU_confirm_8 rfl (lv_at hl 4 rfl) ?_
  refine xk_callSV (As := [.int k2]) (rest := []) (H0 := s.heap) (pc := 9) hx hb hml hts hown hK hA hP hD hS (kzU_checkPerson l G ac k2 hw) sfzU_178 [] (by decide) rfl (fun _ => rfl) ⟨rfl, rfl⟩ ⟨Nat.le_of_ble_eq_true rfl, Nat.le_of_ble_eq_true rfl⟩ rfl hl.1 rfl (Nat.le_of_ble_eq_true rfl) ⟨Nat.zero_le _, Nat.zero_le _⟩ dzU_confirm_9 (fun u9 H locs e9 hP hD hS => ?_)
  have hP : va_P G xk_cls (xk_wU ad ac g0) H := hP
  have hD : va_D A (xk_wU ad ac g0) := hD
  refine lv_aload (pc := 12) hx hb dzU_confirm_12 (lv_at hl 0 rfl) ?_
  refine xk_get (pc := 14) hx hb hts hown hK hP ffzU_189 20 rfl rfl dzU_confirm_14 ?_
  refine lv_if_eq (pc := 17) (tgt := 29) hx hb dzU_confirm_17 (by decide) (fun hq9 => absurd hq9 ha1) (fun _ => ?_)
  refine lv_aload (pc := 20) hx hb dzU_confirm_20 (lv_at hl 0 rfl) ?_
  refine xk_get (pc := 22) hx hb hts hown hK hP ffzU_189 20 rfl rfl dzU_confirm_22 ?_
  refine lv_iload_n (pc := 25) hx hb dzU_confirm_25 rfl (lv_at hl 4 rfl) ?_
  refine lv_icmp_ne (pc := 26) (tgt := 39) hx hb dzU_confirm_26 (by decide) (fun _ => ?_) (fun hq9 => absurd hq9 ha2)
  refine lv_aload (pc := 39) hx hb dzU_confirm_39 (lv_at hl 0 rfl) ?_
  refine xk_callVI (As := []) (rest := []) (H0 := s.heap) (pc := 41) hx hb hml hts hown hK hA hP hD hS (kzS_isSwept l G ac (ad 20) (g0 20 0) (g0 20 1) (g0 20 2) (g0 20 3) (g0 20 4) (g0 20 5) (g0 20 6) (g0 20 7) (g0 20 8)) vfzU_194 [20] (by decide) rfl (fun _ => rfl) 20 rfl rfl ⟨rfl, rfl⟩ ⟨Nat.le_of_ble_eq_true rfl, Nat.le_of_ble_eq_true rfl⟩ rfl hl.1 rfl (Nat.le_of_ble_eq_true rfl) ⟨Nat.zero_le _, Nat.zero_le _⟩ dzU_confirm_41 (fun r1 u9 H locs e9 hP hD hS => ?_)
  obtain rfl : r1 = qzS_isSwept (g0 20 4) (g0 20 5) (g0 20 6) (g0 20 7) (g0 20 8) := e9
  have hP : va_P G xk_cls (xk_wU ad ac g0) H := hP
  have hD : va_D A (xk_wU ad ac g0) := hD
  refine lv_if_eq (pc := 44) (tgt := 60) hx hb dzU_confirm_44 (by decide) (fun h1 => ?_) (fun h1 => ?_)
  ·
    refine lv_iconst (v := 0) (pc := 60) hx hb dzU_confirm_60 (by decide) ?_
    exact hret _ g0 H locs 61 ls hP hS (xk_bn xk_b0) (by unfold relzU_confirm_0_1; exact (Eq.mpr (if_pos h1) ⟨rfl, xk_b0, rfl⟩)) dzU_confirm_61
  ·
    refine lv_aload_n (pc := 47) hx hb dzU_confirm_47 rfl (lv_at hl 1 rfl) ?_
    refine xk_get (pc := 48) hx hb hts hown hK hP ffzU_11 0 rfl rfl dzU_confirm_48 ?_
    refine lv_iload_n (pc := 51) hx hb dzU_confirm_51 rfl (lv_at hl 2 rfl) ?_
    refine xk_aald (q0 := 1) (t0 := 2) (j := 0) (b := (ad 9)) (pc := 52) hx hb hK hP rfl rfl (pk_in 0 2 (by decide)) (pk_cl 0) rfl dzU_confirm_52 ?_
    refine lv_iload_n (pc := 53) hx hb dzU_confirm_53 rfl (lv_at hl 3 rfl) ?_
    refine xk_callVI (As := [.int 1]) (rest := []) (H0 := s.heap) (pc := 54) hx hb hml hts hown hK hA hP hD hS (kzK_hasHealthyHeads_1 l G ac (ad 9) (ad 17) (ad 11) (ad 13) (ad 15) (g0 9 4) (g0 9 5) (g0 17)) vfzU_197 [9, 17] (by decide) rfl (fun _ => rfl) 9 rfl rfl ⟨rfl, rfl⟩ ⟨Nat.le_of_ble_eq_true rfl, Nat.le_of_ble_eq_true rfl⟩ rfl hl.1 rfl (Nat.le_of_ble_eq_true rfl) ⟨Nat.zero_le _, Nat.zero_le _⟩ dzU_confirm_54 (fun r2 u9 H locs e9 hP hD hS => ?_)
    obtain rfl : r2 = qzK_hasHealthyHeads_1 (g0 17) := e9
    have hP : va_P G xk_cls (xk_wU ad ac g0) H := hP
    have hD : va_D A (xk_wU ad ac g0) := hD
    refine lv_if_ne (pc := 57) (tgt := 62) hx hb dzU_confirm_57 (by decide) (fun h2 => ?_) (fun h2 => ?_)
    ·
      refine lv_aload (pc := 62) hx hb dzU_confirm_62 (lv_at hl 0 rfl) ?_
      refine xk_callVV (As := []) (rest := []) (H0 := s.heap) (pc := 64) hx hb hml hts hown hK hA hP hD hS (kzS_reset l G ac (ad 20) (g0 20 0) (g0 20 1) (g0 20 2) (g0 20 3) (g0 20 4) (g0 20 5) (g0 20 6) (g0 20 7) (g0 20 8)) vfzU_201 [20] (by decide) rfl (fun _ => rfl) 20 rfl rfl ⟨rfl, rfl⟩ ⟨Nat.le_of_ble_eq_true rfl, Nat.le_of_ble_eq_true rfl⟩ rfl hl.1 rfl (Nat.le_of_ble_eq_true rfl) ⟨Nat.zero_le _, Nat.zero_le _⟩ dzU_confirm_64 (fun u9 H locs e9 hP hD hS => ?_)
      obtain ⟨g1, eg1⟩ : ∃ z : xk_St, z = va_up g0 20 (upd (upd (upd (g0 20) 1 qzS_reset_a1) 3 qzS_reset_a3) 4 qzS_reset_a4) := ⟨_, rfl⟩
      have hP : va_P G xk_cls (xk_wU ad ac g1) H := by rw [eg1]; exact hP
      have hD : va_D A (xk_wU ad ac g1) := by rw [eg1]; exact hD
      refine lv_aload_n (pc := 67) hx hb dzU_confirm_67 rfl (lv_at hl 1 rfl) ?_
      refine xk_get (pc := 68) hx hb hts hown hK hP ffzU_37 0 rfl rfl dzU_confirm_68 ?_
      refine lv_aload_n (pc := 71) hx hb dzU_confirm_71 rfl (lv_at hl 1 rfl) ?_
      refine xk_get (pc := 72) hx hb hts hown hK hP ffzU_41 0 rfl rfl dzU_confirm_72 ?_
      refine lv_iconst (v := 2) (pc := 75) hx hb dzU_confirm_75 (by decide) ?_
      refine lv_aload (pc := 76) hx hb dzU_confirm_76 (lv_at hl 0 rfl) ?_
      refine xk_get (pc := 78) hx hb hts hown hK hP ffzU_204 20 rfl rfl dzU_confirm_78 ?_
      refine xk_callVV (As := [.int (g1 0 5), .int 2, .int (g1 20 0)]) (rest := []) (H0 := s.heap) (pc := 81) hx hb hml hts hown hK hA hP hD hS (kzJ_add l G ac (ad 5) (ad 6) (ad 7) (ad 8) (g1 5 3) (g1 6) (g1 7) (g1 8) (g1 0 5) 2 (g1 20 0)) vfzU_170 [5, 6, 7, 8] (by decide) rfl (fun _ => rfl) 5 rfl rfl ⟨rfl, rfl⟩ ⟨Nat.le_of_ble_eq_true rfl, Nat.le_of_ble_eq_true rfl⟩ rfl hl.1 rfl (Nat.le_of_ble_eq_true rfl) ⟨Nat.zero_le _, Nat.zero_le _⟩ dzU_confirm_81 (fun u9 H locs e9 hP hD hS => ?_)
      obtain ⟨g2, eg2⟩ : ∃ z : xk_St, z = va_up (va_up (va_up (va_up g1 5 (upd (g1 5) 3 (qzJ_add_a3 (g1 5 3)))) 6 (qzJ_add_b (g1 5 3) (g1 6) (g1 0 5))) 7 (qzJ_add_c (g1 5 3) (g1 7) 2)) 8 (qzJ_add_d (g1 5 3) (g1 8) (g1 20 0)) := ⟨_, rfl⟩
      have hP : va_P G xk_cls (xk_wU ad ac g2) H := by rw [eg2]; exact hP
      have hD : va_D A (xk_wU ad ac g2) := by rw [eg2]; exact hD
      refine lv_iconst (v := 1) (pc := 84) hx hb dzU_confirm_84 (by decide) ?_
      exact hret _ g2 H locs 85 ls hP hS (xk_bn xk_b1) (by unfold relzU_confirm_0_1; exact (Eq.mpr (if_neg h1) (Eq.mpr (if_neg h2) ⟨g1, eg1, ⟨g2, eg2, ⟨rfl, xk_b1, rfl⟩⟩⟩))) dzU_confirm_85
    ·
      refine lv_iconst (v := 0) (pc := 60) hx hb dzU_confirm_60 (by decide) ?_
      exact hret _ g0 H locs 61 ls hP hS (xk_bn xk_b0) (by unfold relzU_confirm_0_1; exact (Eq.mpr (if_neg h1) (Eq.mpr (if_pos h2) ⟨rfl, xk_b0, rfl⟩))) dzU_confirm_61
theorem frzU_confirm_0_1 (g0 : xk_St) (rz : Int32) (gz : xk_St) : relzU_confirm_0_1 g0 rz gz → xk_eqv [0, 1, 2, 3, 4, 9, 10, 11, 12, 13, 14, 15, 16, 17, 18, 19, 21, 22, 23, 24, 25, 26, 27, 28, 29, 30, 31, 32, 33] g0 gz := by
  intro h
  unfold relzU_confirm_0_1 at h
  have s0 : xk_eqv [0, 1, 2, 3, 4, 9, 10, 11, 12, 13, 14, 15, 16, 17, 18, 19, 21, 22, 23, 24, 25, 26, 27, 28, 29, 30, 31, 32, 33] g0 g0 := xk_eqv_rf
  by_cases hc : (qzS_isSwept (g0 20 4) (g0 20 5) (g0 20 6) (g0 20 7) (g0 20 8)) = 0
  · rw [if_pos hc] at h
    rw [h.2.2]; exact s0
  · rw [if_neg hc] at h
    by_cases hc : (qzK_hasHealthyHeads_1 (g0 17)) = 0
    · rw [if_pos hc] at h
      rw [h.2.2]; exact s0
    · rw [if_neg hc] at h
      obtain ⟨g1, u1, v2⟩ := h
      have s3 : xk_eqv [0, 1, 2, 3, 4, 9, 10, 11, 12, 13, 14, 15, 16, 17, 18, 19, 21, 22, 23, 24, 25, 26, 27, 28, 29, 30, 31, 32, 33] g0 g1 := by rw [u1]; repeat (first | exact s0 | refine xk_eqv_up (by decide) ?_)
      obtain ⟨g2, u4, v5⟩ := v2
      have s6 : xk_eqv [0, 1, 2, 3, 4, 9, 10, 11, 12, 13, 14, 15, 16, 17, 18, 19, 21, 22, 23, 24, 25, 26, 27, 28, 29, 30, 31, 32, 33] g0 g2 := by rw [u4]; repeat (first | exact s3 | refine xk_eqv_up (by decide) ?_)
      rw [v5.2.2]; exact s6

def relzU_confirm_0_2 (g0 : xk_St) (rz : Int32) (gz : xk_St) : Prop := if (qzS_isSwept (g0 21 4) (g0 21 5) (g0 21 6) (g0 21 7) (g0 21 8)) = 0 then (rz = 0 ∧ xk_b rz ∧ gz = g0) else (if (qzK_hasHealthyHeads_2 (g0 17)) = 0 then (rz = 0 ∧ xk_b rz ∧ gz = g0) else (∃ (g1 : xk_St), g1 = va_up g0 21 (upd (upd (upd (g0 21) 1 qzS_reset_a1) 3 qzS_reset_a3) 4 qzS_reset_a4) ∧ (∃ (g2 : xk_St), g2 = va_up (va_up (va_up (va_up g1 5 (upd (g1 5) 3 (qzJ_add_a3 (g1 5 3)))) 6 (qzJ_add_b (g1 5 3) (g1 6) (g1 0 5))) 7 (qzJ_add_c (g1 5 3) (g1 7) 2)) 8 (qzJ_add_d (g1 5 3) (g1 8) (g1 21 0)) ∧ (rz = 1 ∧ xk_b rz ∧ gz = g2))))
set_option maxHeartbeats 4000000 in
set_option maxRecDepth 100000 in
theorem kzU_confirm_0_2 (l : Launch) (G : va_G) (ac : Nat → ClassId) (ad : Nat → Nat) (g0 : xk_St) (k2 : Int32) (hw : 0 < k2) (ha1 : ¬ (g0 21 4) = 0) (ha2 : ¬ (g0 21 4) = k2) : xk_CI l yzU_confirm czU_confirm 5 .boolean xk_WS xk_r2 G xk_cls (xk_tys ac) [.ref (ad 0), .int 0, .int 2, .int k2] (xk_wU ad ac g0) (fun rz (gz : xk_St) => relzU_confirm_0_2 g0 rz gz) (fun gz => xk_wU ad ac gz) := by
  refine xk_ofI (by decide) (Nat.le_of_ble_eq_true rfl) ?_
  intro p e s m args below meth c A Q H locs ls C0 hret hP hD hS hl
  obtain ⟨hx, hb, hml, hts, hown, hK, hA⟩ := C0
  have hl : lv_has ls 5 [(0, .ref (ad 0)), (1, .int 0), (2, .int 2), (3, .int k2)] := hl
  refine lv_aload_n (pc := 0) hx hb dzU_confirm_0 rfl (lv_at hl 0 rfl) ?_
  refine lv_iload_n (pc := 1) hx hb dzU_confirm_1 rfl (lv_at hl 1 rfl) ?_
  refine lv_iload_n (pc := 2) hx hb dzU_confirm_2 rfl (lv_at hl 2 rfl) ?_
  refine xk_allVR (As := [.int 0, .int 2]) (rest := []) (H0 := s.heap) (pc := 3) hx hb hml hts hown hK hA hP hD hS (kzU_findSection_0_2 l G ac ad g0) vfzU_174 0 rfl rfl ⟨rfl, rfl⟩ ⟨Nat.le_of_ble_eq_true rfl, Nat.le_of_ble_eq_true rfl⟩ rfl hl.1 rfl (Nat.le_of_ble_eq_true rfl) ⟨Nat.zero_le _, Nat.zero_le _⟩ dzU_confirm_3 (fun H locs hP hD hS => ?_)
  have hP : va_P G xk_cls (xk_wU ad ac g0) H := hP
  have hD : va_D A (xk_wU ad ac g0) := hD
  refine lv_astore (lv' := [(4, .ref (ad 21)), (0, .ref (ad 0)), (1, .int 0), (2, .int 2), (3, .int k2)]) (pc := 6) hx hb dzU_confirm_6 hl (by decide) rfl (fun ls hl => ?_)
  refine lv_iload_n (pc := 8) hx hb dzU_confirm_8 rfl (lv_at hl 4 rfl) ?_
  refine xk_callSV (As := [.int k2]) (rest := []) (H0 := s.heap) (pc := 9) hx hb hml hts hown hK hA hP hD hS (kzU_checkPerson l G ac k2 hw) sfzU_178 [] (by decide) rfl (fun _ => rfl) ⟨rfl, rfl⟩ ⟨Nat.le_of_ble_eq_true rfl, Nat.le_of_ble_eq_true rfl⟩ rfl hl.1 rfl (Nat.le_of_ble_eq_true rfl) ⟨Nat.zero_le _, Nat.zero_le _⟩ dzU_confirm_9 (fun u9 H locs e9 hP hD hS => ?_)
  have hP : va_P G xk_cls (xk_wU ad ac g0) H := hP
  have hD : va_D A (xk_wU ad ac g0) := hD
  refine lv_aload (pc := 12) hx hb dzU_confirm_12 (lv_at hl 0 rfl) ?_
  refine xk_get (pc := 14) hx hb hts hown hK hP ffzU_189 21 rfl rfl dzU_confirm_14 ?_
  refine lv_if_eq (pc := 17) (tgt := 29) hx hb dzU_confirm_17 (by decide) (fun hq9 => absurd hq9 ha1) (fun _ => ?_)
  refine lv_aload (pc := 20) hx hb dzU_confirm_20 (lv_at hl 0 rfl) ?_
  refine xk_get (pc := 22) hx hb hts hown hK hP ffzU_189 21 rfl rfl dzU_confirm_22 ?_
  refine lv_iload_n (pc := 25) hx hb dzU_confirm_25 rfl (lv_at hl 4 rfl) ?_
  refine lv_icmp_ne (pc := 26) (tgt := 39) hx hb dzU_confirm_26 (by decide) (fun _ => ?_) (fun hq9 => absurd hq9 ha2)
  refine lv_aload (pc := 39) hx hb dzU_confirm_39 (lv_at hl 0 rfl) ?_
  refine xk_callVI (As := []) (rest := []) (H0 := s.heap) (pc := 41) hx hb hml hts hown hK hA hP hD hS (kzS_isSwept l G ac (ad 21) (g0 21 0) (g0 21 1) (g0 21 2) (g0 21 3) (g0 21 4) (g0 21 5) (g0 21 6) (g0 21 7) (g0 21 8)) vfzU_194 [21] (by decide) rfl (fun _ => rfl) 21 rfl rfl ⟨rfl, rfl⟩ ⟨Nat.le_of_ble_eq_true rfl, Nat.le_of_ble_eq_true rfl⟩ rfl hl.1 rfl (Nat.le_of_ble_eq_true rfl) ⟨Nat.zero_le _, Nat.zero_le _⟩ dzU_confirm_41 (fun r1 u9 H locs e9 hP hD hS => ?_)
  obtain rfl : r1 = qzS_isSwept (g0 21 4) (g0 21 5) (g0 21 6) (g0 21 7) (g0 21 8) := e9
  have hP : va_P G xk_cls (xk_wU ad ac g0) H := hP
  have hD : va_D A (xk_wU ad ac g0) := hD
  refine lv_if_eq (pc := 44) (tgt := 60) hx hb dzU_confirm_44 (by decide) (fun h1 => ?_) (fun h1 => ?_)
  ·
    refine lv_iconst (v := 0) (pc := 60) hx hb dzU_confirm_60 (by decide) ?_
    exact hret _ g0 H locs 61 ls hP hS (xk_bn xk_b0) (by unfold relzU_confirm_0_2; exact (Eq.mpr (if_pos h1) ⟨rfl, xk_b0, rfl⟩)) dzU_confirm_61
  ·
    refine lv_aload_n (pc := 47) hx hb dzU_confirm_47 rfl (lv_at hl 1 rfl) ?_
    refine xk_get (pc := 48) hx hb hts hown hK hP ffzU_11 0 rfl rfl dzU_confirm_48 ?_
    refine lv_iload_n (pc := 51) hx hb dzU_confirm_51 rfl (lv_at hl 2 rfl) ?_
    refine xk_aald (q0 := 1) (t0 := 2) (j := 0) (b := (ad 9)) (pc := 52) hx hb hK hP rfl rfl (pk_in 0 2 (by decide)) (pk_cl 0) rfl dzU_confirm_52 ?_
    refine lv_iload_n (pc := 53) hx hb dzU_confirm_53 rfl (lv_at hl 3 rfl) ?_
    refine xk_callVI (As := [.int 2]) (rest := []) (H0 := s.heap) (pc := 54) hx hb hml hts hown hK hA hP hD hS (kzK_hasHealthyHeads_2 l G ac (ad 9) (ad 17) (ad 11) (ad 13) (ad 15) (g0 9 4) (g0 9 5) (g0 17)) vfzU_197 [9, 17] (by decide) rfl (fun _ => rfl) 9 rfl rfl ⟨rfl, rfl⟩ ⟨Nat.le_of_ble_eq_true rfl, Nat.le_of_ble_eq_true rfl⟩ rfl hl.1 rfl (Nat.le_of_ble_eq_true rfl) ⟨Nat.zero_le _, Nat.zero_le _⟩ dzU_confirm_54 (fun r2 u9 H locs e9 hP hD hS => ?_)
    obtain rfl : r2 = qzK_hasHealthyHeads_2 (g0 17) := e9
    have hP : va_P G xk_cls (xk_wU ad ac g0) H := hP
    have hD : va_D A (xk_wU ad ac g0) := hD
    refine lv_if_ne (pc := 57) (tgt := 62) hx hb dzU_confirm_57 (by decide) (fun h2 => ?_) (fun h2 => ?_)
    ·
      refine lv_aload (pc := 62) hx hb dzU_confirm_62 (lv_at hl 0 rfl) ?_
      refine xk_callVV (As := []) (rest := []) (H0 := s.heap) (pc := 64) hx hb hml hts hown hK hA hP hD hS (kzS_reset l G ac (ad 21) (g0 21 0) (g0 21 1) (g0 21 2) (g0 21 3) (g0 21 4) (g0 21 5) (g0 21 6) (g0 21 7) (g0 21 8)) vfzU_201 [21] (by decide) rfl (fun _ => rfl) 21 rfl rfl ⟨rfl, rfl⟩ ⟨Nat.le_of_ble_eq_true rfl, Nat.le_of_ble_eq_true rfl⟩ rfl hl.1 rfl (Nat.le_of_ble_eq_true rfl) ⟨Nat.zero_le _, Nat.zero_le _⟩ dzU_confirm_64 (fun u9 H locs e9 hP hD hS => ?_)
      obtain ⟨g1, eg1⟩ : ∃ z : xk_St, z = va_up g0 21 (upd (upd (upd (g0 21) 1 qzS_reset_a1) 3 qzS_reset_a3) 4 qzS_reset_a4) := ⟨_, rfl⟩
      have hP : va_P G xk_cls (xk_wU ad ac g1) H := by rw [eg1]; exact hP
      have hD : va_D A (xk_wU ad ac g1) := by rw [eg1]; exact hD
      refine lv_aload_n (pc := 67) hx hb dzU_confirm_67 rfl (lv_at hl 1 rfl) ?_
      refine xk_get (pc := 68) hx hb hts hown hK hP ffzU_37 0 rfl rfl dzU_confirm_68 ?_
      refine lv_aload_n (pc := 71) hx hb dzU_confirm_71 rfl (lv_at hl 1 rfl) ?_
      refine xk_get (pc := 72) hx hb hts hown hK hP ffzU_41 0 rfl rfl dzU_confirm_72 ?_
      refine lv_iconst (v := 2) (pc := 75) hx hb dzU_confirm_75 (by decide) ?_
      refine lv_aload (pc := 76) hx hb dzU_confirm_76 (lv_at hl 0 rfl) ?_
      refine xk_get (pc := 78) hx hb hts hown hK hP ffzU_204 21 rfl rfl dzU_confirm_78 ?_
      refine xk_callVV (As := [.int (g1 0 5), .int 2, .int (g1 21 0)]) (rest := []) (H0 := s.heap) (pc := 81) hx hb hml hts hown hK hA hP hD hS (kzJ_add l G ac (ad 5) (ad 6) (ad 7) (ad 8) (g1 5 3) (g1 6) (g1 7) (g1 8) (g1 0 5) 2 (g1 21 0)) vfzU_170 [5, 6, 7, 8] (by decide) rfl (fun _ => rfl) 5 rfl rfl ⟨rfl, rfl⟩ ⟨Nat.le_of_ble_eq_true rfl, Nat.le_of_ble_eq_true rfl⟩ rfl hl.1 rfl (Nat.le_of_ble_eq_true rfl) ⟨Nat.zero_le _, Nat.zero_le _⟩ dzU_confirm_81 (fun u9 H locs e9 hP hD hS => ?_)
      obtain ⟨g2, eg2⟩ : ∃ z : xk_St, z = va_up (va_up (va_up (va_up g1 5 (upd (g1 5) 3 (qzJ_add_a3 (g1 5 3)))) 6 (qzJ_add_b (g1 5 3) (g1 6) (g1 0 5))) 7 (qzJ_add_c (g1 5 3) (g1 7) 2)) 8 (qzJ_add_d (g1 5 3) (g1 8) (g1 21 0)) := ⟨_, rfl⟩
      have hP : va_P G xk_cls (xk_wU ad ac g2) H := by rw [eg2]; exact hP
      have hD : va_D A (xk_wU ad ac g2) := by rw [eg2]; exact hD
      refine lv_iconst (v := 1) (pc := 84) hx hb dzU_confirm_84 (by decide) ?_
      exact hret _ g2 H locs 85 ls hP hS (xk_bn xk_b1) (by unfold relzU_confirm_0_2; exact (Eq.mpr (if_neg h1) (Eq.mpr (if_neg h2) ⟨g1, eg1, ⟨g2, eg2, ⟨rfl, xk_b1, rfl⟩⟩⟩))) dzU_confirm_85
    ·
      refine lv_iconst (v := 0) (pc := 60) hx hb dzU_confirm_60 (by decide) ?_
      exact hret _ g0 H locs 61 ls hP hS (xk_bn xk_b0) (by unfold relzU_confirm_0_2; exact (Eq.mpr (if_neg h1) (Eq.mpr (if_pos h2) ⟨rfl, xk_b0, rfl⟩))) dzU_confirm_61
theorem frzU_confirm_0_2 (g0 : xk_St) (rz : Int32) (gz : xk_St) : relzU_confirm_0_2 g0 rz gz → xk_eqv [0, 1, 2, 3, 4, 9, 10, 11, 12, 13, 14, 15, 16, 17, 18, 19, 20, 22, 23, 24, 25, 26, 27, 28, 29, 30, 31, 32, 33] g0 gz := by
  intro h
  unfold relzU_confirm_0_2 at h
  have s0 : xk_eqv [0, 1, 2, 3, 4, 9, 10, 11, 12, 13, 14, 15, 16, 17, 18, 19, 20, 22, 23, 24, 25, 26, 27, 28, 29, 30, 31, 32, 33] g0 g0 := xk_eqv_rf
  by_cases hc : (qzS_isSwept (g0 21 4) (g0 21 5) (g0 21 6) (g0 21 7) (g0 21 8)) = 0
  · rw [if_pos hc] at h
    rw [h.2.2]; exact s0
  · rw [if_neg hc] at h
    by_cases hc : (qzK_hasHealthyHeads_2 (g0 17)) = 0
    · rw [if_pos hc] at h
      rw [h.2.2]; exact s0
    · rw [if_neg hc] at h
      obtain ⟨g1, u1, v2⟩ := h
      have s3 : xk_eqv [0, 1, 2, 3, 4, 9, 10, 11, 12, 13, 14, 15, 16, 17, 18, 19, 20, 22, 23, 24, 25, 26, 27, 28, 29, 30, 31, 32, 33] g0 g1 := by rw [u1]; repeat (first | exact s0 | refine xk_eqv_up (by decide) ?_)
      obtain ⟨g2, u4, v5⟩ := v2
      have s6 : xk_eqv [0, 1, 2, 3, 4, 9, 10, 11, 12, 13, 14, 15, 16, 17, 18, 19, 20, 22, 23, 24, 25, 26, 27, 28, 29, 30, 31, 32, 33] g0 g2 := by rw [u4]; repeat (first | exact s3 | refine xk_eqv_up (by decide) ?_)
      rw [v5.2.2]; exact s6

def relzU_confirm_1_0 (g0 : xk_St) (rz : Int32) (gz : xk_St) : Prop := if (qzS_isSwept (g0 22 4) (g0 22 5) (g0 22 6) (g0 22 7) (g0 22 8)) = 0 then (rz = 0 ∧ xk_b rz ∧ gz = g0) else (if (qzK_hasHealthyHeads_0 (g0 18)) = 0 then (rz = 0 ∧ xk_b rz ∧ gz = g0) else (∃ (g1 : xk_St), g1 = va_up g0 22 (upd (upd (upd (g0 22) 1 qzS_reset_a1) 3 qzS_reset_a3) 4 qzS_reset_a4) ∧ (∃ (g2 : xk_St), g2 = va_up (va_up (va_up (va_up g1 5 (upd (g1 5) 3 (qzJ_add_a3 (g1 5 3)))) 6 (qzJ_add_b (g1 5 3) (g1 6) (g1 0 5))) 7 (qzJ_add_c (g1 5 3) (g1 7) 2)) 8 (qzJ_add_d (g1 5 3) (g1 8) (g1 22 0)) ∧ (rz = 1 ∧ xk_b rz ∧ gz = g2))))
set_option maxHeartbeats 4000000 in
set_option maxRecDepth 100000 in
theorem kzU_confirm_1_0 (l : Launch) (G : va_G) (ac : Nat → ClassId) (ad : Nat → Nat) (g0 : xk_St) (k2 : Int32) (hw : 0 < k2) (ha1 : ¬ (g0 22 4) = 0) (ha2 : ¬ (g0 22 4) = k2) : xk_CI l yzU_confirm czU_confirm 5 .boolean xk_WS xk_r2 G xk_cls (xk_tys ac) [.ref (ad 0), .int 1, .int 0, .int k2] (xk_wU ad ac g0) (fun rz (gz : xk_St) => relzU_confirm_1_0 g0 rz gz) (fun gz => xk_wU ad ac gz) := by
  refine xk_ofI (by decide) (Nat.le_of_ble_eq_true rfl) ?_
  intro p e s m args below meth c A Q H locs ls C0 hret hP hD hS hl
  obtain ⟨hx, hb, hml, hts, hown, hK, hA⟩ := C0
  have hl : lv_has ls 5 [(0, .ref (ad 0)), (1, .int 1), (2, .int 0), (3, .int k2)] := hl
  refine lv_aload_n (pc := 0) hx hb dzU_confirm_0 rfl (lv_at hl 0 rfl) ?_
  refine lv_iload_n (pc := 1) hx hb dzU_confirm_1 rfl (lv_at hl 1 rfl) ?_
  refine lv_iload_n (pc := 2) hx hb dzU_confirm_2 rfl (lv_at hl 2 rfl) ?_
  refine xk_allVR (As := [.int 1, .int 0]) (rest := []) (H0 := s.heap) (pc := 3) hx hb hml hts hown hK hA hP hD hS (kzU_findSection_1_0 l G ac ad g0) vfzU_174 0 rfl rfl ⟨rfl, rfl⟩ ⟨Nat.le_of_ble_eq_true rfl, Nat.le_of_ble_eq_true rfl⟩ rfl hl.1 rfl (Nat.le_of_ble_eq_true rfl) ⟨Nat.zero_le _, Nat.zero_le _⟩ dzU_confirm_3 (fun H locs hP hD hS => ?_)
  have hP : va_P G xk_cls (xk_wU ad ac g0) H := hP
  have hD : va_D A (xk_wU ad ac g0) := hD
  refine lv_astore (lv' := [(4, .ref (ad 22)), (0, .ref (ad 0)), (1, .int 1), (2, .int 0), (3, .int k2)]) (pc := 6) hx hb dzU_confirm_6 hl (by decide) rfl (fun ls hl => ?_)
  refine lv_iload_n (pc := 8) hx hb dzU_confirm_8 rfl (lv_at hl 4 rfl) ?_
  refine xk_callSV (As := [.int k2]) (rest := []) (H0 := s.heap) (pc := 9) hx hb hml hts hown hK hA hP hD hS (kzU_checkPerson l G ac k2 hw) sfzU_178 [] (by decide) rfl (fun _ => rfl) ⟨rfl, rfl⟩ ⟨Nat.le_of_ble_eq_true rfl, Nat.le_of_ble_eq_true rfl⟩ rfl hl.1 rfl (Nat.le_of_ble_eq_true rfl) ⟨Nat.zero_le _, Nat.zero_le _⟩ dzU_confirm_9 (fun u9 H locs e9 hP hD hS => ?_)
  have hP : va_P G xk_cls (xk_wU ad ac g0) H := hP
  have hD : va_D A (xk_wU ad ac g0) := hD
  refine lv_aload (pc := 12) hx hb dzU_confirm_12 (lv_at hl 0 rfl) ?_
  refine xk_get (pc := 14) hx hb hts hown hK hP ffzU_189 22 rfl rfl dzU_confirm_14 ?_
  refine lv_if_eq (pc := 17) (tgt := 29) hx hb dzU_confirm_17 (by decide) (fun hq9 => absurd hq9 ha1) (fun _ => ?_)
  refine lv_aload (pc := 20) hx hb dzU_confirm_20 (lv_at hl 0 rfl) ?_
  refine xk_get (pc := 22) hx hb hts hown hK hP ffzU_189 22 rfl rfl dzU_confirm_22 ?_
  refine lv_iload_n (pc := 25) hx hb dzU_confirm_25 rfl (lv_at hl 4 rfl) ?_
  refine lv_icmp_ne (pc := 26) (tgt := 39) hx hb dzU_confirm_26 (by decide) (fun _ => ?_) (fun hq9 => absurd hq9 ha2)
  refine lv_aload (pc := 39) hx hb dzU_confirm_39 (lv_at hl 0 rfl) ?_
  refine xk_callVI (As := []) (rest := []) (H0 := s.heap) (pc := 41) hx hb hml hts hown hK hA hP hD hS (kzS_isSwept l G ac (ad 22) (g0 22 0) (g0 22 1) (g0 22 2) (g0 22 3) (g0 22 4) (g0 22 5) (g0 22 6) (g0 22 7) (g0 22 8)) vfzU_194 [22] (by decide) rfl (fun _ => rfl) 22 rfl rfl ⟨rfl, rfl⟩ ⟨Nat.le_of_ble_eq_true rfl, Nat.le_of_ble_eq_true rfl⟩ rfl hl.1 rfl (Nat.le_of_ble_eq_true rfl) ⟨Nat.zero_le _, Nat.zero_le _⟩ dzU_confirm_41 (fun r1 u9 H locs e9 hP hD hS => ?_)
  obtain rfl : r1 = qzS_isSwept (g0 22 4) (g0 22 5) (g0 22 6) (g0 22 7) (g0 22 8) := e9
  have hP : va_P G xk_cls (xk_wU ad ac g0) H := hP
  have hD : va_D A (xk_wU ad ac g0) := hD
  refine lv_if_eq (pc := 44) (tgt := 60) hx hb dzU_confirm_44 (by decide) (fun h1 => ?_) (fun h1 => ?_)
  ·
    refine lv_iconst (v := 0) (pc := 60) hx hb dzU_confirm_60 (by decide) ?_
    exact hret _ g0 H locs 61 ls hP hS (xk_bn xk_b0) (by unfold relzU_confirm_1_0; exact (Eq.mpr (if_pos h1) ⟨rfl, xk_b0, rfl⟩)) dzU_confirm_61
  ·
    refine lv_aload_n (pc := 47) hx hb dzU_confirm_47 rfl (lv_at hl 1 rfl) ?_
    refine xk_get (pc := 48) hx hb hts hown hK hP ffzU_11 0 rfl rfl dzU_confirm_48 ?_
    refine lv_iload_n (pc := 51) hx hb dzU_confirm_51 rfl (lv_at hl 2 rfl) ?_
    refine xk_aald (q0 := 1) (t0 := 2) (j := 1) (b := (ad 10)) (pc := 52) hx hb hK hP rfl rfl (pk_in 1 2 (by decide)) (pk_cl 1) rfl dzU_confirm_52 ?_
    refine lv_iload_n (pc := 53) hx hb dzU_confirm_53 rfl (lv_at hl 3 rfl) ?_
    refine xk_callVI (As := [.int 0]) (rest := []) (H0 := s.heap) (pc := 54) hx hb hml hts hown hK hA hP hD hS (kzK_hasHealthyHeads_0 l G ac (ad 10) (ad 18) (ad 12) (ad 14) (ad 16) (g0 10 4) (g0 10 5) (g0 18)) vfzU_197 [10, 18] (by decide) rfl (fun _ => rfl) 10 rfl rfl ⟨rfl, rfl⟩ ⟨Nat.le_of_ble_eq_true rfl, Nat.le_of_ble_eq_true rfl⟩ rfl hl.1 rfl (Nat.le_of_ble_eq_true rfl) ⟨Nat.zero_le _, Nat.zero_le _⟩ dzU_confirm_54 (fun r2 u9 H locs e9 hP hD hS => ?_)
    obtain rfl : r2 = qzK_hasHealthyHeads_0 (g0 18) := e9
    have hP : va_P G xk_cls (xk_wU ad ac g0) H := hP
    have hD : va_D A (xk_wU ad ac g0) := hD
    refine lv_if_ne (pc := 57) (tgt := 62) hx hb dzU_confirm_57 (by decide) (fun h2 => ?_) (fun h2 => ?_)
    ·
      refine lv_aload (pc := 62) hx hb dzU_confirm_62 (lv_at hl 0 rfl) ?_
      refine xk_callVV (As := []) (rest := []) (H0 := s.heap) (pc := 64) hx hb hml hts hown hK hA hP hD hS (kzS_reset l G ac (ad 22) (g0 22 0) (g0 22 1) (g0 22 2) (g0 22 3) (g0 22 4) (g0 22 5) (g0 22 6) (g0 22 7) (g0 22 8)) vfzU_201 [22] (by decide) rfl (fun _ => rfl) 22 rfl rfl ⟨rfl, rfl⟩ ⟨Nat.le_of_ble_eq_true rfl, Nat.le_of_ble_eq_true rfl⟩ rfl hl.1 rfl (Nat.le_of_ble_eq_true rfl) ⟨Nat.zero_le _, Nat.zero_le _⟩ dzU_confirm_64 (fun u9 H locs e9 hP hD hS => ?_)
      obtain ⟨g1, eg1⟩ : ∃ z : xk_St, z = va_up g0 22 (upd (upd (upd (g0 22) 1 qzS_reset_a1) 3 qzS_reset_a3) 4 qzS_reset_a4) := ⟨_, rfl⟩
      have hP : va_P G xk_cls (xk_wU ad ac g1) H := by rw [eg1]; exact hP
      have hD : va_D A (xk_wU ad ac g1) := by rw [eg1]; exact hD
      refine lv_aload_n (pc := 67) hx hb dzU_confirm_67 rfl (lv_at hl 1 rfl) ?_
      refine xk_get (pc := 68) hx hb hts hown hK hP ffzU_37 0 rfl rfl dzU_confirm_68 ?_
      refine lv_aload_n (pc := 71) hx hb dzU_confirm_71 rfl (lv_at hl 1 rfl) ?_
      refine xk_get (pc := 72) hx hb hts hown hK hP ffzU_41 0 rfl rfl dzU_confirm_72 ?_
      refine lv_iconst (v := 2) (pc := 75) hx hb dzU_confirm_75 (by decide) ?_
      refine lv_aload (pc := 76) hx hb dzU_confirm_76 (lv_at hl 0 rfl) ?_
      refine xk_get (pc := 78) hx hb hts hown hK hP ffzU_204 22 rfl rfl dzU_confirm_78 ?_
      refine xk_callVV (As := [.int (g1 0 5), .int 2, .int (g1 22 0)]) (rest := []) (H0 := s.heap) (pc := 81) hx hb hml hts hown hK hA hP hD hS (kzJ_add l G ac (ad 5) (ad 6) (ad 7) (ad 8) (g1 5 3) (g1 6) (g1 7) (g1 8) (g1 0 5) 2 (g1 22 0)) vfzU_170 [5, 6, 7, 8] (by decide) rfl (fun _ => rfl) 5 rfl rfl ⟨rfl, rfl⟩ ⟨Nat.le_of_ble_eq_true rfl, Nat.le_of_ble_eq_true rfl⟩ rfl hl.1 rfl (Nat.le_of_ble_eq_true rfl) ⟨Nat.zero_le _, Nat.zero_le _⟩ dzU_confirm_81 (fun u9 H locs e9 hP hD hS => ?_)
      obtain ⟨g2, eg2⟩ : ∃ z : xk_St, z = va_up (va_up (va_up (va_up g1 5 (upd (g1 5) 3 (qzJ_add_a3 (g1 5 3)))) 6 (qzJ_add_b (g1 5 3) (g1 6) (g1 0 5))) 7 (qzJ_add_c (g1 5 3) (g1 7) 2)) 8 (qzJ_add_d (g1 5 3) (g1 8) (g1 22 0)) := ⟨_, rfl⟩
      have hP : va_P G xk_cls (xk_wU ad ac g2) H := by rw [eg2]; exact hP
      have hD : va_D A (xk_wU ad ac g2) := by rw [eg2]; exact hD
      refine lv_iconst (v := 1) (pc := 84) hx hb dzU_confirm_84 (by decide) ?_
      exact hret _ g2 H locs 85 ls hP hS (xk_bn xk_b1) (by unfold relzU_confirm_1_0; exact (Eq.mpr (if_neg h1) (Eq.mpr (if_neg h2) ⟨g1, eg1, ⟨g2, eg2, ⟨rfl, xk_b1, rfl⟩⟩⟩))) dzU_confirm_85
    ·
      refine lv_iconst (v := 0) (pc := 60) hx hb dzU_confirm_60 (by decide) ?_
      exact hret _ g0 H locs 61 ls hP hS (xk_bn xk_b0) (by unfold relzU_confirm_1_0; exact (Eq.mpr (if_neg h1) (Eq.mpr (if_pos h2) ⟨rfl, xk_b0, rfl⟩))) dzU_confirm_61
theorem frzU_confirm_1_0 (g0 : xk_St) (rz : Int32) (gz : xk_St) : relzU_confirm_1_0 g0 rz gz → xk_eqv [0, 1, 2, 3, 4, 9, 10, 11, 12, 13, 14, 15, 16, 17, 18, 19, 20, 21, 23, 24, 25, 26, 27, 28, 29, 30, 31, 32, 33] g0 gz := by
  intro h
  unfold relzU_confirm_1_0 at h
  have s0 : xk_eqv [0, 1, 2, 3, 4, 9, 10, 11, 12, 13, 14, 15, 16, 17, 18, 19, 20, 21, 23, 24, 25, 26, 27, 28, 29, 30, 31, 32, 33] g0 g0 := xk_eqv_rf
  by_cases hc : (qzS_isSwept (g0 22 4) (g0 22 5) (g0 22 6) (g0 22 7) (g0 22 8)) = 0
  · rw [if_pos hc] at h
    rw [h.2.2]; exact s0
  · rw [if_neg hc] at h
    by_cases hc : (qzK_hasHealthyHeads_0 (g0 18)) = 0
    · rw [if_pos hc] at h
      rw [h.2.2]; exact s0
    · rw [if_neg hc] at h
      obtain ⟨g1, u1, v2⟩ := h
      have s3 : xk_eqv [0, 1, 2, 3, 4, 9, 10, 11, 12, 13, 14, 15, 16, 17, 18, 19, 20, 21, 23, 24, 25, 26, 27, 28, 29, 30, 31, 32, 33] g0 g1 := by rw [u1]; repeat (first | exact s0 | refine xk_eqv_up (by decide) ?_)
      obtain ⟨g2, u4, v5⟩ := v2
      have s6 : xk_eqv [0, 1, 2, 3, 4, 9, 10, 11, 12, 13, 14, 15, 16, 17, 18, 19, 20, 21, 23, 24, 25, 26, 27, 28, 29, 30, 31, 32, 33] g0 g2 := by rw [u4]; repeat (first | exact s3 | refine xk_eqv_up (by decide) ?_)
      rw [v5.2.2]; exact s6

def relzU_confirm_1_1 (g0 : xk_St) (rz : Int32) (gz : xk_St) : Prop := if (qzS_isSwept (g0 23 4) (g0 23 5) (g0 23 6) (g0 23 7) (g0 23 8)) = 0 then (rz = 0 ∧ xk_b rz ∧ gz = g0) else (if (qzK_hasHealthyHeads_1 (g0 18)) = 0 then (rz = 0 ∧ xk_b rz ∧ gz = g0) else (∃ (g1 : xk_St), g1 = va_up g0 23 (upd (upd (upd (g0 23) 1 qzS_reset_a1) 3 qzS_reset_a3) 4 qzS_reset_a4) ∧ (∃ (g2 : xk_St), g2 = va_up (va_up (va_up (va_up g1 5 (upd (g1 5) 3 (qzJ_add_a3 (g1 5 3)))) 6 (qzJ_add_b (g1 5 3) (g1 6) (g1 0 5))) 7 (qzJ_add_c (g1 5 3) (g1 7) 2)) 8 (qzJ_add_d (g1 5 3) (g1 8) (g1 23 0)) ∧ (rz = 1 ∧ xk_b rz ∧ gz = g2))))
set_option maxHeartbeats 4000000 in
set_option maxRecDepth 100000 in
theorem kzU_confirm_1_1 (l : Launch) (G : va_G) (ac : Nat → ClassId) (ad : Nat → Nat) (g0 : xk_St) (k2 : Int32) (hw : 0 < k2) (ha1 : ¬ (g0 23 4) = 0) (ha2 : ¬ (g0 23 4) = k2) : xk_CI l yzU_confirm czU_confirm 5 .boolean xk_WS xk_r2 G xk_cls (xk_tys ac) [.ref (ad 0), .int 1, .int 1, .int k2] (xk_wU ad ac g0) (fun rz (gz : xk_St) => relzU_confirm_1_1 g0 rz gz) (fun gz => xk_wU ad ac gz) := by
  refine xk_ofI (by decide) (Nat.le_of_ble_eq_true rfl) ?_
  intro p e s m args below meth c A Q H locs ls C0 hret hP hD hS hl
  obtain ⟨hx, hb, hml, hts, hown, hK, hA⟩ := C0
  have hl : lv_has ls 5 [(0, .ref (ad 0)), (1, .int 1), (2, .int 1), (3, .int k2)] := hl
  refine lv_aload_n (pc := 0) hx hb dzU_confirm_0 rfl (lv_at hl 0 rfl) ?_
  refine lv_iload_n (pc := 1) hx hb dzU_confirm_1 rfl (lv_at hl 1 rfl) ?_
  refine lv_iload_n (pc := 2) hx hb dzU_confirm_2 rfl (lv_at hl 2 rfl) ?_
  refine xk_allVR (As := [.int 1, .int 1]) (rest := []) (H0 := s.heap) (pc := 3) hx hb hml hts hown hK hA hP hD hS (kzU_findSection_1_1 l G ac ad g0) vfzU_174 0 rfl rfl ⟨rfl, rfl⟩ ⟨Nat.le_of_ble_eq_true rfl, Nat.le_of_ble_eq_true rfl⟩ rfl hl.1 rfl (Nat.le_of_ble_eq_true rfl) ⟨Nat.zero_le _, Nat.zero_le _⟩ dzU_confirm_3 (fun H locs hP hD hS => ?_)
  have hP : va_P G xk_cls (xk_wU ad ac g0) H := hP
  have hD : va_D A (xk_wU ad ac g0) := hD
  refine lv_astore (lv' := [(4, .ref (ad 23)), (0, .ref (ad 0)), (1, .int 1), (2, .int 1), (3, .int k2)]) (pc := 6) hx hb dzU_confirm_6 hl (by decide) rfl (fun ls hl => ?_)
  refine lv_iload_n (pc := 8) hx hb dzU_confirm_8 rfl (lv_at hl 4 rfl) ?_
  refine xk_callSV (As := [.int k2]) (rest := []) (H0 := s.heap) (pc := 9) hx hb hml hts hown hK hA hP hD hS (kzU_checkPerson l G ac k2 hw) sfzU_178 [] (by decide) rfl (fun _ => rfl) ⟨rfl, rfl⟩ ⟨Nat.le_of_ble_eq_true rfl, Nat.le_of_ble_eq_true rfl⟩ rfl hl.1 rfl (Nat.le_of_ble_eq_true rfl) ⟨Nat.zero_le _, Nat.zero_le _⟩ dzU_confirm_9 (fun u9 H locs e9 hP hD hS => ?_)
  have hP : va_P G xk_cls (xk_wU ad ac g0) H := hP
  have hD : va_D A (xk_wU ad ac g0) := hD
  refine lv_aload (pc := 12) hx hb dzU_confirm_12 (lv_at hl 0 rfl) ?_
  refine xk_get (pc := 14) hx hb hts hown hK hP ffzU_189 23 rfl rfl dzU_confirm_14 ?_
  refine lv_if_eq (pc := 17) (tgt := 29) hx hb dzU_confirm_17 (by decide) (fun hq9 => absurd hq9 ha1) (fun _ => ?_)
  refine lv_aload (pc := 20) hx hb dzU_confirm_20 (lv_at hl 0 rfl) ?_
  refine xk_get (pc := 22) hx hb hts hown hK hP ffzU_189 23 rfl rfl dzU_confirm_22 ?_
  refine lv_iload_n (pc := 25) hx hb dzU_confirm_25 rfl (lv_at hl 4 rfl) ?_
  refine lv_icmp_ne (pc := 26) (tgt := 39) hx hb dzU_confirm_26 (by decide) (fun _ => ?_) (fun hq9 => absurd hq9 ha2)
  refine lv_aload (pc := 39) hx hb dzU_confirm_39 (lv_at hl 0 rfl) ?_
  refine xk_callVI (As := []) (rest := []) (H0 := s.heap) (pc := 41) hx hb hml hts hown hK hA hP hD hS (kzS_isSwept l G ac (ad 23) (g0 23 0) (g0 23 1) (g0 23 2) (g0 23 3) (g0 23 4) (g0 23 5) (g0 23 6) (g0 23 7) (g0 23 8)) vfzU_194 [23] (by decide) rfl (fun _ => rfl) 23 rfl rfl ⟨rfl, rfl⟩ ⟨Nat.le_of_ble_eq_true rfl, Nat.le_of_ble_eq_true rfl⟩ rfl hl.1 rfl (Nat.le_of_ble_eq_true rfl) ⟨Nat.zero_le _, Nat.zero_le _⟩ dzU_confirm_41 (fun r1 u9 H locs e9 hP hD hS => ?_)
  obtain rfl : r1 = qzS_isSwept (g0 23 4) (g0 23 5) (g0 23 6) (g0 23 7) (g0 23 8) := e9
  have hP : va_P G xk_cls (xk_wU ad ac g0) H := hP
  have hD : va_D A (xk_wU ad ac g0) := hD
  refine lv_if_eq (pc := 44) (tgt := 60) hx hb dzU_confirm_44 (by decide) (fun h1 => ?_) (fun h1 => ?_)
  ·
    refine lv_iconst (v := 0) (pc := 60) hx hb dzU_confirm_60 (by decide) ?_
    exact hret _ g0 H locs 61 ls hP hS (xk_bn xk_b0) (by unfold relzU_confirm_1_1; exact (Eq.mpr (if_pos h1) ⟨rfl, xk_b0, rfl⟩)) dzU_confirm_61
  ·
    refine lv_aload_n (pc := 47) hx hb dzU_confirm_47 rfl (lv_at hl 1 rfl) ?_
    refine xk_get (pc := 48) hx hb hts hown hK hP ffzU_11 0 rfl rfl dzU_confirm_48 ?_
    refine lv_iload_n (pc := 51) hx hb dzU_confirm_51 rfl (lv_at hl 2 rfl) ?_
    refine xk_aald (q0 := 1) (t0 := 2) (j := 1) (b := (ad 10)) (pc := 52) hx hb hK hP rfl rfl (pk_in 1 2 (by decide)) (pk_cl 1) rfl dzU_confirm_52 ?_
    refine lv_iload_n (pc := 53) hx hb dzU_confirm_53 rfl (lv_at hl 3 rfl) ?_
    refine xk_callVI (As := [.int 1]) (rest := []) (H0 := s.heap) (pc := 54) hx hb hml hts hown hK hA hP hD hS (kzK_hasHealthyHeads_1 l G ac (ad 10) (ad 18) (ad 12) (ad 14) (ad 16) (g0 10 4) (g0 10 5) (g0 18)) vfzU_197 [10, 18] (by decide) rfl (fun _ => rfl) 10 rfl rfl ⟨rfl, rfl⟩ ⟨Nat.le_of_ble_eq_true rfl, Nat.le_of_ble_eq_true rfl⟩ rfl hl.1 rfl (Nat.le_of_ble_eq_true rfl) ⟨Nat.zero_le _, Nat.zero_le _⟩ dzU_confirm_54 (fun r2 u9 H locs e9 hP hD hS => ?_)
    obtain rfl : r2 = qzK_hasHealthyHeads_1 (g0 18) := e9
    have hP : va_P G xk_cls (xk_wU ad ac g0) H := hP
    have hD : va_D A (xk_wU ad ac g0) := hD
    refine lv_if_ne (pc := 57) (tgt := 62) hx hb dzU_confirm_57 (by decide) (fun h2 => ?_) (fun h2 => ?_)
    ·
      refine lv_aload (pc := 62) hx hb dzU_confirm_62 (lv_at hl 0 rfl) ?_
      refine xk_callVV (As := []) (rest := []) (H0 := s.heap) (pc := 64) hx hb hml hts hown hK hA hP hD hS (kzS_reset l G ac (ad 23) (g0 23 0) (g0 23 1) (g0 23 2) (g0 23 3) (g0 23 4) (g0 23 5) (g0 23 6) (g0 23 7) (g0 23 8)) vfzU_201 [23] (by decide) rfl (fun _ => rfl) 23 rfl rfl ⟨rfl, rfl⟩ ⟨Nat.le_of_ble_eq_true rfl, Nat.le_of_ble_eq_true rfl⟩ rfl hl.1 rfl (Nat.le_of_ble_eq_true rfl) ⟨Nat.zero_le _, Nat.zero_le _⟩ dzU_confirm_64 (fun u9 H locs e9 hP hD hS => ?_)
      obtain ⟨g1, eg1⟩ : ∃ z : xk_St, z = va_up g0 23 (upd (upd (upd (g0 23) 1 qzS_reset_a1) 3 qzS_reset_a3) 4 qzS_reset_a4) := ⟨_, rfl⟩
      have hP : va_P G xk_cls (xk_wU ad ac g1) H := by rw [eg1]; exact hP
      have hD : va_D A (xk_wU ad ac g1) := by rw [eg1]; exact hD
      refine lv_aload_n (pc := 67) hx hb dzU_confirm_67 rfl (lv_at hl 1 rfl) ?_
      refine xk_get (pc := 68) hx hb hts hown hK hP ffzU_37 0 rfl rfl dzU_confirm_68 ?_
      refine lv_aload_n (pc := 71) hx hb dzU_confirm_71 rfl (lv_at hl 1 rfl) ?_
      refine xk_get (pc := 72) hx hb hts hown hK hP ffzU_41 0 rfl rfl dzU_confirm_72 ?_
      refine lv_iconst (v := 2) (pc := 75) hx hb dzU_confirm_75 (by decide) ?_
      refine lv_aload (pc := 76) hx hb dzU_confirm_76 (lv_at hl 0 rfl) ?_
      refine xk_get (pc := 78) hx hb hts hown hK hP ffzU_204 23 rfl rfl dzU_confirm_78 ?_
      refine xk_callVV (As := [.int (g1 0 5), .int 2, .int (g1 23 0)]) (rest := []) (H0 := s.heap) (pc := 81) hx hb hml hts hown hK hA hP hD hS (kzJ_add l G ac (ad 5) (ad 6) (ad 7) (ad 8) (g1 5 3) (g1 6) (g1 7) (g1 8) (g1 0 5) 2 (g1 23 0)) vfzU_170 [5, 6, 7, 8] (by decide) rfl (fun _ => rfl) 5 rfl rfl ⟨rfl, rfl⟩ ⟨Nat.le_of_ble_eq_true rfl, Nat.le_of_ble_eq_true rfl⟩ rfl hl.1 rfl (Nat.le_of_ble_eq_true rfl) ⟨Nat.zero_le _, Nat.zero_le _⟩ dzU_confirm_81 (fun u9 H locs e9 hP hD hS => ?_)
      obtain ⟨g2, eg2⟩ : ∃ z : xk_St, z = va_up (va_up (va_up (va_up g1 5 (upd (g1 5) 3 (qzJ_add_a3 (g1 5 3)))) 6 (qzJ_add_b (g1 5 3) (g1 6) (g1 0 5))) 7 (qzJ_add_c (g1 5 3) (g1 7) 2)) 8 (qzJ_add_d (g1 5 3) (g1 8) (g1 23 0)) := ⟨_, rfl⟩
      have hP : va_P G xk_cls (xk_wU ad ac g2) H := by rw [eg2]; exact hP
      have hD : va_D A (xk_wU ad ac g2) := by rw [eg2]; exact hD
      refine lv_iconst (v := 1) (pc := 84) hx hb dzU_confirm_84 (by decide) ?_
      exact hret _ g2 H locs 85 ls hP hS (xk_bn xk_b1) (by unfold relzU_confirm_1_1; exact (Eq.mpr (if_neg h1) (Eq.mpr (if_neg h2) ⟨g1, eg1, ⟨g2, eg2, ⟨rfl, xk_b1, rfl⟩⟩⟩))) dzU_confirm_85
    ·
      refine lv_iconst (v := 0) (pc := 60) hx hb dzU_confirm_60 (by decide) ?_
      exact hret _ g0 H locs 61 ls hP hS (xk_bn xk_b0) (by unfold relzU_confirm_1_1; exact (Eq.mpr (if_neg h1) (Eq.mpr (if_pos h2) ⟨rfl, xk_b0, rfl⟩))) dzU_confirm_61
theorem frzU_confirm_1_1 (g0 : xk_St) (rz : Int32) (gz : xk_St) : relzU_confirm_1_1 g0 rz gz → xk_eqv [0, 1, 2, 3, 4, 9, 10, 11, 12, 13, 14, 15, 16, 17, 18, 19, 20, 21, 22, 24, 25, 26, 27, 28, 29, 30, 31, 32, 33] g0 gz := by
  intro h
  unfold relzU_confirm_1_1 at h
  have s0 : xk_eqv [0, 1, 2, 3, 4, 9, 10, 11, 12, 13, 14, 15, 16, 17, 18, 19, 20, 21, 22, 24, 25, 26, 27, 28, 29, 30, 31, 32, 33] g0 g0 := xk_eqv_rf
  by_cases hc : (qzS_isSwept (g0 23 4) (g0 23 5) (g0 23 6) (g0 23 7) (g0 23 8)) = 0
  · rw [if_pos hc] at h
    rw [h.2.2]; exact s0
  · rw [if_neg hc] at h
    by_cases hc : (qzK_hasHealthyHeads_1 (g0 18)) = 0
    · rw [if_pos hc] at h
      rw [h.2.2]; exact s0
    · rw [if_neg hc] at h
      obtain ⟨g1, u1, v2⟩ := h
      have s3 : xk_eqv [0, 1, 2, 3, 4, 9, 10, 11, 12, 13, 14, 15, 16, 17, 18, 19, 20, 21, 22, 24, 25, 26, 27, 28, 29, 30, 31, 32, 33] g0 g1 := by rw [u1]; repeat (first | exact s0 | refine xk_eqv_up (by decide) ?_)
      obtain ⟨g2, u4, v5⟩ := v2
      have s6 : xk_eqv [0, 1, 2, 3, 4, 9, 10, 11, 12, 13, 14, 15, 16, 17, 18, 19, 20, 21, 22, 24, 25, 26, 27, 28, 29, 30, 31, 32, 33] g0 g2 := by rw [u4]; repeat (first | exact s3 | refine xk_eqv_up (by decide) ?_)
      rw [v5.2.2]; exact s6

def relzU_confirm_1_2 (g0 : xk_St) (rz : Int32) (gz : xk_St) : Prop := if (qzS_isSwept (g0 24 4) (g0 24 5) (g0 24 6) (g0 24 7) (g0 24 8)) = 0 then (rz = 0 ∧ xk_b rz ∧ gz = g0) else (if (qzK_hasHealthyHeads_2 (g0 18)) = 0 then (rz = 0 ∧ xk_b rz ∧ gz = g0) else (∃ (g1 : xk_St), g1 = va_up g0 24 (upd (upd (upd (g0 24) 1 qzS_reset_a1) 3 qzS_reset_a3) 4 qzS_reset_a4) ∧ (∃ (g2 : xk_St), g2 = va_up (va_up (va_up (va_up g1 5 (upd (g1 5) 3 (qzJ_add_a3 (g1 5 3)))) 6 (qzJ_add_b (g1 5 3) (g1 6) (g1 0 5))) 7 (qzJ_add_c (g1 5 3) (g1 7) 2)) 8 (qzJ_add_d (g1 5 3) (g1 8) (g1 24 0)) ∧ (rz = 1 ∧ xk_b rz ∧ gz = g2))))
set_option maxHeartbeats 4000000 in
set_option maxRecDepth 100000 in
theorem kzU_confirm_1_2 (l : Launch) (G : va_G) (ac : Nat → ClassId) (ad : Nat → Nat) (g0 : xk_St) (k2 : Int32) (hw : 0 < k2) (ha1 : ¬ (g0 24 4) = 0) (ha2 : ¬ (g0 24 4) = k2) : xk_CI l yzU_confirm czU_confirm 5 .boolean xk_WS xk_r2 G xk_cls (xk_tys ac) [.ref (ad 0), .int 1, .int 2, .int k2] (xk_wU ad ac g0) (fun rz (gz : xk_St) => relzU_confirm_1_2 g0 rz gz) (fun gz => xk_wU ad ac gz) := by
  refine xk_ofI (by decide) (Nat.le_of_ble_eq_true rfl) ?_
  intro p e s m args below meth c A Q H locs ls C0 hret hP hD hS hl
  obtain ⟨hx, hb, hml, hts, hown, hK, hA⟩ := C0
  have hl : lv_has ls 5 [(0, .ref (ad 0)), (1, .int 1), (2, .int 2), (3, .int k2)] := hl
  refine lv_aload_n (pc := 0) hx hb dzU_confirm_0 rfl (lv_at hl 0 rfl) ?_
  refine lv_iload_n (pc := 1) hx hb dzU_confirm_1 rfl (lv_at hl 1 rfl) ?_
  refine lv_iload_n (pc := 2) hx hb dzU_confirm_2 rfl (lv_at hl 2 rfl) ?_
  refine xk_allVR (As := [.int 1, .int 2]) (rest := []) (H0 := s.heap) (pc := 3) hx hb hml hts hown hK hA hP hD hS (kzU_findSection_1_2 l G ac ad g0) vfzU_174 0 rfl rfl ⟨rfl, rfl⟩ ⟨Nat.le_of_ble_eq_true rfl, Nat.le_of_ble_eq_true rfl⟩ rfl hl.1 rfl (Nat.le_of_ble_eq_true rfl) ⟨Nat.zero_le _, Nat.zero_le _⟩ dzU_confirm_3 (fun H locs hP hD hS => ?_)
  have hP : va_P G xk_cls (xk_wU ad ac g0) H := hP
  have hD : va_D A (xk_wU ad ac g0) := hD
  refine lv_astore (lv' := [(4, .ref (ad 24)), (0, .ref (ad 0)), (1, .int 1), (2, .int 2), (3, .int k2)]) (pc := 6) hx hb dzU_confirm_6 hl (by decide) rfl (fun ls hl => ?_)
  refine lv_iload_n (pc := 8) hx hb dzU_confirm_8 rfl (lv_at hl 4 rfl) ?_
  refine xk_callSV (As := [.int k2]) (rest := []) (H0 := s.heap) (pc := 9) hx hb hml hts hown hK hA hP hD hS (kzU_checkPerson l G ac k2 hw) sfzU_178 [] (by decide) rfl (fun _ => rfl) ⟨rfl, rfl⟩ ⟨Nat.le_of_ble_eq_true rfl, Nat.le_of_ble_eq_true rfl⟩ rfl hl.1 rfl (Nat.le_of_ble_eq_true rfl) ⟨Nat.zero_le _, Nat.zero_le _⟩ dzU_confirm_9 (fun u9 H locs e9 hP hD hS => ?_)
  have hP : va_P G xk_cls (xk_wU ad ac g0) H := hP
  have hD : va_D A (xk_wU ad ac g0) := hD
  refine lv_aload (pc := 12) hx hb dzU_confirm_12 (lv_at hl 0 rfl) ?_
  refine xk_get (pc := 14) hx hb hts hown hK hP ffzU_189 24 rfl rfl dzU_confirm_14 ?_
  refine lv_if_eq (pc := 17) (tgt := 29) hx hb dzU_confirm_17 (by decide) (fun hq9 => absurd hq9 ha1) (fun _ => ?_)
  refine lv_aload (pc := 20) hx hb dzU_confirm_20 (lv_at hl 0 rfl) ?_
  refine xk_get (pc := 22) hx hb hts hown hK hP ffzU_189 24 rfl rfl dzU_confirm_22 ?_
  refine lv_iload_n (pc := 25) hx hb dzU_confirm_25 rfl (lv_at hl 4 rfl) ?_
  refine lv_icmp_ne (pc := 26) (tgt := 39) hx hb dzU_confirm_26 (by decide) (fun _ => ?_) (fun hq9 => absurd hq9 ha2)
  refine lv_aload (pc := 39) hx hb dzU_confirm_39 (lv_at hl 0 rfl) ?_
  refine xk_callVI (As := []) (rest := []) (H0 := s.heap) (pc := 41) hx hb hml hts hown hK hA hP hD hS (kzS_isSwept l G ac (ad 24) (g0 24 0) (g0 24 1) (g0 24 2) (g0 24 3) (g0 24 4) (g0 24 5) (g0 24 6) (g0 24 7) (g0 24 8)) vfzU_194 [24] (by decide) rfl (fun _ => rfl) 24 rfl rfl ⟨rfl, rfl⟩ ⟨Nat.le_of_ble_eq_true rfl, Nat.le_of_ble_eq_true rfl⟩ rfl hl.1 rfl (Nat.le_of_ble_eq_true rfl) ⟨Nat.zero_le _, Nat.zero_le _⟩ dzU_confirm_41 (fun r1 u9 H locs e9 hP hD hS => ?_)
  obtain rfl : r1 = qzS_isSwept (g0 24 4) (g0 24 5) (g0 24 6) (g0 24 7) (g0 24 8) := e9
  have hP : va_P G xk_cls (xk_wU ad ac g0) H := hP
  have hD : va_D A (xk_wU ad ac g0) := hD
  refine lv_if_eq (pc := 44) (tgt := 60) hx hb dzU_confirm_44 (by decide) (fun h1 => ?_) (fun h1 => ?_)
  ·
    refine lv_iconst (v := 0) (pc := 60) hx hb dzU_confirm_60 (by decide) ?_
    exact hret _ g0 H locs 61 ls hP hS (xk_bn xk_b0) (by unfold relzU_confirm_1_2; exact (Eq.mpr (if_pos h1) ⟨rfl, xk_b0, rfl⟩)) dzU_confirm_61
  ·
    refine lv_aload_n (pc := 47) hx hb dzU_confirm_47 rfl (lv_at hl 1 rfl) ?_
    refine xk_get (pc := 48) hx hb hts hown hK hP ffzU_11 0 rfl rfl dzU_confirm_48 ?_
    refine lv_iload_n (pc := 51) hx hb dzU_confirm_51 rfl (lv_at hl 2 rfl) ?_
    refine xk_aald (q0 := 1) (t0 := 2) (j := 1) (b := (ad 10)) (pc := 52) hx hb hK hP rfl rfl (pk_in 1 2 (by decide)) (pk_cl 1) rfl dzU_confirm_52 ?_
    refine lv_iload_n (pc := 53) hx hb dzU_confirm_53 rfl (lv_at hl 3 rfl) ?_
    refine xk_callVI (As := [.int 2]) (rest := []) (H0 := s.heap) (pc := 54) hx hb hml hts hown hK hA hP hD hS (kzK_hasHealthyHeads_2 l G ac (ad 10) (ad 18) (ad 12) (ad 14) (ad 16) (g0 10 4) (g0 10 5) (g0 18)) vfzU_197 [10, 18] (by decide) rfl (fun _ => rfl) 10 rfl rfl ⟨rfl, rfl⟩ ⟨Nat.le_of_ble_eq_true rfl, Nat.le_of_ble_eq_true rfl⟩ rfl hl.1 rfl (Nat.le_of_ble_eq_true rfl) ⟨Nat.zero_le _, Nat.zero_le _⟩ dzU_confirm_54 (fun r2 u9 H locs e9 hP hD hS => ?_)
    obtain rfl : r2 = qzK_hasHealthyHeads_2 (g0 18) := e9
    have hP : va_P G xk_cls (xk_wU ad ac g0) H := hP
    have hD : va_D A (xk_wU ad ac g0) := hD
    refine lv_if_ne (pc := 57) (tgt := 62) hx hb dzU_confirm_57 (by decide) (fun h2 => ?_) (fun h2 => ?_)
    ·
      refine lv_aload (pc := 62) hx hb dzU_confirm_62 (lv_at hl 0 rfl) ?_
      refine xk_callVV (As := []) (rest := []) (H0 := s.heap) (pc := 64) hx hb hml hts hown hK hA hP hD hS (kzS_reset l G ac (ad 24) (g0 24 0) (g0 24 1) (g0 24 2) (g0 24 3) (g0 24 4) (g0 24 5) (g0 24 6) (g0 24 7) (g0 24 8)) vfzU_201 [24] (by decide) rfl (fun _ => rfl) 24 rfl rfl ⟨rfl, rfl⟩ ⟨Nat.le_of_ble_eq_true rfl, Nat.le_of_ble_eq_true rfl⟩ rfl hl.1 rfl (Nat.le_of_ble_eq_true rfl) ⟨Nat.zero_le _, Nat.zero_le _⟩ dzU_confirm_64 (fun u9 H locs e9 hP hD hS => ?_)
      obtain ⟨g1, eg1⟩ : ∃ z : xk_St, z = va_up g0 24 (upd (upd (upd (g0 24) 1 qzS_reset_a1) 3 qzS_reset_a3) 4 qzS_reset_a4) := ⟨_, rfl⟩
      have hP : va_P G xk_cls (xk_wU ad ac g1) H := by rw [eg1]; exact hP
      have hD : va_D A (xk_wU ad ac g1) := by rw [eg1]; exact hD
      refine lv_aload_n (pc := 67) hx hb dzU_confirm_67 rfl (lv_at hl 1 rfl) ?_
      refine xk_get (pc := 68) hx hb hts hown hK hP ffzU_37 0 rfl rfl dzU_confirm_68 ?_
      refine lv_aload_n (pc := 71) hx hb dzU_confirm_71 rfl (lv_at hl 1 rfl) ?_
      refine xk_get (pc := 72) hx hb hts hown hK hP ffzU_41 0 rfl rfl dzU_confirm_72 ?_
      refine lv_iconst (v := 2) (pc := 75) hx hb dzU_confirm_75 (by decide) ?_
      refine lv_aload (pc := 76) hx hb dzU_confirm_76 (lv_at hl 0 rfl) ?_
      refine xk_get (pc := 78) hx hb hts hown hK hP ffzU_204 24 rfl rfl dzU_confirm_78 ?_
      refine xk_callVV (As := [.int (g1 0 5), .int 2, .int (g1 24 0)]) (rest := []) (H0 := s.heap) (pc := 81) hx hb hml hts hown hK hA hP hD hS (kzJ_add l G ac (ad 5) (ad 6) (ad 7) (ad 8) (g1 5 3) (g1 6) (g1 7) (g1 8) (g1 0 5) 2 (g1 24 0)) vfzU_170 [5, 6, 7, 8] (by decide) rfl (fun _ => rfl) 5 rfl rfl ⟨rfl, rfl⟩ ⟨Nat.le_of_ble_eq_true rfl, Nat.le_of_ble_eq_true rfl⟩ rfl hl.1 rfl (Nat.le_of_ble_eq_true rfl) ⟨Nat.zero_le _, Nat.zero_le _⟩ dzU_confirm_81 (fun u9 H locs e9 hP hD hS => ?_)
      obtain ⟨g2, eg2⟩ : ∃ z : xk_St, z = va_up (va_up (va_up (va_up g1 5 (upd (g1 5) 3 (qzJ_add_a3 (g1 5 3)))) 6 (qzJ_add_b (g1 5 3) (g1 6) (g1 0 5))) 7 (qzJ_add_c (g1 5 3) (g1 7) 2)) 8 (qzJ_add_d (g1 5 3) (g1 8) (g1 24 0)) := ⟨_, rfl⟩
      have hP : va_P G xk_cls (xk_wU ad ac g2) H := by rw [eg2]; exact hP
      have hD : va_D A (xk_wU ad ac g2) := by rw [eg2]; exact hD
      refine lv_iconst (v := 1) (pc := 84) hx hb dzU_confirm_84 (by decide) ?_
      exact hret _ g2 H locs 85 ls hP hS (xk_bn xk_b1) (by unfold relzU_confirm_1_2; exact (Eq.mpr (if_neg h1) (Eq.mpr (if_neg h2) ⟨g1, eg1, ⟨g2, eg2, ⟨rfl, xk_b1, rfl⟩⟩⟩))) dzU_confirm_85
    ·
      refine lv_iconst (v := 0) (pc := 60) hx hb dzU_confirm_60 (by decide) ?_
      exact hret _ g0 H locs 61 ls hP hS (xk_bn xk_b0) (by unfold relzU_confirm_1_2; exact (Eq.mpr (if_neg h1) (Eq.mpr (if_pos h2) ⟨rfl, xk_b0, rfl⟩))) dzU_confirm_61
theorem frzU_confirm_1_2 (g0 : xk_St) (rz : Int32) (gz : xk_St) : relzU_confirm_1_2 g0 rz gz → xk_eqv [0, 1, 2, 3, 4, 9, 10, 11, 12, 13, 14, 15, 16, 17, 18, 19, 20, 21, 22, 23, 25, 26, 27, 28, 29, 30, 31, 32, 33] g0 gz := by
  intro h
  unfold relzU_confirm_1_2 at h
  have s0 : xk_eqv [0, 1, 2, 3, 4, 9, 10, 11, 12, 13, 14, 15, 16, 17, 18, 19, 20, 21, 22, 23, 25, 26, 27, 28, 29, 30, 31, 32, 33] g0 g0 := xk_eqv_rf
  by_cases hc : (qzS_isSwept (g0 24 4) (g0 24 5) (g0 24 6) (g0 24 7) (g0 24 8)) = 0
  · rw [if_pos hc] at h
    rw [h.2.2]; exact s0
  · rw [if_neg hc] at h
    by_cases hc : (qzK_hasHealthyHeads_2 (g0 18)) = 0
    · rw [if_pos hc] at h
      rw [h.2.2]; exact s0
    · rw [if_neg hc] at h
      obtain ⟨g1, u1, v2⟩ := h
      have s3 : xk_eqv [0, 1, 2, 3, 4, 9, 10, 11, 12, 13, 14, 15, 16, 17, 18, 19, 20, 21, 22, 23, 25, 26, 27, 28, 29, 30, 31, 32, 33] g0 g1 := by rw [u1]; repeat (first | exact s0 | refine xk_eqv_up (by decide) ?_)
      obtain ⟨g2, u4, v5⟩ := v2
      have s6 : xk_eqv [0, 1, 2, 3, 4, 9, 10, 11, 12, 13, 14, 15, 16, 17, 18, 19, 20, 21, 22, 23, 25, 26, 27, 28, 29, 30, 31, 32, 33] g0 g2 := by rw [u4]; repeat (first | exact s3 | refine xk_eqv_up (by decide) ?_)
      rw [v5.2.2]; exact s6

def qzU_section_0_0_0 (g0 : xk_St) : Int32 := qzS_state (g0 19 1) (g0 19 3)
set_option maxHeartbeats 4000000 in
set_option maxRecDepth 100000 in
theorem kzU_section_0_0_0 (l : Launch) (G : va_G) (ac : Nat → ClassId) (ad : Nat → Nat) (g0 : xk_St) : xk_CI l yzU_section czU_section 5 .int xk_WS xk_r2 G xk_cls (xk_tys ac) [.ref (ad 0), .int 0, .int 0, .int 0] (xk_wU ad ac g0) (fun r (_ : Unit) => r = qzU_section_0_0_0 g0) (fun _ => (xk_wU ad ac g0)) := by
  refine xk_ofI (by decide) (Nat.le_of_ble_eq_true rfl) ?_
  intro p e s m args below meth c A Q H locs ls C0 hret hP hD hS hl
  obtain ⟨hx, hb, hml, hts, hown, hK, hA⟩ := C0
  have hl : lv_has ls 5 [(0, .ref (ad 0)), (1, .int 0), (2, .int 0), (3, .int 0)] := hl
  refine lv_aload_n (pc := 0) hx hb dzU_section_0 rfl (lv_at hl 0 rfl) ?_
  refine lv_iload_n (pc := 1) hx hb dzU_section_1 rfl (lv_at hl 1 rfl) ?_
  refine lv_iload_n (pc := 2) hx hb dzU_section_2 rfl (lv_at hl 2 rfl) ?_
  refine xk_allVR (As := [.int 0, .int 0]) (rest := []) (H0 := s.heap) (pc := 3) hx hb hml hts hown hK hA hP hD hS (kzU_findSection_0_0 l G ac ad g0) vfzU_174 0 rfl rfl ⟨rfl, rfl⟩ ⟨Nat.le_of_ble_eq_true rfl, Nat.le_of_ble_eq_true rfl⟩ rfl hl.1 rfl (Nat.le_of_ble_eq_true rfl) ⟨Nat.zero_le _, Nat.zero_le _⟩ dzU_section_3 (fun H locs hP hD hS => ?_)
  have hP : va_P G xk_cls (xk_wU ad ac g0) H := hP
  have hD : va_D A (xk_wU ad ac g0) := hD
  refine lv_astore (lv' := [(4, .ref (ad 19)), (0, .ref (ad 0)), (1, .int 0), (2, .int 0), (3, .int 0)]) (pc := 6) hx hb dzU_section_6 hl (by decide) rfl (fun ls hl => ?_)
  refine lv_iload_n (pc := 8) hx hb dzU_section_8 rfl (lv_at hl 4 rfl) ?_
  refine lv_tableIn (pc := 9) (tgt := 40) hx hb dzU_section_9 (by decide) (by decide) (by rfl) (by decide) ?_
  refine lv_aload (pc := 40) hx hb dzU_section_40 (lv_at hl 0 rfl) ?_
  refine xk_callVI (As := []) (rest := []) (H0 := s.heap) (pc := 42) hx hb hml hts hown hK hA hP hD hS (kzS_state l G ac (ad 19) (g0 19 0) (g0 19 1) (g0 19 2) (g0 19 3) (g0 19 4) (g0 19 5) (g0 19 6) (g0 19 7) (g0 19 8)) vfzU_162 [19] (by decide) rfl (fun _ => rfl) 19 rfl rfl ⟨rfl, rfl⟩ ⟨Nat.le_of_ble_eq_true rfl, Nat.le_of_ble_eq_true rfl⟩ rfl hl.1 rfl (Nat.le_of_ble_eq_true rfl) ⟨Nat.zero_le _, Nat.zero_le _⟩ dzU_section_42 (fun r1 u9 H locs e9 hP hD hS => ?_)
  obtain rfl : r1 = qzS_state (g0 19 1) (g0 19 3) := e9
  have hP : va_P G xk_cls (xk_wU ad ac g0) H := hP
  have hD : va_D A (xk_wU ad ac g0) := hD
  have jr : qzU_section_0_0_0 g0 = qzS_state (g0 19 1) (g0 19 3) := by unfold qzU_section_0_0_0; rfl
  exact hret _ () H locs 45 ls hP hS rfl jr.symm dzU_section_45

def qzU_section_0_0_1 (g0 : xk_St) : Int32 := g0 19 1
set_option maxHeartbeats 4000000 in
set_option maxRecDepth 100000 in
theorem kzU_section_0_0_1 (l : Launch) (G : va_G) (ac : Nat → ClassId) (ad : Nat → Nat) (g0 : xk_St) : xk_CI l yzU_section czU_section 5 .int xk_WS xk_r2 G xk_cls (xk_tys ac) [.ref (ad 0), .int 0, .int 0, .int 1] (xk_wU ad ac g0) (fun r (_ : Unit) => r = qzU_section_0_0_1 g0) (fun _ => (xk_wU ad ac g0)) := by
  refine xk_ofI (by decide) (Nat.le_of_ble_eq_true rfl) ?_
  intro p e s m args below meth c A Q H locs ls C0 hret hP hD hS hl
  obtain ⟨hx, hb, hml, hts, hown, hK, hA⟩ := C0
  have hl : lv_has ls 5 [(0, .ref (ad 0)), (1, .int 0), (2, .int 0), (3, .int 1)] := hl
  refine lv_aload_n (pc := 0) hx hb dzU_section_0 rfl (lv_at hl 0 rfl) ?_
  refine lv_iload_n (pc := 1) hx hb dzU_section_1 rfl (lv_at hl 1 rfl) ?_
  refine lv_iload_n (pc := 2) hx hb dzU_section_2 rfl (lv_at hl 2 rfl) ?_
  refine xk_allVR (As := [.int 0, .int 0]) (rest := []) (H0 := s.heap) (pc := 3) hx hb hml hts hown hK hA hP hD hS (kzU_findSection_0_0 l G ac ad g0) vfzU_174 0 rfl rfl ⟨rfl, rfl⟩ ⟨Nat.le_of_ble_eq_true rfl, Nat.le_of_ble_eq_true rfl⟩ rfl hl.1 rfl (Nat.le_of_ble_eq_true rfl) ⟨Nat.zero_le _, Nat.zero_le _⟩ dzU_section_3 (fun H locs hP hD hS => ?_)
  have hP : va_P G xk_cls (xk_wU ad ac g0) H := hP
  have hD : va_D A (xk_wU ad ac g0) := hD
  refine lv_astore (lv' := [(4, .ref (ad 19)), (0, .ref (ad 0)), (1, .int 0), (2, .int 0), (3, .int 1)]) (pc := 6) hx hb dzU_section_6 hl (by decide) rfl (fun ls hl => ?_)
  refine lv_iload_n (pc := 8) hx hb dzU_section_8 rfl (lv_at hl 4 rfl) ?_
  refine lv_tableIn (pc := 9) (tgt := 46) hx hb dzU_section_9 (by decide) (by decide) (by rfl) (by decide) ?_
  refine lv_aload (pc := 46) hx hb dzU_section_46 (lv_at hl 0 rfl) ?_
  refine xk_get (pc := 48) hx hb hts hown hK hP ffzU_207 19 rfl rfl dzU_section_48 ?_
  have jr : qzU_section_0_0_1 g0 = g0 19 1 := by unfold qzU_section_0_0_1; rfl
  exact hret _ () H locs 51 ls hP hS rfl jr.symm dzU_section_51

def qzU_section_0_0_2 (g0 : xk_St) : Int32 := (if (qzS_isSwept (g0 19 4) (g0 19 5) (g0 19 6) (g0 19 7) (g0 19 8)) = 0 then 0 else 1 : Int32)
set_option maxHeartbeats 4000000 in
set_option maxRecDepth 100000 in
theorem kzU_section_0_0_2 (l : Launch) (G : va_G) (ac : Nat → ClassId) (ad : Nat → Nat) (g0 : xk_St) : xk_CI l yzU_section czU_section 5 .int xk_WS xk_r2 G xk_cls (xk_tys ac) [.ref (ad 0), .int 0, .int 0, .int 2] (xk_wU ad ac g0) (fun r (_ : Unit) => r = qzU_section_0_0_2 g0) (fun _ => (xk_wU ad ac g0)) := by
  refine xk_ofI (by decide) (Nat.le_of_ble_eq_true rfl) ?_
  intro p e s m args below meth c A Q H locs ls C0 hret hP hD hS hl
  obtain ⟨hx, hb, hml, hts, hown, hK, hA⟩ := C0
  have hl : lv_has ls 5 [(0, .ref (ad 0)), (1, .int 0), (2, .int 0), (3, .int 2)] := hl
  refine lv_aload_n (pc := 0) hx hb dzU_section_0 rfl (lv_at hl 0 rfl) ?_
  refine lv_iload_n (pc := 1) hx hb dzU_section_1 rfl (lv_at hl 1 rfl) ?_
  refine lv_iload_n (pc := 2) hx hb dzU_section_2 rfl (lv_at hl 2 rfl) ?_
  refine xk_allVR (As := [.int 0, .int 0]) (rest := []) (H0 := s.heap) (pc := 3) hx hb hml hts hown hK hA hP hD hS (kzU_findSection_0_0 l G ac ad g0) vfzU_174 0 rfl rfl ⟨rfl, rfl⟩ ⟨Nat.le_of_ble_eq_true rfl, Nat.le_of_ble_eq_true rfl⟩ rfl hl.1 rfl (Nat.le_of_ble_eq_true rfl) ⟨Nat.zero_le _, Nat.zero_le _⟩ dzU_section_3 (fun H locs hP hD hS => ?_)
  have hP : va_P G xk_cls (xk_wU ad ac g0) H := hP
  have hD : va_D A (xk_wU ad ac g0) := hD
  refine lv_astore (lv' := [(4, .ref (ad 19)), (0, .ref (ad 0)), (1, .int 0), (2, .int 0), (3, .int 2)]) (pc := 6) hx hb dzU_section_6 hl (by decide) rfl (fun ls hl => ?_)
  refine lv_iload_n (pc := 8) hx hb dzU_section_8 rfl (lv_at hl 4 rfl) ?_
  refine lv_tableIn (pc := 9) (tgt := 52) hx hb dzU_section_9 (by decide) (by decide) (by rfl) (by decide) ?_
  refine lv_aload (pc := 52) hx hb dzU_section_52 (lv_at hl 0 rfl) ?_
  refine xk_callVI (As := []) (rest := []) (H0 := s.heap) (pc := 54) hx hb hml hts hown hK hA hP hD hS (kzS_isSwept l G ac (ad 19) (g0 19 0) (g0 19 1) (g0 19 2) (g0 19 3) (g0 19 4) (g0 19 5) (g0 19 6) (g0 19 7) (g0 19 8)) vfzU_194 [19] (by decide) rfl (fun _ => rfl) 19 rfl rfl ⟨rfl, rfl⟩ ⟨Nat.le_of_ble_eq_true rfl, Nat.le_of_ble_eq_true rfl⟩ rfl hl.1 rfl (Nat.le_of_ble_eq_true rfl) ⟨Nat.zero_le _, Nat.zero_le _⟩ dzU_section_54 (fun r1 u9 H locs e9 hP hD hS => ?_)
  obtain rfl : r1 = qzS_isSwept (g0 19 4) (g0 19 5) (g0 19 6) (g0 19 7) (g0 19 8) := e9
  have hP : va_P G xk_cls (xk_wU ad ac g0) H := hP
  have hD : va_D A (xk_wU ad ac g0) := hD
  have K1 : W p l e xk_r2 s m args below meth c H locs 0 0 Q (F0 m 65 ls [.int (if (qzS_isSwept (g0 19 4) (g0 19 5) (g0 19 6) (g0 19 7) (g0 19 8)) = 0 then 0 else 1 : Int32)]) := by
    have jr : qzU_section_0_0_2 g0 = (if (qzS_isSwept (g0 19 4) (g0 19 5) (g0 19 6) (g0 19 7) (g0 19 8)) = 0 then 0 else 1 : Int32) := by unfold qzU_section_0_0_2; rfl
    exact hret _ () H locs 65 ls hP hS rfl jr.symm dzU_section_65
  refine lv_if_eq (pc := 57) (tgt := 64) hx hb dzU_section_57 (by decide) (fun h1 => ?_) (fun h1 => ?_)
  ·
    refine lv_iconst (v := 0) (pc := 64) hx hb dzU_section_64 (by decide) ?_
    have K9 := K1
    try simp only [if_pos h1] at K9
    first | exact K9 | (simp only [if_pos h1]; exact K9)
  ·
    refine lv_iconst (v := 1) (pc := 60) hx hb dzU_section_60 (by decide) ?_
    refine lv_goto (tgt := 65) (pc := 61) hx hb dzU_section_61 (by decide) ?_
    have K9 := K1
    try simp only [if_neg h1] at K9
    first | exact K9 | (simp only [if_neg h1]; exact K9)

def qzU_section_0_0_3 (g0 : xk_St) : Int32 := g0 19 4
set_option maxHeartbeats 4000000 in
set_option maxRecDepth 100000 in
theorem kzU_section_0_0_3 (l : Launch) (G : va_G) (ac : Nat → ClassId) (ad : Nat → Nat) (g0 : xk_St) : xk_CI l yzU_section czU_section 5 .int xk_WS xk_r2 G xk_cls (xk_tys ac) [.ref (ad 0), .int 0, .int 0, .int 3] (xk_wU ad ac g0) (fun r (_ : Unit) => r = qzU_section_0_0_3 g0) (fun _ => (xk_wU ad ac g0)) := by
  refine xk_ofI (by decide) (Nat.le_of_ble_eq_true rfl) ?_
  intro p e s m args below meth c A Q H locs ls C0 hret hP hD hS hl
  obtain ⟨hx, hb, hml, hts, hown, hK, hA⟩ := C0
  have hl : lv_has ls 5 [(0, .ref (ad 0)), (1, .int 0), (2, .int 0), (3, .int 3)] := hl
  refine lv_aload_n (pc := 0) hx hb dzU_section_0 rfl (lv_at hl 0 rfl) ?_
  refine lv_iload_n (pc := 1) hx hb dzU_section_1 rfl (lv_at hl 1 rfl) ?_
  refine lv_iload_n (pc := 2) hx hb dzU_section_2 rfl (lv_at hl 2 rfl) ?_
  refine xk_allVR (As := [.int 0, .int 0]) (rest := []) (H0 := s.heap) (pc := 3) hx hb hml hts hown hK hA hP hD hS (kzU_findSection_0_0 l G ac ad g0) vfzU_174 0 rfl rfl ⟨rfl, rfl⟩ ⟨Nat.le_of_ble_eq_true rfl, Nat.le_of_ble_eq_true rfl⟩ rfl hl.1 rfl (Nat.le_of_ble_eq_true rfl) ⟨Nat.zero_le _, Nat.zero_le _⟩ dzU_section_3 (fun H locs hP hD hS => ?_)
  have hP : va_P G xk_cls (xk_wU ad ac g0) H := hP
  have hD : va_D A (xk_wU ad ac g0) := hD
  refine lv_astore (lv' := [(4, .ref (ad 19)), (0, .ref (ad 0)), (1, .int 0), (2, .int 0), (3, .int 3)]) (pc := 6) hx hb dzU_section_6 hl (by decide) rfl (fun ls hl => ?_)
  refine lv_iload_n (pc := 8) hx hb dzU_section_8 rfl (lv_at hl 4 rfl) ?_
  refine lv_tableIn (pc := 9) (tgt := 66) hx hb dzU_section_9 (by decide) (by decide) (by rfl) (by decide) ?_
  refine lv_aload (pc := 66) hx hb dzU_section_66 (lv_at hl 0 rfl) ?_
  refine xk_get (pc := 68) hx hb hts hown hK hP ffzU_189 19 rfl rfl dzU_section_68 ?_
  have jr : qzU_section_0_0_3 g0 = g0 19 4 := by unfold qzU_section_0_0_3; rfl
  exact hret _ () H locs 71 ls hP hS rfl jr.symm dzU_section_71

def qzU_section_0_1_0 (g0 : xk_St) : Int32 := qzS_state (g0 20 1) (g0 20 3)
set_option maxHeartbeats 4000000 in
set_option maxRecDepth 100000 in
theorem kzU_section_0_1_0 (l : Launch) (G : va_G) (ac : Nat → ClassId) (ad : Nat → Nat) (g0 : xk_St) : xk_CI l yzU_section czU_section 5 .int xk_WS xk_r2 G xk_cls (xk_tys ac) [.ref (ad 0), .int 0, .int 1, .int 0] (xk_wU ad ac g0) (fun r (_ : Unit) => r = qzU_section_0_1_0 g0) (fun _ => (xk_wU ad ac g0)) := by
  refine xk_ofI (by decide) (Nat.le_of_ble_eq_true rfl) ?_
  intro p e s m args below meth c A Q H locs ls C0 hret hP hD hS hl
  obtain ⟨hx, hb, hml, hts, hown, hK, hA⟩ := C0
  have hl : lv_has ls 5 [(0, .ref (ad 0)), (1, .int 0), (2, .int 1), (3, .int 0)] := hl
  refine lv_aload_n (pc := 0) hx hb dzU_section_0 rfl (lv_at hl 0 rfl) ?_
  refine lv_iload_n (pc := 1) hx hb dzU_section_1 rfl (lv_at hl 1 rfl) ?_
  refine lv_iload_n (pc := 2) hx hb dzU_section_2 rfl (lv_at hl 2 rfl) ?_
  refine xk_allVR (As := [.int 0, .int 1]) (rest := []) (H0 := s.heap) (pc := 3) hx hb hml hts hown hK hA hP hD hS (kzU_findSection_0_1 l G ac ad g0) vfzU_174 0 rfl rfl ⟨rfl, rfl⟩ ⟨Nat.le_of_ble_eq_true rfl, Nat.le_of_ble_eq_true rfl⟩ rfl hl.1 rfl (Nat.le_of_ble_eq_true rfl) ⟨Nat.zero_le _, Nat.zero_le _⟩ dzU_section_3 (fun H locs hP hD hS => ?_)
  have hP : va_P G xk_cls (xk_wU ad ac g0) H := hP
  have hD : va_D A (xk_wU ad ac g0) := hD
  refine lv_astore (lv' := [(4, .ref (ad 20)), (0, .ref (ad 0)), (1, .int 0), (2, .int 1), (3, .int 0)]) (pc := 6) hx hb dzU_section_6 hl (by decide) rfl (fun ls hl => ?_)
  refine lv_iload_n (pc := 8) hx hb dzU_section_8 rfl (lv_at hl 4 rfl) ?_
  refine lv_tableIn (pc := 9) (tgt := 40) hx hb dzU_section_9 (by decide) (by decide) (by rfl) (by decide) ?_
  refine lv_aload (pc := 40) hx hb dzU_section_40 (lv_at hl 0 rfl) ?_
  refine xk_callVI (As := []) (rest := []) (H0 := s.heap) (pc := 42) hx hb hml hts hown hK hA hP hD hS (kzS_state l G ac (ad 20) (g0 20 0) (g0 20 1) (g0 20 2) (g0 20 3) (g0 20 4) (g0 20 5) (g0 20 6) (g0 20 7) (g0 20 8)) vfzU_162 [20] (by decide) rfl (fun _ => rfl) 20 rfl rfl ⟨rfl, rfl⟩ ⟨Nat.le_of_ble_eq_true rfl, Nat.le_of_ble_eq_true rfl⟩ rfl hl.1 rfl (Nat.le_of_ble_eq_true rfl) ⟨Nat.zero_le _, Nat.zero_le _⟩ dzU_section_42 (fun r1 u9 H locs e9 hP hD hS => ?_)
  obtain rfl : r1 = qzS_state (g0 20 1) (g0 20 3) := e9
  have hP : va_P G xk_cls (xk_wU ad ac g0) H := hP
  have hD : va_D A (xk_wU ad ac g0) := hD
  have jr : qzU_section_0_1_0 g0 = qzS_state (g0 20 1) (g0 20 3) := by unfold qzU_section_0_1_0; rfl
  exact hret _ () H locs 45 ls hP hS rfl jr.symm dzU_section_45

def qzU_section_0_1_1 (g0 : xk_St) : Int32 := g0 20 1
set_option maxHeartbeats 4000000 in
set_option maxRecDepth 100000 in
theorem kzU_section_0_1_1 (l : Launch) (G : va_G) (ac : Nat → ClassId) (ad : Nat → Nat) (g0 : xk_St) : xk_CI l yzU_section czU_section 5 .int xk_WS xk_r2 G xk_cls (xk_tys ac) [.ref (ad 0), .int 0, .int 1, .int 1] (xk_wU ad ac g0) (fun r (_ : Unit) => r = qzU_section_0_1_1 g0) (fun _ => (xk_wU ad ac g0)) := by
  refine xk_ofI (by decide) (Nat.le_of_ble_eq_true rfl) ?_
  intro p e s m args below meth c A Q H locs ls C0 hret hP hD hS hl
  obtain ⟨hx, hb, hml, hts, hown, hK, hA⟩ := C0
  have hl : lv_has ls 5 [(0, .ref (ad 0)), (1, .int 0), (2, .int 1), (3, .int 1)] := hl
  refine lv_aload_n (pc := 0) hx hb dzU_section_0 rfl (lv_at hl 0 rfl) ?_
  refine lv_iload_n (pc := 1) hx hb dzU_section_1 rfl (lv_at hl 1 rfl) ?_
  refine lv_iload_n (pc := 2) hx hb dzU_section_2 rfl (lv_at hl 2 rfl) ?_
  refine xk_allVR (As := [.int 0, .int 1]) (rest := []) (H0 := s.heap) (pc := 3) hx hb hml hts hown hK hA hP hD hS (kzU_findSection_0_1 l G ac ad g0) vfzU_174 0 rfl rfl ⟨rfl, rfl⟩ ⟨Nat.le_of_ble_eq_true rfl, Nat.le_of_ble_eq_true rfl⟩ rfl hl.1 rfl (Nat.le_of_ble_eq_true rfl) ⟨Nat.zero_le _, Nat.zero_le _⟩ dzU_section_3 (fun H locs hP hD hS => ?_)
  have hP : va_P G xk_cls (xk_wU ad ac g0) H := hP
  have hD : va_D A (xk_wU ad ac g0) := hD
  refine lv_astore (lv' := [(4, .ref (ad 20)), (0, .ref (ad 0)), (1, .int 0), (2, .int 1), (3, .int 1)]) (pc := 6) hx hb dzU_section_6 hl (by decide) rfl (fun ls hl => ?_)
  refine lv_iload_n (pc := 8) hx hb dzU_section_8 rfl (lv_at hl 4 rfl) ?_
  refine lv_tableIn (pc := 9) (tgt := 46) hx hb dzU_section_9 (by decide) (by decide) (by rfl) (by decide) ?_
  refine lv_aload (pc := 46) hx hb dzU_section_46 (lv_at hl 0 rfl) ?_
  refine xk_get (pc := 48) hx hb hts hown hK hP ffzU_207 20 rfl rfl dzU_section_48 ?_
  have jr : qzU_section_0_1_1 g0 = g0 20 1 := by unfold qzU_section_0_1_1; rfl
  exact hret _ () H locs 51 ls hP hS rfl jr.symm dzU_section_51

def qzU_section_0_1_2 (g0 : xk_St) : Int32 := (if (qzS_isSwept (g0 20 4) (g0 20 5) (g0 20 6) (g0 20 7) (g0 20 8)) = 0 then 0 else 1 : Int32)
set_option maxHeartbeats 4000000 in
set_option maxRecDepth 100000 in
theorem kzU_section_0_1_2 (l : Launch) (G : va_G) (ac : Nat → ClassId) (ad : Nat → Nat) (g0 : xk_St) : xk_CI l yzU_section czU_section 5 .int xk_WS xk_r2 G xk_cls (xk_tys ac) [.ref (ad 0), .int 0, .int 1, .int 2] (xk_wU ad ac g0) (fun r (_ : Unit) => r = qzU_section_0_1_2 g0) (fun _ => (xk_wU ad ac g0)) := by
  refine xk_ofI (by decide) (Nat.le_of_ble_eq_true rfl) ?_
  intro p e s m args below meth c A Q H locs ls C0 hret hP hD hS hl
  obtain ⟨hx, hb, hml, hts, hown, hK, hA⟩ := C0
  have hl : lv_has ls 5 [(0, .ref (ad 0)), (1, .int 0), (2, .int 1), (3, .int 2)] := hl
  refine lv_aload_n (pc := 0) hx hb dzU_section_0 rfl (lv_at hl 0 rfl) ?_
  refine lv_iload_n (pc := 1) hx hb dzU_section_1 rfl (lv_at hl 1 rfl) ?_
  refine lv_iload_n (pc := 2) hx hb dzU_section_2 rfl (lv_at hl 2 rfl) ?_
  refine xk_allVR (As := [.int 0, .int 1]) (rest := []) (H0 := s.heap) (pc := 3) hx hb hml hts hown hK hA hP hD hS (kzU_findSection_0_1 l G ac ad g0) vfzU_174 0 rfl rfl ⟨rfl, rfl⟩ ⟨Nat.le_of_ble_eq_true rfl, Nat.le_of_ble_eq_true rfl⟩ rfl hl.1 rfl (Nat.le_of_ble_eq_true rfl) ⟨Nat.zero_le _, Nat.zero_le _⟩ dzU_section_3 (fun H locs hP hD hS => ?_)
  have hP : va_P G xk_cls (xk_wU ad ac g0) H := hP
  have hD : va_D A (xk_wU ad ac g0) := hD
  refine lv_astore (lv' := [(4, .ref (ad 20)), (0, .ref (ad 0)), (1, .int 0), (2, .int 1), (3, .int 2)]) (pc := 6) hx hb dzU_section_6 hl (by decide) rfl (fun ls hl => ?_)
  refine lv_iload_n (pc := 8) hx hb dzU_section_8 rfl (lv_at hl 4 rfl) ?_
  refine lv_tableIn (pc := 9) (tgt := 52) hx hb dzU_section_9 (by decide) (by decide) (by rfl) (by decide) ?_
  refine lv_aload (pc := 52) hx hb dzU_section_52 (lv_at hl 0 rfl) ?_
  refine xk_callVI (As := []) (rest := []) (H0 := s.heap) (pc := 54) hx hb hml hts hown hK hA hP hD hS (kzS_isSwept l G ac (ad 20) (g0 20 0) (g0 20 1) (g0 20 2) (g0 20 3) (g0 20 4) (g0 20 5) (g0 20 6) (g0 20 7) (g0 20 8)) vfzU_194 [20] (by decide) rfl (fun _ => rfl) 20 rfl rfl ⟨rfl, rfl⟩ ⟨Nat.le_of_ble_eq_true rfl, Nat.le_of_ble_eq_true rfl⟩ rfl hl.1 rfl (Nat.le_of_ble_eq_true rfl) ⟨Nat.zero_le _, Nat.zero_le _⟩ dzU_section_54 (fun r1 u9 H locs e9 hP hD hS => ?_)
  obtain rfl : r1 = qzS_isSwept (g0 20 4) (g0 20 5) (g0 20 6) (g0 20 7) (g0 20 8) := e9
  have hP : va_P G xk_cls (xk_wU ad ac g0) H := hP
  have hD : va_D A (xk_wU ad ac g0) := hD
  have K1 : W p l e xk_r2 s m args below meth c H locs 0 0 Q (F0 m 65 ls [.int (if (qzS_isSwept (g0 20 4) (g0 20 5) (g0 20 6) (g0 20 7) (g0 20 8)) = 0 then 0 else 1 : Int32)]) := by
    have jr : qzU_section_0_1_2 g0 = (if (qzS_isSwept (g0 20 4) (g0 20 5) (g0 20 6) (g0 20 7) (g0 20 8)) = 0 then 0 else 1 : Int32) := by unfold qzU_section_0_1_2; rfl
    exact hret _ () H locs 65 ls hP hS rfl jr.symm dzU_section_65
  refine lv_if_eq (pc := 57) (tgt := 64) hx hb dzU_section_57 (by decide) (fun h1 => ?_) (fun h1 => ?_)
  ·
    refine lv_iconst (v := 0) (pc := 64) hx hb dzU_section_64 (by decide) ?_
    have K9 := K1
    try simp only [if_pos h1] at K9
    first | exact K9 | (simp only [if_pos h1]; exact K9)
  ·
    refine lv_iconst (v := 1) (pc := 60) hx hb dzU_section_60 (by decide) ?_
    refine lv_goto (tgt := 65) (pc := 61) hx hb dzU_section_61 (by decide) ?_
    have K9 := K1
    try simp only [if_neg h1] at K9
    first | exact K9 | (simp only [if_neg h1]; exact K9)

def qzU_section_0_1_3 (g0 : xk_St) : Int32 := g0 20 4
set_option maxHeartbeats 4000000 in
set_option maxRecDepth 100000 in
theorem kzU_section_0_1_3 (l : Launch) (G : va_G) (ac : Nat → ClassId) (ad : Nat → Nat) (g0 : xk_St) : xk_CI l yzU_section czU_section 5 .int xk_WS xk_r2 G xk_cls (xk_tys ac) [.ref (ad 0), .int 0, .int 1, .int 3] (xk_wU ad ac g0) (fun r (_ : Unit) => r = qzU_section_0_1_3 g0) (fun _ => (xk_wU ad ac g0)) := by
  refine xk_ofI (by decide) (Nat.le_of_ble_eq_true rfl) ?_
  intro p e s m args below meth c A Q H locs ls C0 hret hP hD hS hl
  obtain ⟨hx, hb, hml, hts, hown, hK, hA⟩ := C0
  have hl : lv_has ls 5 [(0, .ref (ad 0)), (1, .int 0), (2, .int 1), (3, .int 3)] := hl
  refine lv_aload_n (pc := 0) hx hb dzU_section_0 rfl (lv_at hl 0 rfl) ?_
  refine lv_iload_n (pc := 1) hx hb dzU_section_1 rfl (lv_at hl 1 rfl) ?_
  refine lv_iload_n (pc := 2) hx hb dzU_section_2 rfl (lv_at hl 2 rfl) ?_
  refine xk_allVR (As := [.int 0, .int 1]) (rest := []) (H0 := s.heap) (pc := 3) hx hb hml hts hown hK hA hP hD hS (kzU_findSection_0_1 l G ac ad g0) vfzU_174 0 rfl rfl ⟨rfl, rfl⟩ ⟨Nat.le_of_ble_eq_true rfl, Nat.le_of_ble_eq_true rfl⟩ rfl hl.1 rfl (Nat.le_of_ble_eq_true rfl) ⟨Nat.zero_le _, Nat.zero_le _⟩ dzU_section_3 (fun H locs hP hD hS => ?_)
  have hP : va_P G xk_cls (xk_wU ad ac g0) H := hP
  have hD : va_D A (xk_wU ad ac g0) := hD
  refine lv_astore (lv' := [(4, .ref (ad 20)), (0, .ref (ad 0)), (1, .int 0), (2, .int 1), (3, .int 3)]) (pc := 6) hx hb dzU_section_6 hl (by decide) rfl (fun ls hl => ?_)
  refine lv_iload_n (pc := 8) hx hb dzU_section_8 rfl (lv_at hl 4 rfl) ?_
  refine lv_tableIn (pc := 9) (tgt := 66) hx hb dzU_section_9 (by decide) (by decide) (by rfl) (by decide) ?_
  refine lv_aload (pc := 66) hx hb dzU_section_66 (lv_at hl 0 rfl) ?_
  refine xk_get (pc := 68) hx hb hts hown hK hP ffzU_189 20 rfl rfl dzU_section_68 ?_
  have jr : qzU_section_0_1_3 g0 = g0 20 4 := by unfold qzU_section_0_1_3; rfl
  exact hret _ () H locs 71 ls hP hS rfl jr.symm dzU_section_71

def qzU_section_0_2_0 (g0 : xk_St) : Int32 := qzS_state (g0 21 1) (g0 21 3)
set_option maxHeartbeats 4000000 in
set_option maxRecDepth 100000 in
theorem kzU_section_0_2_0 (l : Launch) (G : va_G) (ac : Nat → ClassId) (ad : Nat → Nat) (g0 : xk_St) : xk_CI l yzU_section czU_section 5 .int xk_WS xk_r2 G xk_cls (xk_tys ac) [.ref (ad 0), .int 0, .int 2, .int 0] (xk_wU ad ac g0) (fun r (_ : Unit) => r = qzU_section_0_2_0 g0) (fun _ => (xk_wU ad ac g0)) := by
  refine xk_ofI (by decide) (Nat.le_of_ble_eq_true rfl) ?_
  intro p e s m args below meth c A Q H locs ls C0 hret hP hD hS hl
  obtain ⟨hx, hb, hml, hts, hown, hK, hA⟩ := C0
  have hl : lv_has ls 5 [(0, .ref (ad 0)), (1, .int 0), (2, .int 2), (3, .int 0)] := hl
  refine lv_aload_n (pc := 0) hx hb dzU_section_0 rfl (lv_at hl 0 rfl) ?_
  refine lv_iload_n (pc := 1) hx hb dzU_section_1 rfl (lv_at hl 1 rfl) ?_
  refine lv_iload_n (pc := 2) hx hb dzU_section_2 rfl (lv_at hl 2 rfl) ?_
  refine xk_allVR (As := [.int 0, .int 2]) (rest := []) (H0 := s.heap) (pc := 3) hx hb hml hts hown hK hA hP hD hS (kzU_findSection_0_2 l G ac ad g0) vfzU_174 0 rfl rfl ⟨rfl, rfl⟩ ⟨Nat.le_of_ble_eq_true rfl, Nat.le_of_ble_eq_true rfl⟩ rfl hl.1 rfl (Nat.le_of_ble_eq_true rfl) ⟨Nat.zero_le _, Nat.zero_le _⟩ dzU_section_3 (fun H locs hP hD hS => ?_)
  have hP : va_P G xk_cls (xk_wU ad ac g0) H := hP
  have hD : va_D A (xk_wU ad ac g0) := hD
  refine lv_astore (lv' := [(4, .ref (ad 21)), (0, .ref (ad 0)), (1, .int 0), (2, .int 2), (3, .int 0)]) (pc := 6) hx hb dzU_section_6 hl (by decide) rfl (fun ls hl => ?_)
  refine lv_iload_n (pc := 8) hx hb dzU_section_8 rfl (lv_at hl 4 rfl) ?_
  refine lv_tableIn (pc := 9) (tgt := 40) hx hb dzU_section_9 (by decide) (by decide) (by rfl) (by decide) ?_
  refine lv_aload (pc := 40) hx hb dzU_section_40 (lv_at hl 0 rfl) ?_
  refine xk_callVI (As := []) (rest := []) (H0 := s.heap) (pc := 42) hx hb hml hts hown hK hA hP hD hS (kzS_state l G ac (ad 21) (g0 21 0) (g0 21 1) (g0 21 2) (g0 21 3) (g0 21 4) (g0 21 5) (g0 21 6) (g0 21 7) (g0 21 8)) vfzU_162 [21] (by decide) rfl (fun _ => rfl) 21 rfl rfl ⟨rfl, rfl⟩ ⟨Nat.le_of_ble_eq_true rfl, Nat.le_of_ble_eq_true rfl⟩ rfl hl.1 rfl (Nat.le_of_ble_eq_true rfl) ⟨Nat.zero_le _, Nat.zero_le _⟩ dzU_section_42 (fun r1 u9 H locs e9 hP hD hS => ?_)
  obtain rfl : r1 = qzS_state (g0 21 1) (g0 21 3) := e9
  have hP : va_P G xk_cls (xk_wU ad ac g0) H := hP
  have hD : va_D A (xk_wU ad ac g0) := hD
  have jr : qzU_section_0_2_0 g0 = qzS_state (g0 21 1) (g0 21 3) := by unfold qzU_section_0_2_0; rfl
  exact hret _ () H locs 45 ls hP hS rfl jr.symm dzU_section_45

def qzU_section_0_2_1 (g0 : xk_St) : Int32 := g0 21 1
set_option maxHeartbeats 4000000 in
set_option maxRecDepth 100000 in
theorem kzU_section_0_2_1 (l : Launch) (G : va_G) (ac : Nat → ClassId) (ad : Nat → Nat) (g0 : xk_St) : xk_CI l yzU_section czU_section 5 .int xk_WS xk_r2 G xk_cls (xk_tys ac) [.ref (ad 0), .int 0, .int 2, .int 1] (xk_wU ad ac g0) (fun r (_ : Unit) => r = qzU_section_0_2_1 g0) (fun _ => (xk_wU ad ac g0)) := by
  refine xk_ofI (by decide) (Nat.le_of_ble_eq_true rfl) ?_
  intro p e s m args below meth c A Q H locs ls C0 hret hP hD hS hl
  obtain ⟨hx, hb, hml, hts, hown, hK, hA⟩ := C0
  have hl : lv_has ls 5 [(0, .ref (ad 0)), (1, .int 0), (2, .int 2), (3, .int 1)] := hl
  refine lv_aload_n (pc := 0) hx hb dzU_section_0 rfl (lv_at hl 0 rfl) ?_
  refine lv_iload_n (pc := 1) hx hb dzU_section_1 rfl (lv_at hl 1 rfl) ?_
  refine lv_iload_n (pc := 2) hx hb dzU_section_2 rfl (lv_at hl 2 rfl) ?_
  refine xk_allVR (As := [.int 0, .int 2]) (rest := []) (H0 := s.heap) (pc := 3) hx hb hml hts hown hK hA hP hD hS (kzU_findSection_0_2 l G ac ad g0) vfzU_174 0 rfl rfl ⟨rfl, rfl⟩ ⟨Nat.le_of_ble_eq_true rfl, Nat.le_of_ble_eq_true rfl⟩ rfl hl.1 rfl (Nat.le_of_ble_eq_true rfl) ⟨Nat.zero_le _, Nat.zero_le _⟩ dzU_section_3 (fun H locs hP hD hS => ?_)
  have hP : va_P G xk_cls (xk_wU ad ac g0) H := hP
  have hD : va_D A (xk_wU ad ac g0) := hD
  refine lv_astore (lv' := [(4, .ref (ad 21)), (0, .ref (ad 0)), (1, .int 0), (2, .int 2), (3, .int 1)]) (pc := 6) hx hb dzU_section_6 hl (by decide) rfl (fun ls hl => ?_)
  refine lv_iload_n (pc := 8) hx hb dzU_section_8 rfl (lv_at hl 4 rfl) ?_
  refine lv_tableIn (pc := 9) (tgt := 46) hx hb dzU_section_9 (by decide) (by decide) (by rfl) (by decide) ?_
  refine lv_aload (pc := 46) hx hb dzU_section_46 (lv_at hl 0 rfl) ?_
  refine xk_get (pc := 48) hx hb hts hown hK hP ffzU_207 21 rfl rfl dzU_section_48 ?_
  have jr : qzU_section_0_2_1 g0 = g0 21 1 := by unfold qzU_section_0_2_1; rfl
  exact hret _ () H locs 51 ls hP hS rfl jr.symm dzU_section_51

def qzU_section_0_2_2 (g0 : xk_St) : Int32 := (if (qzS_isSwept (g0 21 4) (g0 21 5) (g0 21 6) (g0 21 7) (g0 21 8)) = 0 then 0 else 1 : Int32)
set_option maxHeartbeats 4000000 in
set_option maxRecDepth 100000 in
theorem kzU_section_0_2_2 (l : Launch) (G : va_G) (ac : Nat → ClassId) (ad : Nat → Nat) (g0 : xk_St) : xk_CI l yzU_section czU_section 5 .int xk_WS xk_r2 G xk_cls (xk_tys ac) [.ref (ad 0), .int 0, .int 2, .int 2] (xk_wU ad ac g0) (fun r (_ : Unit) => r = qzU_section_0_2_2 g0) (fun _ => (xk_wU ad ac g0)) := by
  refine xk_ofI (by decide) (Nat.le_of_ble_eq_true rfl) ?_
  intro p e s m args below meth c A Q H locs ls C0 hret hP hD hS hl
  obtain ⟨hx, hb, hml, hts, hown, hK, hA⟩ := C0
  have hl : lv_has ls 5 [(0, .ref (ad 0)), (1, .int 0), (2, .int 2), (3, .int 2)] := hl
  refine lv_aload_n (pc := 0) hx hb dzU_section_0 rfl (lv_at hl 0 rfl) ?_
  refine lv_iload_n (pc := 1) hx hb dzU_section_1 rfl (lv_at hl 1 rfl) ?_
  refine lv_iload_n (pc := 2) hx hb dzU_section_2 rfl (lv_at hl 2 rfl) ?_
  refine xk_allVR (As := [.int 0, .int 2]) (rest := []) (H0 := s.heap) (pc := 3) hx hb hml hts hown hK hA hP hD hS (kzU_findSection_0_2 l G ac ad g0) vfzU_174 0 rfl rfl ⟨rfl, rfl⟩ ⟨Nat.le_of_ble_eq_true rfl, Nat.le_of_ble_eq_true rfl⟩ rfl hl.1 rfl (Nat.le_of_ble_eq_true rfl) ⟨Nat.zero_le _, Nat.zero_le _⟩ dzU_section_3 (fun H locs hP hD hS => ?_)
  have hP : va_P G xk_cls (xk_wU ad ac g0) H := hP
  have hD : va_D A (xk_wU ad ac g0) := hD
  refine lv_astore (lv' := [(4, .ref (ad 21)), (0, .ref (ad 0)), (1, .int 0), (2, .int 2), (3, .int 2)]) (pc := 6) hx hb dzU_section_6 hl (by decide) rfl (fun ls hl => ?_)
  refine lv_iload_n (pc := 8) hx hb dzU_section_8 rfl (lv_at hl 4 rfl) ?_
  refine lv_tableIn (pc := 9) (tgt := 52) hx hb dzU_section_9 (by decide) (by decide) (by rfl) (by decide) ?_
  refine lv_aload (pc := 52) hx hb dzU_section_52 (lv_at hl 0 rfl) ?_
  refine xk_callVI (As := []) (rest := []) (H0 := s.heap) (pc := 54) hx hb hml hts hown hK hA hP hD hS (kzS_isSwept l G ac (ad 21) (g0 21 0) (g0 21 1) (g0 21 2) (g0 21 3) (g0 21 4) (g0 21 5) (g0 21 6) (g0 21 7) (g0 21 8)) vfzU_194 [21] (by decide) rfl (fun _ => rfl) 21 rfl rfl ⟨rfl, rfl⟩ ⟨Nat.le_of_ble_eq_true rfl, Nat.le_of_ble_eq_true rfl⟩ rfl hl.1 rfl (Nat.le_of_ble_eq_true rfl) ⟨Nat.zero_le _, Nat.zero_le _⟩ dzU_section_54 (fun r1 u9 H locs e9 hP hD hS => ?_)
  obtain rfl : r1 = qzS_isSwept (g0 21 4) (g0 21 5) (g0 21 6) (g0 21 7) (g0 21 8) := e9
  have hP : va_P G xk_cls (xk_wU ad ac g0) H := hP
  have hD : va_D A (xk_wU ad ac g0) := hD
  have K1 : W p l e xk_r2 s m args below meth c H locs 0 0 Q (F0 m 65 ls [.int (if (qzS_isSwept (g0 21 4) (g0 21 5) (g0 21 6) (g0 21 7) (g0 21 8)) = 0 then 0 else 1 : Int32)]) := by
    have jr : qzU_section_0_2_2 g0 = (if (qzS_isSwept (g0 21 4) (g0 21 5) (g0 21 6) (g0 21 7) (g0 21 8)) = 0 then 0 else 1 : Int32) := by unfold qzU_section_0_2_2; rfl
    exact hret _ () H locs 65 ls hP hS rfl jr.symm dzU_section_65
  refine lv_if_eq (pc := 57) (tgt := 64) hx hb dzU_section_57 (by decide) (fun h1 => ?_) (fun h1 => ?_)
  ·
    refine lv_iconst (v := 0) (pc := 64) hx hb dzU_section_64 (by decide) ?_
    have K9 := K1
    try simp only [if_pos h1] at K9
    first | exact K9 | (simp only [if_pos h1]; exact K9)
  ·
    refine lv_iconst (v := 1) (pc := 60) hx hb dzU_section_60 (by decide) ?_
    refine lv_goto (tgt := 65) (pc := 61) hx hb dzU_section_61 (by decide) ?_
    have K9 := K1
    try simp only [if_neg h1] at K9
    first | exact K9 | (simp only [if_neg h1]; exact K9)

def qzU_section_0_2_3 (g0 : xk_St) : Int32 := g0 21 4
set_option maxHeartbeats 4000000 in
set_option maxRecDepth 100000 in
theorem kzU_section_0_2_3 (l : Launch) (G : va_G) (ac : Nat → ClassId) (ad : Nat → Nat) (g0 : xk_St) : xk_CI l yzU_section czU_section 5 .int xk_WS xk_r2 G xk_cls (xk_tys ac) [.ref (ad 0), .int 0, .int 2, .int 3] (xk_wU ad ac g0) (fun r (_ : Unit) => r = qzU_section_0_2_3 g0) (fun _ => (xk_wU ad ac g0)) := by
  refine xk_ofI (by decide) (Nat.le_of_ble_eq_true rfl) ?_
  intro p e s m args below meth c A Q H locs ls C0 hret hP hD hS hl
  obtain ⟨hx, hb, hml, hts, hown, hK, hA⟩ := C0
  have hl : lv_has ls 5 [(0, .ref (ad 0)), (1, .int 0), (2, .int 2), (3, .int 3)] := hl
  refine lv_aload_n (pc := 0) hx hb dzU_section_0 rfl (lv_at hl 0 rfl) ?_
  refine lv_iload_n (pc := 1) hx hb dzU_section_1 rfl (lv_at hl 1 rfl) ?_
  refine lv_iload_n (pc := 2) hx hb dzU_section_2 rfl (lv_at hl 2 rfl) ?_
  refine xk_allVR (As := [.int 0, .int 2]) (rest := []) (H0 := s.heap) (pc := 3) hx hb hml hts hown hK hA hP hD hS (kzU_findSection_0_2 l G ac ad g0) vfzU_174 0 rfl rfl ⟨rfl, rfl⟩ ⟨Nat.le_of_ble_eq_true rfl, Nat.le_of_ble_eq_true rfl⟩ rfl hl.1 rfl (Nat.le_of_ble_eq_true rfl) ⟨Nat.zero_le _, Nat.zero_le _⟩ dzU_section_3 (fun H locs hP hD hS => ?_)
  have hP : va_P G xk_cls (xk_wU ad ac g0) H := hP
  have hD : va_D A (xk_wU ad ac g0) := hD
  refine lv_astore (lv' := [(4, .ref (ad 21)), (0, .ref (ad 0)), (1, .int 0), (2, .int 2), (3, .int 3)]) (pc := 6) hx hb dzU_section_6 hl (by decide) rfl (fun ls hl => ?_)
  refine lv_iload_n (pc := 8) hx hb dzU_section_8 rfl (lv_at hl 4 rfl) ?_
  refine lv_tableIn (pc := 9) (tgt := 66) hx hb dzU_section_9 (by decide) (by decide) (by rfl) (by decide) ?_
  refine lv_aload (pc := 66) hx hb dzU_section_66 (lv_at hl 0 rfl) ?_
  refine xk_get (pc := 68) hx hb hts hown hK hP ffzU_189 21 rfl rfl dzU_section_68 ?_
  have jr : qzU_section_0_2_3 g0 = g0 21 4 := by unfold qzU_section_0_2_3; rfl
  exact hret _ () H locs 71 ls hP hS rfl jr.symm dzU_section_71

def qzU_section_1_0_0 (g0 : xk_St) : Int32 := qzS_state (g0 22 1) (g0 22 3)
set_option maxHeartbeats 4000000 in
set_option maxRecDepth 100000 in
theorem kzU_section_1_0_0 (l : Launch) (G : va_G) (ac : Nat → ClassId) (ad : Nat → Nat) (g0 : xk_St) : xk_CI l yzU_section czU_section 5 .int xk_WS xk_r2 G xk_cls (xk_tys ac) [.ref (ad 0), .int 1, .int 0, .int 0] (xk_wU ad ac g0) (fun r (_ : Unit) => r = qzU_section_1_0_0 g0) (fun _ => (xk_wU ad ac g0)) := by
  refine xk_ofI (by decide) (Nat.le_of_ble_eq_true rfl) ?_
  intro p e s m args below meth c A Q H locs ls C0 hret hP hD hS hl
  obtain ⟨hx, hb, hml, hts, hown, hK, hA⟩ := C0
  have hl : lv_has ls 5 [(0, .ref (ad 0)), (1, .int 1), (2, .int 0), (3, .int 0)] := hl
  refine lv_aload_n (pc := 0) hx hb dzU_section_0 rfl (lv_at hl 0 rfl) ?_
  refine lv_iload_n (pc := 1) hx hb dzU_section_1 rfl (lv_at hl 1 rfl) ?_
  refine lv_iload_n (pc := 2) hx hb dzU_section_2 rfl (lv_at hl 2 rfl) ?_
  refine xk_allVR (As := [.int 1, .int 0]) (rest := []) (H0 := s.heap) (pc := 3) hx hb hml hts hown hK hA hP hD hS (kzU_findSection_1_0 l G ac ad g0) vfzU_174 0 rfl rfl ⟨rfl, rfl⟩ ⟨Nat.le_of_ble_eq_true rfl, Nat.le_of_ble_eq_true rfl⟩ rfl hl.1 rfl (Nat.le_of_ble_eq_true rfl) ⟨Nat.zero_le _, Nat.zero_le _⟩ dzU_section_3 (fun H locs hP hD hS => ?_)
  have hP : va_P G xk_cls (xk_wU ad ac g0) H := hP
  have hD : va_D A (xk_wU ad ac g0) := hD
  refine lv_astore (lv' := [(4, .ref (ad 22)), (0, .ref (ad 0)), (1, .int 1), (2, .int 0), (3, .int 0)]) (pc := 6) hx hb dzU_section_6 hl (by decide) rfl (fun ls hl => ?_)
  refine lv_iload_n (pc := 8) hx hb dzU_section_8 rfl (lv_at hl 4 rfl) ?_
  refine lv_tableIn (pc := 9) (tgt := 40) hx hb dzU_section_9 (by decide) (by decide) (by rfl) (by decide) ?_
  refine lv_aload (pc := 40) hx hb dzU_section_40 (lv_at hl 0 rfl) ?_
  refine xk_callVI (As := []) (rest := []) (H0 := s.heap) (pc := 42) hx hb hml hts hown hK hA hP hD hS (kzS_state l G ac (ad 22) (g0 22 0) (g0 22 1) (g0 22 2) (g0 22 3) (g0 22 4) (g0 22 5) (g0 22 6) (g0 22 7) (g0 22 8)) vfzU_162 [22] (by decide) rfl (fun _ => rfl) 22 rfl rfl ⟨rfl, rfl⟩ ⟨Nat.le_of_ble_eq_true rfl, Nat.le_of_ble_eq_true rfl⟩ rfl hl.1 rfl (Nat.le_of_ble_eq_true rfl) ⟨Nat.zero_le _, Nat.zero_le _⟩ dzU_section_42 (fun r1 u9 H locs e9 hP hD hS => ?_)
  obtain rfl : r1 = qzS_state (g0 22 1) (g0 22 3) := e9
  have hP : va_P G xk_cls (xk_wU ad ac g0) H := hP
  have hD : va_D A (xk_wU ad ac g0) := hD
  have jr : qzU_section_1_0_0 g0 = qzS_state (g0 22 1) (g0 22 3) := by unfold qzU_section_1_0_0; rfl
  exact hret _ () H locs 45 ls hP hS rfl jr.symm dzU_section_45

def qzU_section_1_0_1 (g0 : xk_St) : Int32 := g0 22 1
set_option maxHeartbeats 4000000 in
set_option maxRecDepth 100000 in
theorem kzU_section_1_0_1 (l : Launch) (G : va_G) (ac : Nat → ClassId) (ad : Nat → Nat) (g0 : xk_St) : xk_CI l yzU_section czU_section 5 .int xk_WS xk_r2 G xk_cls (xk_tys ac) [.ref (ad 0), .int 1, .int 0, .int 1] (xk_wU ad ac g0) (fun r (_ : Unit) => r = qzU_section_1_0_1 g0) (fun _ => (xk_wU ad ac g0)) := by
  refine xk_ofI (by decide) (Nat.le_of_ble_eq_true rfl) ?_
  intro p e s m args below meth c A Q H locs ls C0 hret hP hD hS hl
  obtain ⟨hx, hb, hml, hts, hown, hK, hA⟩ := C0
  have hl : lv_has ls 5 [(0, .ref (ad 0)), (1, .int 1), (2, .int 0), (3, .int 1)] := hl
  refine lv_aload_n (pc := 0) hx hb dzU_section_0 rfl (lv_at hl 0 rfl) ?_
  refine lv_iload_n (pc := 1) hx hb dzU_section_1 rfl (lv_at hl 1 rfl) ?_
  refine lv_iload_n (pc := 2) hx hb dzU_section_2 rfl (lv_at hl 2 rfl) ?_
  refine xk_allVR (As := [.int 1, .int 0]) (rest := []) (H0 := s.heap) (pc := 3) hx hb hml hts hown hK hA hP hD hS (kzU_findSection_1_0 l G ac ad g0) vfzU_174 0 rfl rfl ⟨rfl, rfl⟩ ⟨Nat.le_of_ble_eq_true rfl, Nat.le_of_ble_eq_true rfl⟩ rfl hl.1 rfl (Nat.le_of_ble_eq_true rfl) ⟨Nat.zero_le _, Nat.zero_le _⟩ dzU_section_3 (fun H locs hP hD hS => ?_)
  have hP : va_P G xk_cls (xk_wU ad ac g0) H := hP
  have hD : va_D A (xk_wU ad ac g0) := hD
  refine lv_astore (lv' := [(4, .ref (ad 22)), (0, .ref (ad 0)), (1, .int 1), (2, .int 0), (3, .int 1)]) (pc := 6) hx hb dzU_section_6 hl (by decide) rfl (fun ls hl => ?_)
  refine lv_iload_n (pc := 8) hx hb dzU_section_8 rfl (lv_at hl 4 rfl) ?_
  refine lv_tableIn (pc := 9) (tgt := 46) hx hb dzU_section_9 (by decide) (by decide) (by rfl) (by decide) ?_
  refine lv_aload (pc := 46) hx hb dzU_section_46 (lv_at hl 0 rfl) ?_
  refine xk_get (pc := 48) hx hb hts hown hK hP ffzU_207 22 rfl rfl dzU_section_48 ?_
  have jr : qzU_section_1_0_1 g0 = g0 22 1 := by unfold qzU_section_1_0_1; rfl
  exact hret _ () H locs 51 ls hP hS rfl jr.symm dzU_section_51

def qzU_section_1_0_2 (g0 : xk_St) : Int32 := (if (qzS_isSwept (g0 22 4) (g0 22 5) (g0 22 6) (g0 22 7) (g0 22 8)) = 0 then 0 else 1 : Int32)
set_option maxHeartbeats 4000000 in
set_option maxRecDepth 100000 in
theorem kzU_section_1_0_2 (l : Launch) (G : va_G) (ac : Nat → ClassId) (ad : Nat → Nat) (g0 : xk_St) : xk_CI l yzU_section czU_section 5 .int xk_WS xk_r2 G xk_cls (xk_tys ac) [.ref (ad 0), .int 1, .int 0, .int 2] (xk_wU ad ac g0) (fun r (_ : Unit) => r = qzU_section_1_0_2 g0) (fun _ => (xk_wU ad ac g0)) := by
  refine xk_ofI (by decide) (Nat.le_of_ble_eq_true rfl) ?_
  intro p e s m args below meth c A Q H locs ls C0 hret hP hD hS hl
  obtain ⟨hx, hb, hml, hts, hown, hK, hA⟩ := C0
  have hl : lv_has ls 5 [(0, .ref (ad 0)), (1, .int 1), (2, .int 0), (3, .int 2)] := hl
  refine lv_aload_n (pc := 0) hx hb dzU_section_0 rfl (lv_at hl 0 rfl) ?_
  refine lv_iload_n (pc := 1) hx hb dzU_section_1 rfl (lv_at hl 1 rfl) ?_
  refine lv_iload_n (pc := 2) hx hb dzU_section_2 rfl (lv_at hl 2 rfl) ?_
  refine xk_allVR (As := [.int 1, .int 0]) (rest := []) (H0 := s.heap) (pc := 3) hx hb hml hts hown hK hA hP hD hS (kzU_findSection_1_0 l G ac ad g0) vfzU_174 0 rfl rfl ⟨rfl, rfl⟩ ⟨Nat.le_of_ble_eq_true rfl, Nat.le_of_ble_eq_true rfl⟩ rfl hl.1 rfl (Nat.le_of_ble_eq_true rfl) ⟨Nat.zero_le _, Nat.zero_le _⟩ dzU_section_3 (fun H locs hP hD hS => ?_)
  have hP : va_P G xk_cls (xk_wU ad ac g0) H := hP
  have hD : va_D A (xk_wU ad ac g0) := hD
  refine lv_astore (lv' := [(4, .ref (ad 22)), (0, .ref (ad 0)), (1, .int 1), (2, .int 0), (3, .int 2)]) (pc := 6) hx hb dzU_section_6 hl (by decide) rfl (fun ls hl => ?_)
  refine lv_iload_n (pc := 8) hx hb dzU_section_8 rfl (lv_at hl 4 rfl) ?_
  refine lv_tableIn (pc := 9) (tgt := 52) hx hb dzU_section_9 (by decide) (by decide) (by rfl) (by decide) ?_
  refine lv_aload (pc := 52) hx hb dzU_section_52 (lv_at hl 0 rfl) ?_
  refine xk_callVI (As := []) (rest := []) (H0 := s.heap) (pc := 54) hx hb hml hts hown hK hA hP hD hS (kzS_isSwept l G ac (ad 22) (g0 22 0) (g0 22 1) (g0 22 2) (g0 22 3) (g0 22 4) (g0 22 5) (g0 22 6) (g0 22 7) (g0 22 8)) vfzU_194 [22] (by decide) rfl (fun _ => rfl) 22 rfl rfl ⟨rfl, rfl⟩ ⟨Nat.le_of_ble_eq_true rfl, Nat.le_of_ble_eq_true rfl⟩ rfl hl.1 rfl (Nat.le_of_ble_eq_true rfl) ⟨Nat.zero_le _, Nat.zero_le _⟩ dzU_section_54 (fun r1 u9 H locs e9 hP hD hS => ?_)
  obtain rfl : r1 = qzS_isSwept (g0 22 4) (g0 22 5) (g0 22 6) (g0 22 7) (g0 22 8) := e9
  have hP : va_P G xk_cls (xk_wU ad ac g0) H := hP
  have hD : va_D A (xk_wU ad ac g0) := hD
  have K1 : W p l e xk_r2 s m args below meth c H locs 0 0 Q (F0 m 65 ls [.int (if (qzS_isSwept (g0 22 4) (g0 22 5) (g0 22 6) (g0 22 7) (g0 22 8)) = 0 then 0 else 1 : Int32)]) := by
    have jr : qzU_section_1_0_2 g0 = (if (qzS_isSwept (g0 22 4) (g0 22 5) (g0 22 6) (g0 22 7) (g0 22 8)) = 0 then 0 else 1 : Int32) := by unfold qzU_section_1_0_2; rfl
    exact hret _ () H locs 65 ls hP hS rfl jr.symm dzU_section_65
  refine lv_if_eq (pc := 57) (tgt := 64) hx hb dzU_section_57 (by decide) (fun h1 => ?_) (fun h1 => ?_)
  ·
    refine lv_iconst (v := 0) (pc := 64) hx hb dzU_section_64 (by decide) ?_
    have K9 := K1
    try simp only [if_pos h1] at K9
    first | exact K9 | (simp only [if_pos h1]; exact K9)
  ·
    refine lv_iconst (v := 1) (pc := 60) hx hb dzU_section_60 (by decide) ?_
    refine lv_goto (tgt := 65) (pc := 61) hx hb dzU_section_61 (by decide) ?_
    have K9 := K1
    try simp only [if_neg h1] at K9
    first | exact K9 | (simp only [if_neg h1]; exact K9)

def qzU_section_1_0_3 (g0 : xk_St) : Int32 := g0 22 4
set_option maxHeartbeats 4000000 in
set_option maxRecDepth 100000 in
theorem kzU_section_1_0_3 (l : Launch) (G : va_G) (ac : Nat → ClassId) (ad : Nat → Nat) (g0 : xk_St) : xk_CI l yzU_section czU_section 5 .int xk_WS xk_r2 G xk_cls (xk_tys ac) [.ref (ad 0), .int 1, .int 0, .int 3] (xk_wU ad ac g0) (fun r (_ : Unit) => r = qzU_section_1_0_3 g0) (fun _ => (xk_wU ad ac g0)) := by
  refine xk_ofI (by decide) (Nat.le_of_ble_eq_true rfl) ?_
  intro p e s m args below meth c A Q H locs ls C0 hret hP hD hS hl
  obtain ⟨hx, hb, hml, hts, hown, hK, hA⟩ := C0
  have hl : lv_has ls 5 [(0, .ref (ad 0)), (1, .int 1), (2, .int 0), (3, .int 3)] := hl
  refine lv_aload_n (pc := 0) hx hb dzU_section_0 rfl (lv_at hl 0 rfl) ?_
  refine lv_iload_n (pc := 1) hx hb dzU_section_1 rfl (lv_at hl 1 rfl) ?_
  refine lv_iload_n (pc := 2) hx hb dzU_section_2 rfl (lv_at hl 2 rfl) ?_
  refine xk_allVR (As := [.int 1, .int 0]) (rest := []) (H0 := s.heap) (pc := 3) hx hb hml hts hown hK hA hP hD hS (kzU_findSection_1_0 l G ac ad g0) vfzU_174 0 rfl rfl ⟨rfl, rfl⟩ ⟨Nat.le_of_ble_eq_true rfl, Nat.le_of_ble_eq_true rfl⟩ rfl hl.1 rfl (Nat.le_of_ble_eq_true rfl) ⟨Nat.zero_le _, Nat.zero_le _⟩ dzU_section_3 (fun H locs hP hD hS => ?_)
  have hP : va_P G xk_cls (xk_wU ad ac g0) H := hP
  have hD : va_D A (xk_wU ad ac g0) := hD
  refine lv_astore (lv' := [(4, .ref (ad 22)), (0, .ref (ad 0)), (1, .int 1), (2, .int 0), (3, .int 3)]) (pc := 6) hx hb dzU_section_6 hl (by decide) rfl (fun ls hl => ?_)
  refine lv_iload_n (pc := 8) hx hb dzU_section_8 rfl (lv_at hl 4 rfl) ?_
  refine lv_tableIn (pc := 9) (tgt := 66) hx hb dzU_section_9 (by decide) (by decide) (by rfl) (by decide) ?_
  refine lv_aload (pc := 66) hx hb dzU_section_66 (lv_at hl 0 rfl) ?_
  refine xk_get (pc := 68) hx hb hts hown hK hP ffzU_189 22 rfl rfl dzU_section_68 ?_
  have jr : qzU_section_1_0_3 g0 = g0 22 4 := by unfold qzU_section_1_0_3; rfl
  exact hret _ () H locs 71 ls hP hS rfl jr.symm dzU_section_71

def qzU_section_1_1_0 (g0 : xk_St) : Int32 := qzS_state (g0 23 1) (g0 23 3)
set_option maxHeartbeats 4000000 in
set_option maxRecDepth 100000 in
theorem kzU_section_1_1_0 (l : Launch) (G : va_G) (ac : Nat → ClassId) (ad : Nat → Nat) (g0 : xk_St) : xk_CI l yzU_section czU_section 5 .int xk_WS xk_r2 G xk_cls (xk_tys ac) [.ref (ad 0), .int 1, .int 1, .int 0] (xk_wU ad ac g0) (fun r (_ : Unit) => r = qzU_section_1_1_0 g0) (fun _ => (xk_wU ad ac g0)) := by
  refine xk_ofI (by decide) (Nat.le_of_ble_eq_true rfl) ?_
  intro p e s m args below meth c A Q H locs ls C0 hret hP hD hS hl
  obtain ⟨hx, hb, hml, hts, hown, hK, hA⟩ := C0
  have hl : lv_has ls 5 [(0, .ref (ad 0)), (1, .int 1), (2, .int 1), (3, .int 0)] := hl
  refine lv_aload_n (pc := 0) hx hb dzU_section_0 rfl (lv_at hl 0 rfl) ?_
  refine lv_iload_n (pc := 1) hx hb dzU_section_1 rfl (lv_at hl 1 rfl) ?_
  refine lv_iload_n (pc := 2) hx hb dzU_section_2 rfl (lv_at hl 2 rfl) ?_
  refine xk_allVR (As := [.int 1, .int 1]) (rest := []) (H0 := s.heap) (pc := 3) hx hb hml hts hown hK hA hP hD hS (kzU_findSection_1_1 l G ac ad g0) vfzU_174 0 rfl rfl ⟨rfl, rfl⟩ ⟨Nat.le_of_ble_eq_true rfl, Nat.le_of_ble_eq_true rfl⟩ rfl hl.1 rfl (Nat.le_of_ble_eq_true rfl) ⟨Nat.zero_le _, Nat.zero_le _⟩ dzU_section_3 (fun H locs hP hD hS => ?_)
  have hP : va_P G xk_cls (xk_wU ad ac g0) H := hP
  have hD : va_D A (xk_wU ad ac g0) := hD
  refine lv_astore (lv' := [(4, .ref (ad 23)), (0, .ref (ad 0)), (1, .int 1), (2, .int 1), (3, .int 0)]) (pc := 6) hx hb dzU_section_6 hl (by decide) rfl (fun ls hl => ?_)
  refine lv_iload_n (pc := 8) hx hb dzU_section_8 rfl (lv_at hl 4 rfl) ?_
  refine lv_tableIn (pc := 9) (tgt := 40) hx hb dzU_section_9 (by decide) (by decide) (by rfl) (by decide) ?_
  refine lv_aload (pc := 40) hx hb dzU_section_40 (lv_at hl 0 rfl) ?_
  refine xk_callVI (As := []) (rest := []) (H0 := s.heap) (pc := 42) hx hb hml hts hown hK hA hP hD hS (kzS_state l G ac (ad 23) (g0 23 0) (g0 23 1) (g0 23 2) (g0 23 3) (g0 23 4) (g0 23 5) (g0 23 6) (g0 23 7) (g0 23 8)) vfzU_162 [23] (by decide) rfl (fun _ => rfl) 23 rfl rfl ⟨rfl, rfl⟩ ⟨Nat.le_of_ble_eq_true rfl, Nat.le_of_ble_eq_true rfl⟩ rfl hl.1 rfl (Nat.le_of_ble_eq_true rfl) ⟨Nat.zero_le _, Nat.zero_le _⟩ dzU_section_42 (fun r1 u9 H locs e9 hP hD hS => ?_)
  obtain rfl : r1 = qzS_state (g0 23 1) (g0 23 3) := e9
  have hP : va_P G xk_cls (xk_wU ad ac g0) H := hP
  have hD : va_D A (xk_wU ad ac g0) := hD
  have jr : qzU_section_1_1_0 g0 = qzS_state (g0 23 1) (g0 23 3) := by unfold qzU_section_1_1_0; rfl
  exact hret _ () H locs 45 ls hP hS rfl jr.symm dzU_section_45

def qzU_section_1_1_1 (g0 : xk_St) : Int32 := g0 23 1
set_option maxHeartbeats 4000000 in
set_option maxRecDepth 100000 in
theorem kzU_section_1_1_1 (l : Launch) (G : va_G) (ac : Nat → ClassId) (ad : Nat → Nat) (g0 : xk_St) : xk_CI l yzU_section czU_section 5 .int xk_WS xk_r2 G xk_cls (xk_tys ac) [.ref (ad 0), .int 1, .int 1, .int 1] (xk_wU ad ac g0) (fun r (_ : Unit) => r = qzU_section_1_1_1 g0) (fun _ => (xk_wU ad ac g0)) := by
  refine xk_ofI (by decide) (Nat.le_of_ble_eq_true rfl) ?_
  intro p e s m args below meth c A Q H locs ls C0 hret hP hD hS hl
  obtain ⟨hx, hb, hml, hts, hown, hK, hA⟩ := C0
  have hl : lv_has ls 5 [(0, .ref (ad 0)), (1, .int 1), (2, .int 1), (3, .int 1)] := hl
  refine lv_aload_n (pc := 0) hx hb dzU_section_0 rfl (lv_at hl 0 rfl) ?_
  refine lv_iload_n (pc := 1) hx hb dzU_section_1 rfl (lv_at hl 1 rfl) ?_
  refine lv_iload_n (pc := 2) hx hb dzU_section_2 rfl (lv_at hl 2 rfl) ?_
  refine xk_allVR (As := [.int 1, .int 1]) (rest := []) (H0 := s.heap) (pc := 3) hx hb hml hts hown hK hA hP hD hS (kzU_findSection_1_1 l G ac ad g0) vfzU_174 0 rfl rfl ⟨rfl, rfl⟩ ⟨Nat.le_of_ble_eq_true rfl, Nat.le_of_ble_eq_true rfl⟩ rfl hl.1 rfl (Nat.le_of_ble_eq_true rfl) ⟨Nat.zero_le _, Nat.zero_le _⟩ dzU_section_3 (fun H locs hP hD hS => ?_)
  have hP : va_P G xk_cls (xk_wU ad ac g0) H := hP
  have hD : va_D A (xk_wU ad ac g0) := hD
  refine lv_astore (lv' := [(4, .ref (ad 23)), (0, .ref (ad 0)), (1, .int 1), (2, .int 1), (3, .int 1)]) (pc := 6) hx hb dzU_section_6 hl (by decide) rfl (fun ls hl => ?_)
  refine lv_iload_n (pc := 8) hx hb dzU_section_8 rfl (lv_at hl 4 rfl) ?_
  refine lv_tableIn (pc := 9) (tgt := 46) hx hb dzU_section_9 (by decide) (by decide) (by rfl) (by decide) ?_
  refine lv_aload (pc := 46) hx hb dzU_section_46 (lv_at hl 0 rfl) ?_
  refine xk_get (pc := 48) hx hb hts hown hK hP ffzU_207 23 rfl rfl dzU_section_48 ?_
  have jr : qzU_section_1_1_1 g0 = g0 23 1 := by unfold qzU_section_1_1_1; rfl
  exact hret _ () H locs 51 ls hP hS rfl jr.symm dzU_section_51

def qzU_section_1_1_2 (g0 : xk_St) : Int32 := (if (qzS_isSwept (g0 23 4) (g0 23 5) (g0 23 6) (g0 23 7) (g0 23 8)) = 0 then 0 else 1 : Int32)
set_option maxHeartbeats 4000000 in
set_option maxRecDepth 100000 in
theorem kzU_section_1_1_2 (l : Launch) (G : va_G) (ac : Nat → ClassId) (ad : Nat → Nat) (g0 : xk_St) : xk_CI l yzU_section czU_section 5 .int xk_WS xk_r2 G xk_cls (xk_tys ac) [.ref (ad 0), .int 1, .int 1, .int 2] (xk_wU ad ac g0) (fun r (_ : Unit) => r = qzU_section_1_1_2 g0) (fun _ => (xk_wU ad ac g0)) := by
  refine xk_ofI (by decide) (Nat.le_of_ble_eq_true rfl) ?_
  intro p e s m args below meth c A Q H locs ls C0 hret hP hD hS hl
  obtain ⟨hx, hb, hml, hts, hown, hK, hA⟩ := C0
  have hl : lv_has ls 5 [(0, .ref (ad 0)), (1, .int 1), (2, .int 1), (3, .int 2)] := hl
  refine lv_aload_n (pc := 0) hx hb dzU_section_0 rfl (lv_at hl 0 rfl) ?_
  refine lv_iload_n (pc := 1) hx hb dzU_section_1 rfl (lv_at hl 1 rfl) ?_
  refine lv_iload_n (pc := 2) hx hb dzU_section_2 rfl (lv_at hl 2 rfl) ?_
  refine xk_allVR (As := [.int 1, .int 1]) (rest := []) (H0 := s.heap) (pc := 3) hx hb hml hts hown hK hA hP hD hS (kzU_findSection_1_1 l G ac ad g0) vfzU_174 0 rfl rfl ⟨rfl, rfl⟩ ⟨Nat.le_of_ble_eq_true rfl, Nat.le_of_ble_eq_true rfl⟩ rfl hl.1 rfl (Nat.le_of_ble_eq_true rfl) ⟨Nat.zero_le _, Nat.zero_le _⟩ dzU_section_3 (fun H locs hP hD hS => ?_)
  have hP : va_P G xk_cls (xk_wU ad ac g0) H := hP
  have hD : va_D A (xk_wU ad ac g0) := hD
  refine lv_astore (lv' := [(4, .ref (ad 23)), (0, .ref (ad 0)), (1, .int 1), (2, .int 1), (3, .int 2)]) (pc := 6) hx hb dzU_section_6 hl (by decide) rfl (fun ls hl => ?_)
  refine lv_iload_n (pc := 8) hx hb dzU_section_8 rfl (lv_at hl 4 rfl) ?_
  refine lv_tableIn (pc := 9) (tgt := 52) hx hb dzU_section_9 (by decide) (by decide) (by rfl) (by decide) ?_
  refine lv_aload (pc := 52) hx hb dzU_section_52 (lv_at hl 0 rfl) ?_
  refine xk_callVI (As := []) (rest := []) (H0 := s.heap) (pc := 54) hx hb hml hts hown hK hA hP hD hS (kzS_isSwept l G ac (ad 23) (g0 23 0) (g0 23 1) (g0 23 2) (g0 23 3) (g0 23 4) (g0 23 5) (g0 23 6) (g0 23 7) (g0 23 8)) vfzU_194 [23] (by decide) rfl (fun _ => rfl) 23 rfl rfl ⟨rfl, rfl⟩ ⟨Nat.le_of_ble_eq_true rfl, Nat.le_of_ble_eq_true rfl⟩ rfl hl.1 rfl (Nat.le_of_ble_eq_true rfl) ⟨Nat.zero_le _, Nat.zero_le _⟩ dzU_section_54 (fun r1 u9 H locs e9 hP hD hS => ?_)
  obtain rfl : r1 = qzS_isSwept (g0 23 4) (g0 23 5) (g0 23 6) (g0 23 7) (g0 23 8) := e9
  have hP : va_P G xk_cls (xk_wU ad ac g0) H := hP
  have hD : va_D A (xk_wU ad ac g0) := hD
  have K1 : W p l e xk_r2 s m args below meth c H locs 0 0 Q (F0 m 65 ls [.int (if (qzS_isSwept (g0 23 4) (g0 23 5) (g0 23 6) (g0 23 7) (g0 23 8)) = 0 then 0 else 1 : Int32)]) := by
    have jr : qzU_section_1_1_2 g0 = (if (qzS_isSwept (g0 23 4) (g0 23 5) (g0 23 6) (g0 23 7) (g0 23 8)) = 0 then 0 else 1 : Int32) := by unfold qzU_section_1_1_2; rfl
    exact hret _ () H locs 65 ls hP hS rfl jr.symm dzU_section_65
  refine lv_if_eq (pc := 57) (tgt := 64) hx hb dzU_section_57 (by decide) (fun h1 => ?_) (fun h1 => ?_)
  ·
    refine lv_iconst (v := 0) (pc := 64) hx hb dzU_section_64 (by decide) ?_
    have K9 := K1
    try simp only [if_pos h1] at K9
    first | exact K9 | (simp only [if_pos h1]; exact K9)
  ·
    refine lv_iconst (v := 1) (pc := 60) hx hb dzU_section_60 (by decide) ?_
    refine lv_goto (tgt := 65) (pc := 61) hx hb dzU_section_61 (by decide) ?_
    have K9 := K1
    try simp only [if_neg h1] at K9
    first | exact K9 | (simp only [if_neg h1]; exact K9)

def qzU_section_1_1_3 (g0 : xk_St) : Int32 := g0 23 4
set_option maxHeartbeats 4000000 in
set_option maxRecDepth 100000 in
theorem kzU_section_1_1_3 (l : Launch) (G : va_G) (ac : Nat → ClassId) (ad : Nat → Nat) (g0 : xk_St) : xk_CI l yzU_section czU_section 5 .int xk_WS xk_r2 G xk_cls (xk_tys ac) [.ref (ad 0), .int 1, .int 1, .int 3] (xk_wU ad ac g0) (fun r (_ : Unit) => r = qzU_section_1_1_3 g0) (fun _ => (xk_wU ad ac g0)) := by
  refine xk_ofI (by decide) (Nat.le_of_ble_eq_true rfl) ?_
  intro p e s m args below meth c A Q H locs ls C0 hret hP hD hS hl
  obtain ⟨hx, hb, hml, hts, hown, hK, hA⟩ := C0
  have hl : lv_has ls 5 [(0, .ref (ad 0)), (1, .int 1), (2, .int 1), (3, .int 3)] := hl
  refine lv_aload_n (pc := 0) hx hb dzU_section_0 rfl (lv_at hl 0 rfl) ?_
  refine lv_iload_n (pc := 1) hx hb dzU_section_1 rfl (lv_at hl 1 rfl) ?_
  refine lv_iload_n (pc := 2) hx hb dzU_section_2 rfl (lv_at hl 2 rfl) ?_
  refine xk_allVR (As := [.int 1, .int 1]) (rest := []) (H0 := s.heap) (pc := 3) hx hb hml hts hown hK hA hP hD hS (kzU_findSection_1_1 l G ac ad g0) vfzU_174 0 rfl rfl ⟨rfl, rfl⟩ ⟨Nat.le_of_ble_eq_true rfl, Nat.le_of_ble_eq_true rfl⟩ rfl hl.1 rfl (Nat.le_of_ble_eq_true rfl) ⟨Nat.zero_le _, Nat.zero_le _⟩ dzU_section_3 (fun H locs hP hD hS => ?_)
  have hP : va_P G xk_cls (xk_wU ad ac g0) H := hP
  have hD : va_D A (xk_wU ad ac g0) := hD
  refine lv_astore (lv' := [(4, .ref (ad 23)), (0, .ref (ad 0)), (1, .int 1), (2, .int 1), (3, .int 3)]) (pc := 6) hx hb dzU_section_6 hl (by decide) rfl (fun ls hl => ?_)
  refine lv_iload_n (pc := 8) hx hb dzU_section_8 rfl (lv_at hl 4 rfl) ?_
  refine lv_tableIn (pc := 9) (tgt := 66) hx hb dzU_section_9 (by decide) (by decide) (by rfl) (by decide) ?_
  refine lv_aload (pc := 66) hx hb dzU_section_66 (lv_at hl 0 rfl) ?_
  refine xk_get (pc := 68) hx hb hts hown hK hP ffzU_189 23 rfl rfl dzU_section_68 ?_
  have jr : qzU_section_1_1_3 g0 = g0 23 4 := by unfold qzU_section_1_1_3; rfl
  exact hret _ () H locs 71 ls hP hS rfl jr.symm dzU_section_71

def qzU_section_1_2_0 (g0 : xk_St) : Int32 := qzS_state (g0 24 1) (g0 24 3)
set_option maxHeartbeats 4000000 in
set_option maxRecDepth 100000 in
theorem kzU_section_1_2_0 (l : Launch) (G : va_G) (ac : Nat → ClassId) (ad : Nat → Nat) (g0 : xk_St) : xk_CI l yzU_section czU_section 5 .int xk_WS xk_r2 G xk_cls (xk_tys ac) [.ref (ad 0), .int 1, .int 2, .int 0] (xk_wU ad ac g0) (fun r (_ : Unit) => r = qzU_section_1_2_0 g0) (fun _ => (xk_wU ad ac g0)) := by
  refine xk_ofI (by decide) (Nat.le_of_ble_eq_true rfl) ?_
  intro p e s m args below meth c A Q H locs ls C0 hret hP hD hS hl
  obtain ⟨hx, hb, hml, hts, hown, hK, hA⟩ := C0
  have hl : lv_has ls 5 [(0, .ref (ad 0)), (1, .int 1), (2, .int 2), (3, .int 0)] := hl
  refine lv_aload_n (pc := 0) hx hb dzU_section_0 rfl (lv_at hl 0 rfl) ?_
  refine lv_iload_n (pc := 1) hx hb dzU_section_1 rfl (lv_at hl 1 rfl) ?_
  refine lv_iload_n (pc := 2) hx hb dzU_section_2 rfl (lv_at hl 2 rfl) ?_
  refine xk_allVR (As := [.int 1, .int 2]) (rest := []) (H0 := s.heap) (pc := 3) hx hb hml hts hown hK hA hP hD hS (kzU_findSection_1_2 l G ac ad g0) vfzU_174 0 rfl rfl ⟨rfl, rfl⟩ ⟨Nat.le_of_ble_eq_true rfl, Nat.le_of_ble_eq_true rfl⟩ rfl hl.1 rfl (Nat.le_of_ble_eq_true rfl) ⟨Nat.zero_le _, Nat.zero_le _⟩ dzU_section_3 (fun H locs hP hD hS => ?_)
  have hP : va_P G xk_cls (xk_wU ad ac g0) H := hP
  have hD : va_D A (xk_wU ad ac g0) := hD
  refine lv_astore (lv' := [(4, .ref (ad 24)), (0, .ref (ad 0)), (1, .int 1), (2, .int 2), (3, .int 0)]) (pc := 6) hx hb dzU_section_6 hl (by decide) rfl (fun ls hl => ?_)
  refine lv_iload_n (pc := 8) hx hb dzU_section_8 rfl (lv_at hl 4 rfl) ?_
  refine lv_tableIn (pc := 9) (tgt := 40) hx hb dzU_section_9 (by decide) (by decide) (by rfl) (by decide) ?_
  refine lv_aload (pc := 40) hx hb dzU_section_40 (lv_at hl 0 rfl) ?_
  refine xk_callVI (As := []) (rest := []) (H0 := s.heap) (pc := 42) hx hb hml hts hown hK hA hP hD hS (kzS_state l G ac (ad 24) (g0 24 0) (g0 24 1) (g0 24 2) (g0 24 3) (g0 24 4) (g0 24 5) (g0 24 6) (g0 24 7) (g0 24 8)) vfzU_162 [24] (by decide) rfl (fun _ => rfl) 24 rfl rfl ⟨rfl, rfl⟩ ⟨Nat.le_of_ble_eq_true rfl, Nat.le_of_ble_eq_true rfl⟩ rfl hl.1 rfl (Nat.le_of_ble_eq_true rfl) ⟨Nat.zero_le _, Nat.zero_le _⟩ dzU_section_42 (fun r1 u9 H locs e9 hP hD hS => ?_)
  obtain rfl : r1 = qzS_state (g0 24 1) (g0 24 3) := e9
  have hP : va_P G xk_cls (xk_wU ad ac g0) H := hP
  have hD : va_D A (xk_wU ad ac g0) := hD
  have jr : qzU_section_1_2_0 g0 = qzS_state (g0 24 1) (g0 24 3) := by unfold qzU_section_1_2_0; rfl
  exact hret _ () H locs 45 ls hP hS rfl jr.symm dzU_section_45

def qzU_section_1_2_1 (g0 : xk_St) : Int32 := g0 24 1
set_option maxHeartbeats 4000000 in
set_option maxRecDepth 100000 in
theorem kzU_section_1_2_1 (l : Launch) (G : va_G) (ac : Nat → ClassId) (ad : Nat → Nat) (g0 : xk_St) : xk_CI l yzU_section czU_section 5 .int xk_WS xk_r2 G xk_cls (xk_tys ac) [.ref (ad 0), .int 1, .int 2, .int 1] (xk_wU ad ac g0) (fun r (_ : Unit) => r = qzU_section_1_2_1 g0) (fun _ => (xk_wU ad ac g0)) := by
  refine xk_ofI (by decide) (Nat.le_of_ble_eq_true rfl) ?_
  intro p e s m args below meth c A Q H locs ls C0 hret hP hD hS hl
  obtain ⟨hx, hb, hml, hts, hown, hK, hA⟩ := C0
  have hl : lv_has ls 5 [(0, .ref (ad 0)), (1, .int 1), (2, .int 2), (3, .int 1)] := hl
  refine lv_aload_n (pc := 0) hx hb dzU_section_0 rfl (lv_at hl 0 rfl) ?_
  refine lv_iload_n (pc := 1) hx hb dzU_section_1 rfl (lv_at hl 1 rfl) ?_
  refine lv_iload_n (pc := 2) hx hb dzU_section_2 rfl (lv_at hl 2 rfl) ?_
  refine xk_allVR (As := [.int 1, .int 2]) (rest := []) (H0 := s.heap) (pc := 3) hx hb hml hts hown hK hA hP hD hS (kzU_findSection_1_2 l G ac ad g0) vfzU_174 0 rfl rfl ⟨rfl, rfl⟩ ⟨Nat.le_of_ble_eq_true rfl, Nat.le_of_ble_eq_true rfl⟩ rfl hl.1 rfl (Nat.le_of_ble_eq_true rfl) ⟨Nat.zero_le _, Nat.zero_le _⟩ dzU_section_3 (fun H locs hP hD hS => ?_)
  have hP : va_P G xk_cls (xk_wU ad ac g0) H := hP
  have hD : va_D A (xk_wU ad ac g0) := hD
  refine lv_astore (lv' := [(4, .ref (ad 24)), (0, .ref (ad 0)), (1, .int 1), (2, .int 2), (3, .int 1)]) (pc := 6) hx hb dzU_section_6 hl (by decide) rfl (fun ls hl => ?_)
  refine lv_iload_n (pc := 8) hx hb dzU_section_8 rfl (lv_at hl 4 rfl) ?_
  refine lv_tableIn (pc := 9) (tgt := 46) hx hb dzU_section_9 (by decide) (by decide) (by rfl) (by decide) ?_
  refine lv_aload (pc := 46) hx hb dzU_section_46 (lv_at hl 0 rfl) ?_
  refine xk_get (pc := 48) hx hb hts hown hK hP ffzU_207 24 rfl rfl dzU_section_48 ?_
  have jr : qzU_section_1_2_1 g0 = g0 24 1 := by unfold qzU_section_1_2_1; rfl
  exact hret _ () H locs 51 ls hP hS rfl jr.symm dzU_section_51

def qzU_section_1_2_2 (g0 : xk_St) : Int32 := (if (qzS_isSwept (g0 24 4) (g0 24 5) (g0 24 6) (g0 24 7) (g0 24 8)) = 0 then 0 else 1 : Int32)
set_option maxHeartbeats 4000000 in
set_option maxRecDepth 100000 in
theorem kzU_section_1_2_2 (l : Launch) (G : va_G) (ac : Nat → ClassId) (ad : Nat → Nat) (g0 : xk_St) : xk_CI l yzU_section czU_section 5 .int xk_WS xk_r2 G xk_cls (xk_tys ac) [.ref (ad 0), .int 1, .int 2, .int 2] (xk_wU ad ac g0) (fun r (_ : Unit) => r = qzU_section_1_2_2 g0) (fun _ => (xk_wU ad ac g0)) := by
  refine xk_ofI (by decide) (Nat.le_of_ble_eq_true rfl) ?_
  intro p e s m args below meth c A Q H locs ls C0 hret hP hD hS hl
  obtain ⟨hx, hb, hml, hts, hown, hK, hA⟩ := C0
  have hl : lv_has ls 5 [(0, .ref (ad 0)), (1, .int 1), (2, .int 2), (3, .int 2)] := hl
  refine lv_aload_n (pc := 0) hx hb dzU_section_0 rfl (lv_at hl 0 rfl) ?_
  refine lv_iload_n (pc := 1) hx hb dzU_section_1 rfl (lv_at hl 1 rfl) ?_
  refine lv_iload_n (pc := 2) hx hb dzU_section_2 rfl (lv_at hl 2 rfl) ?_
  refine xk_allVR (As := [.int 1, .int 2]) (rest := []) (H0 := s.heap) (pc := 3) hx hb hml hts hown hK hA hP hD hS (kzU_findSection_1_2 l G ac ad g0) vfzU_174 0 rfl rfl ⟨rfl, rfl⟩ ⟨Nat.le_of_ble_eq_true rfl, Nat.le_of_ble_eq_true rfl⟩ rfl hl.1 rfl (Nat.le_of_ble_eq_true rfl) ⟨Nat.zero_le _, Nat.zero_le _⟩ dzU_section_3 (fun H locs hP hD hS => ?_)
  have hP : va_P G xk_cls (xk_wU ad ac g0) H := hP
  have hD : va_D A (xk_wU ad ac g0) := hD
  refine lv_astore (lv' := [(4, .ref (ad 24)), (0, .ref (ad 0)), (1, .int 1), (2, .int 2), (3, .int 2)]) (pc := 6) hx hb dzU_section_6 hl (by decide) rfl (fun ls hl => ?_)
  refine lv_iload_n (pc := 8) hx hb dzU_section_8 rfl (lv_at hl 4 rfl) ?_
  refine lv_tableIn (pc := 9) (tgt := 52) hx hb dzU_section_9 (by decide) (by decide) (by rfl) (by decide) ?_
  refine lv_aload (pc := 52) hx hb dzU_section_52 (lv_at hl 0 rfl) ?_
  refine xk_callVI (As := []) (rest := []) (H0 := s.heap) (pc := 54) hx hb hml hts hown hK hA hP hD hS (kzS_isSwept l G ac (ad 24) (g0 24 0) (g0 24 1) (g0 24 2) (g0 24 3) (g0 24 4) (g0 24 5) (g0 24 6) (g0 24 7) (g0 24 8)) vfzU_194 [24] (by decide) rfl (fun _ => rfl) 24 rfl rfl ⟨rfl, rfl⟩ ⟨Nat.le_of_ble_eq_true rfl, Nat.le_of_ble_eq_true rfl⟩ rfl hl.1 rfl (Nat.le_of_ble_eq_true rfl) ⟨Nat.zero_le _, Nat.zero_le _⟩ dzU_section_54 (fun r1 u9 H locs e9 hP hD hS => ?_)
  obtain rfl : r1 = qzS_isSwept (g0 24 4) (g0 24 5) (g0 24 6) (g0 24 7) (g0 24 8) := e9
  have hP : va_P G xk_cls (xk_wU ad ac g0) H := hP
  have hD : va_D A (xk_wU ad ac g0) := hD
  have K1 : W p l e xk_r2 s m args below meth c H locs 0 0 Q (F0 m 65 ls [.int (if (qzS_isSwept (g0 24 4) (g0 24 5) (g0 24 6) (g0 24 7) (g0 24 8)) = 0 then 0 else 1 : Int32)]) := by
    have jr : qzU_section_1_2_2 g0 = (if (qzS_isSwept (g0 24 4) (g0 24 5) (g0 24 6) (g0 24 7) (g0 24 8)) = 0 then 0 else 1 : Int32) := by unfold qzU_section_1_2_2; rfl
    exact hret _ () H locs 65 ls hP hS rfl jr.symm dzU_section_65
  refine lv_if_eq (pc := 57) (tgt := 64) hx hb dzU_section_57 (by decide) (fun h1 => ?_) (fun h1 => ?_)
  ·
    refine lv_iconst (v := 0) (pc := 64) hx hb dzU_section_64 (by decide) ?_
    have K9 := K1
    try simp only [if_pos h1] at K9
    first | exact K9 | (simp only [if_pos h1]; exact K9)
  ·
    refine lv_iconst (v := 1) (pc := 60) hx hb dzU_section_60 (by decide) ?_
    refine lv_goto (tgt := 65) (pc := 61) hx hb dzU_section_61 (by decide) ?_
    have K9 := K1
    try simp only [if_neg h1] at K9
    first | exact K9 | (simp only [if_neg h1]; exact K9)

def qzU_section_1_2_3 (g0 : xk_St) : Int32 := g0 24 4
set_option maxHeartbeats 4000000 in
set_option maxRecDepth 100000 in
theorem kzU_section_1_2_3 (l : Launch) (G : va_G) (ac : Nat → ClassId) (ad : Nat → Nat) (g0 : xk_St) : xk_CI l yzU_section czU_section 5 .int xk_WS xk_r2 G xk_cls (xk_tys ac) [.ref (ad 0), .int 1, .int 2, .int 3] (xk_wU ad ac g0) (fun r (_ : Unit) => r = qzU_section_1_2_3 g0) (fun _ => (xk_wU ad ac g0)) := by
  refine xk_ofI (by decide) (Nat.le_of_ble_eq_true rfl) ?_
  intro p e s m args below meth c A Q H locs ls C0 hret hP hD hS hl
  obtain ⟨hx, hb, hml, hts, hown, hK, hA⟩ := C0
  have hl : lv_has ls 5 [(0, .ref (ad 0)), (1, .int 1), (2, .int 2), (3, .int 3)] := hl
  refine lv_aload_n (pc := 0) hx hb dzU_section_0 rfl (lv_at hl 0 rfl) ?_
  refine lv_iload_n (pc := 1) hx hb dzU_section_1 rfl (lv_at hl 1 rfl) ?_
  refine lv_iload_n (pc := 2) hx hb dzU_section_2 rfl (lv_at hl 2 rfl) ?_
  refine xk_allVR (As := [.int 1, .int 2]) (rest := []) (H0 := s.heap) (pc := 3) hx hb hml hts hown hK hA hP hD hS (kzU_findSection_1_2 l G ac ad g0) vfzU_174 0 rfl rfl ⟨rfl, rfl⟩ ⟨Nat.le_of_ble_eq_true rfl, Nat.le_of_ble_eq_true rfl⟩ rfl hl.1 rfl (Nat.le_of_ble_eq_true rfl) ⟨Nat.zero_le _, Nat.zero_le _⟩ dzU_section_3 (fun H locs hP hD hS => ?_)
  have hP : va_P G xk_cls (xk_wU ad ac g0) H := hP
  have hD : va_D A (xk_wU ad ac g0) := hD
  refine lv_astore (lv' := [(4, .ref (ad 24)), (0, .ref (ad 0)), (1, .int 1), (2, .int 2), (3, .int 3)]) (pc := 6) hx hb dzU_section_6 hl (by decide) rfl (fun ls hl => ?_)
  refine lv_iload_n (pc := 8) hx hb dzU_section_8 rfl (lv_at hl 4 rfl) ?_
  refine lv_tableIn (pc := 9) (tgt := 66) hx hb dzU_section_9 (by decide) (by decide) (by rfl) (by decide) ?_
  refine lv_aload (pc := 66) hx hb dzU_section_66 (lv_at hl 0 rfl) ?_
  refine xk_get (pc := 68) hx hb hts hown hK hP ffzU_189 24 rfl rfl dzU_section_68 ?_
  have jr : qzU_section_1_2_3 g0 = g0 24 4 := by unfold qzU_section_1_2_3; rfl
  exact hret _ () H locs 71 ls hP hS rfl jr.symm dzU_section_71

